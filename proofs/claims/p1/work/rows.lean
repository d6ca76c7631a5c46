section
-- ===== PART A: goes FIRST, ahead of the names: the tables' words, and 'selects' of the private methods out of them =====
/-- a private method of a class that the tables say can be made, by its rows of tables_1 -/
def lw_okq (q : MethodName × Nat) : Prop := (q.1.cls ≠ "java/lang/invoke/MethodHandle" ∧ q.1.cls ≠ "java/lang/invoke/VarHandle") ∧ Cond.instantiable q.1.cls q.2 ∈ tables_1 ∧ Cond.privateMethod q.1 ∈ tables_1 ∧ Cond.instanceMethod q.1 ∈ tables_1
theorem lw_p0 : lw_okq (⟨"HoopWaist", "hoopCame", "(LHoopWaist$Shelf;I)Z"⟩, 10) := ⟨⟨by decide +kernel, by decide +kernel⟩, List.mem_of_getElem? (i := 16) (by decide +kernel), List.mem_of_getElem? (i := 385) (by decide +kernel), List.mem_of_getElem? (i := 386) (by decide +kernel)⟩
theorem lw_p1 : lw_okq (⟨"HoopWaist", "canBecome", "(III)Z"⟩, 10) := ⟨⟨by decide +kernel, by decide +kernel⟩, List.mem_of_getElem? (i := 16) (by decide +kernel), List.mem_of_getElem? (i := 396) (by decide +kernel), List.mem_of_getElem? (i := 397) (by decide +kernel)⟩
theorem lw_p2 : lw_okq (⟨"HoopWaist", "settingCanBecome", "(II)Z"⟩, 10) := ⟨⟨by decide +kernel, by decide +kernel⟩, List.mem_of_getElem? (i := 16) (by decide +kernel), List.mem_of_getElem? (i := 411) (by decide +kernel), List.mem_of_getElem? (i := 412) (by decide +kernel)⟩
theorem lw_p3 : lw_okq (⟨"HoopWaist", "valueOf", "(II)I"⟩, 10) := ⟨⟨by decide +kernel, by decide +kernel⟩, List.mem_of_getElem? (i := 16) (by decide +kernel), List.mem_of_getElem? (i := 419) (by decide +kernel), List.mem_of_getElem? (i := 420) (by decide +kernel)⟩
theorem lw_p4 : lw_okq (⟨"HoopWaist", "settingOf", "(I)I"⟩, 10) := ⟨⟨by decide +kernel, by decide +kernel⟩, List.mem_of_getElem? (i := 16) (by decide +kernel), List.mem_of_getElem? (i := 432) (by decide +kernel), List.mem_of_getElem? (i := 433) (by decide +kernel)⟩
theorem lw_p5 : lw_okq (⟨"HoopWaist", "lay", "(III)V"⟩, 10) := ⟨⟨by decide +kernel, by decide +kernel⟩, List.mem_of_getElem? (i := 16) (by decide +kernel), List.mem_of_getElem? (i := 436) (by decide +kernel), List.mem_of_getElem? (i := 437) (by decide +kernel)⟩
theorem lw_p6 : lw_okq (⟨"HoopWaist$Changes", "forgetOldest", "()V"⟩, 6) := ⟨⟨by decide +kernel, by decide +kernel⟩, List.mem_of_getElem? (i := 228) (by decide +kernel), List.mem_of_getElem? (i := 449) (by decide +kernel), List.mem_of_getElem? (i := 450) (by decide +kernel)⟩
theorem lw_p7 : lw_okq (⟨"HoopWaist$Reader", "readLine", "()V"⟩, 5) := ⟨⟨by decide +kernel, by decide +kernel⟩, List.mem_of_getElem? (i := 52) (by decide +kernel), List.mem_of_getElem? (i := 479) (by decide +kernel), List.mem_of_getElem? (i := 480) (by decide +kernel)⟩
theorem lw_p8 : lw_okq (⟨"HoopWaist$Reader", "readChain", "(II)V"⟩, 5) := ⟨⟨by decide +kernel, by decide +kernel⟩, List.mem_of_getElem? (i := 52) (by decide +kernel), List.mem_of_getElem? (i := 483) (by decide +kernel), List.mem_of_getElem? (i := 484) (by decide +kernel)⟩
theorem lw_p9 : lw_okq (⟨"HoopWaist$Reader", "readOperand", "(I)V"⟩, 5) := ⟨⟨by decide +kernel, by decide +kernel⟩, List.mem_of_getElem? (i := 52) (by decide +kernel), List.mem_of_getElem? (i := 487) (by decide +kernel), List.mem_of_getElem? (i := 488) (by decide +kernel)⟩
theorem lw_p10 : lw_okq (⟨"HoopWaist$Reader", "next", "()I"⟩, 5) := ⟨⟨by decide +kernel, by decide +kernel⟩, List.mem_of_getElem? (i := 52) (by decide +kernel), List.mem_of_getElem? (i := 491) (by decide +kernel), List.mem_of_getElem? (i := 492) (by decide +kernel)⟩
theorem lw_p11 : lw_okq (⟨"HoopWaist$Reader", "readNumber", "()V"⟩, 5) := ⟨⟨by decide +kernel, by decide +kernel⟩, List.mem_of_getElem? (i := 52) (by decide +kernel), List.mem_of_getElem? (i := 498) (by decide +kernel), List.mem_of_getElem? (i := 499) (by decide +kernel)⟩
theorem lw_p12 : lw_okq (⟨"HoopWaist$Reader", "readOpened", "(II)V"⟩, 5) := ⟨⟨by decide +kernel, by decide +kernel⟩, List.mem_of_getElem? (i := 52) (by decide +kernel), List.mem_of_getElem? (i := 509) (by decide +kernel), List.mem_of_getElem? (i := 510) (by decide +kernel)⟩
theorem lw_p13 : lw_okq (⟨"HoopWaist$Reader", "takes", "(I)Z"⟩, 5) := ⟨⟨by decide +kernel, by decide +kernel⟩, List.mem_of_getElem? (i := 52) (by decide +kernel), List.mem_of_getElem? (i := 513) (by decide +kernel), List.mem_of_getElem? (i := 514) (by decide +kernel)⟩
theorem lw_p14 : lw_okq (⟨"HoopWaist$Reader", "isJoin", "(I)Z"⟩, 5) := ⟨⟨by decide +kernel, by decide +kernel⟩, List.mem_of_getElem? (i := 52) (by decide +kernel), List.mem_of_getElem? (i := 517) (by decide +kernel), List.mem_of_getElem? (i := 518) (by decide +kernel)⟩
theorem lw_p15 : lw_okq (⟨"HoopWaist$Law", "worth", "()I"⟩, 6) := ⟨⟨by decide +kernel, by decide +kernel⟩, List.mem_of_getElem? (i := 24) (by decide +kernel), List.mem_of_getElem? (i := 577) (by decide +kernel), List.mem_of_getElem? (i := 578) (by decide +kernel)⟩
def lw_privs_1 : List (MethodName × Nat) := [(⟨"HoopWaist", "hoopCame", "(LHoopWaist$Shelf;I)Z"⟩, 10), (⟨"HoopWaist", "canBecome", "(III)Z"⟩, 10), (⟨"HoopWaist", "settingCanBecome", "(II)Z"⟩, 10), (⟨"HoopWaist", "valueOf", "(II)I"⟩, 10), (⟨"HoopWaist", "settingOf", "(I)I"⟩, 10), (⟨"HoopWaist", "lay", "(III)V"⟩, 10), (⟨"HoopWaist$Changes", "forgetOldest", "()V"⟩, 6), (⟨"HoopWaist$Reader", "readLine", "()V"⟩, 5), (⟨"HoopWaist$Reader", "readChain", "(II)V"⟩, 5), (⟨"HoopWaist$Reader", "readOperand", "(I)V"⟩, 5), (⟨"HoopWaist$Reader", "next", "()I"⟩, 5), (⟨"HoopWaist$Reader", "readNumber", "()V"⟩, 5), (⟨"HoopWaist$Reader", "readOpened", "(II)V"⟩, 5), (⟨"HoopWaist$Reader", "takes", "(I)Z"⟩, 5), (⟨"HoopWaist$Reader", "isJoin", "(I)Z"⟩, 5), (⟨"HoopWaist$Law", "worth", "()I"⟩, 6)]
theorem lw_r1 : ∀ q ∈ lw_privs_1, lw_okq q := List.forall_mem_cons.mpr ⟨lw_p0, List.forall_mem_cons.mpr ⟨lw_p1, List.forall_mem_cons.mpr ⟨lw_p2, List.forall_mem_cons.mpr ⟨lw_p3, List.forall_mem_cons.mpr ⟨lw_p4, List.forall_mem_cons.mpr ⟨lw_p5, List.forall_mem_cons.mpr ⟨lw_p6, List.forall_mem_cons.mpr ⟨lw_p7, List.forall_mem_cons.mpr ⟨lw_p8, List.forall_mem_cons.mpr ⟨lw_p9, List.forall_mem_cons.mpr ⟨lw_p10, List.forall_mem_cons.mpr ⟨lw_p11, List.forall_mem_cons.mpr ⟨lw_p12, List.forall_mem_cons.mpr ⟨lw_p13, List.forall_mem_cons.mpr ⟨lw_p14, List.forall_mem_cons.mpr ⟨lw_p15, fun _ h => absurd h List.not_mem_nil⟩⟩⟩⟩⟩⟩⟩⟩⟩⟩⟩⟩⟩⟩⟩⟩
theorem lw_p16 : lw_okq (⟨"HoopWaist$Law", "pile", "(I)V"⟩, 6) := ⟨⟨by decide +kernel, by decide +kernel⟩, List.mem_of_getElem? (i := 24) (by decide +kernel), List.mem_of_getElem? (i := 581) (by decide +kernel), List.mem_of_getElem? (i := 582) (by decide +kernel)⟩
theorem lw_p17 : lw_okq (⟨"HoopWaist$Law", "unpile", "()I"⟩, 6) := ⟨⟨by decide +kernel, by decide +kernel⟩, List.mem_of_getElem? (i := 24) (by decide +kernel), List.mem_of_getElem? (i := 592) (by decide +kernel), List.mem_of_getElem? (i := 593) (by decide +kernel)⟩
theorem lw_p18 : lw_okq (⟨"HoopWaist$Ring", "cross", "()V"⟩, 10) := ⟨⟨by decide +kernel, by decide +kernel⟩, List.mem_of_getElem? (i := 78) (by decide +kernel), List.mem_of_getElem? (i := 614) (by decide +kernel), List.mem_of_getElem? (i := 615) (by decide +kernel)⟩
theorem lw_p19 : lw_okq (⟨"HoopWaist$Thought", "step", "()V"⟩, 8) := ⟨⟨by decide +kernel, by decide +kernel⟩, List.mem_of_getElem? (i := 161) (by decide +kernel), List.mem_of_getElem? (i := 663) (by decide +kernel), List.mem_of_getElem? (i := 664) (by decide +kernel)⟩
theorem lw_p20 : lw_okq (⟨"HoopWaist$Field", "playMinute", "(I)V"⟩, 7) := ⟨⟨by decide +kernel, by decide +kernel⟩, List.mem_of_getElem? (i := 193) (by decide +kernel), List.mem_of_getElem? (i := 802) (by decide +kernel), List.mem_of_getElem? (i := 803) (by decide +kernel)⟩
theorem lw_p21 : lw_okq (⟨"HoopWaist$Field", "draw", "()I"⟩, 7) := ⟨⟨by decide +kernel, by decide +kernel⟩, List.mem_of_getElem? (i := 193) (by decide +kernel), List.mem_of_getElem? (i := 806) (by decide +kernel), List.mem_of_getElem? (i := 807) (by decide +kernel)⟩
theorem lw_p22 : lw_okq (⟨"HoopWaist$Field", "drop", "(III)V"⟩, 7) := ⟨⟨by decide +kernel, by decide +kernel⟩, List.mem_of_getElem? (i := 193) (by decide +kernel), List.mem_of_getElem? (i := 811) (by decide +kernel), List.mem_of_getElem? (i := 812) (by decide +kernel)⟩
theorem lw_p23 : lw_okq (⟨"HoopWaist$Field", "knockFrom", "(II)V"⟩, 7) := ⟨⟨by decide +kernel, by decide +kernel⟩, List.mem_of_getElem? (i := 193) (by decide +kernel), List.mem_of_getElem? (i := 815) (by decide +kernel), List.mem_of_getElem? (i := 816) (by decide +kernel)⟩
theorem lw_p24 : lw_okq (⟨"HoopWaist$Turns", "own", "(III)I"⟩, 5) := ⟨⟨by decide +kernel, by decide +kernel⟩, List.mem_of_getElem? (i := 259) (by decide +kernel), List.mem_of_getElem? (i := 915) (by decide +kernel), List.mem_of_getElem? (i := 916) (by decide +kernel)⟩
theorem lw_p25 : lw_okq (⟨"HoopWaist$Turns", "runFrom", "(IIII)I"⟩, 5) := ⟨⟨by decide +kernel, by decide +kernel⟩, List.mem_of_getElem? (i := 259) (by decide +kernel), List.mem_of_getElem? (i := 920) (by decide +kernel), List.mem_of_getElem? (i := 921) (by decide +kernel)⟩
theorem lw_p26 : lw_okq (⟨"HoopWaist$Turns", "run", "(IIII)I"⟩, 5) := ⟨⟨by decide +kernel, by decide +kernel⟩, List.mem_of_getElem? (i := 259) (by decide +kernel), List.mem_of_getElem? (i := 927) (by decide +kernel), List.mem_of_getElem? (i := 928) (by decide +kernel)⟩
theorem lw_p27 : lw_okq (⟨"HoopWaist$Turns", "note", "(I)V"⟩, 5) := ⟨⟨by decide +kernel, by decide +kernel⟩, List.mem_of_getElem? (i := 259) (by decide +kernel), List.mem_of_getElem? (i := 931) (by decide +kernel), List.mem_of_getElem? (i := 932) (by decide +kernel)⟩
theorem lw_p28 : lw_okq (⟨"HoopWaist$Turns", "above", "(IIII)I"⟩, 5) := ⟨⟨by decide +kernel, by decide +kernel⟩, List.mem_of_getElem? (i := 259) (by decide +kernel), List.mem_of_getElem? (i := 935) (by decide +kernel), List.mem_of_getElem? (i := 936) (by decide +kernel)⟩
theorem lw_p29 : lw_okq (⟨"HoopWaistModel", "lays", "(II)V"⟩, 46) := ⟨⟨by decide +kernel, by decide +kernel⟩, List.mem_of_getElem? (i := 1009) (by decide +kernel), List.mem_of_getElem? (i := 1158) (by decide +kernel), List.mem_of_getElem? (i := 1159) (by decide +kernel)⟩
theorem lw_p30 : lw_okq (⟨"HoopWaistModel", "adds", "(III)V"⟩, 46) := ⟨⟨by decide +kernel, by decide +kernel⟩, List.mem_of_getElem? (i := 1009) (by decide +kernel), List.mem_of_getElem? (i := 1181) (by decide +kernel), List.mem_of_getElem? (i := 1182) (by decide +kernel)⟩
theorem lw_p31 : lw_okq (⟨"HoopWaistModel", "isHoop", "(I)Z"⟩, 46) := ⟨⟨by decide +kernel, by decide +kernel⟩, List.mem_of_getElem? (i := 1009) (by decide +kernel), List.mem_of_getElem? (i := 1198) (by decide +kernel), List.mem_of_getElem? (i := 1199) (by decide +kernel)⟩
def lw_privs_2 : List (MethodName × Nat) := [(⟨"HoopWaist$Law", "pile", "(I)V"⟩, 6), (⟨"HoopWaist$Law", "unpile", "()I"⟩, 6), (⟨"HoopWaist$Ring", "cross", "()V"⟩, 10), (⟨"HoopWaist$Thought", "step", "()V"⟩, 8), (⟨"HoopWaist$Field", "playMinute", "(I)V"⟩, 7), (⟨"HoopWaist$Field", "draw", "()I"⟩, 7), (⟨"HoopWaist$Field", "drop", "(III)V"⟩, 7), (⟨"HoopWaist$Field", "knockFrom", "(II)V"⟩, 7), (⟨"HoopWaist$Turns", "own", "(III)I"⟩, 5), (⟨"HoopWaist$Turns", "runFrom", "(IIII)I"⟩, 5), (⟨"HoopWaist$Turns", "run", "(IIII)I"⟩, 5), (⟨"HoopWaist$Turns", "note", "(I)V"⟩, 5), (⟨"HoopWaist$Turns", "above", "(IIII)I"⟩, 5), (⟨"HoopWaistModel", "lays", "(II)V"⟩, 46), (⟨"HoopWaistModel", "adds", "(III)V"⟩, 46), (⟨"HoopWaistModel", "isHoop", "(I)Z"⟩, 46)]
theorem lw_r2 : ∀ q ∈ lw_privs_2, lw_okq q := List.forall_mem_cons.mpr ⟨lw_p16, List.forall_mem_cons.mpr ⟨lw_p17, List.forall_mem_cons.mpr ⟨lw_p18, List.forall_mem_cons.mpr ⟨lw_p19, List.forall_mem_cons.mpr ⟨lw_p20, List.forall_mem_cons.mpr ⟨lw_p21, List.forall_mem_cons.mpr ⟨lw_p22, List.forall_mem_cons.mpr ⟨lw_p23, List.forall_mem_cons.mpr ⟨lw_p24, List.forall_mem_cons.mpr ⟨lw_p25, List.forall_mem_cons.mpr ⟨lw_p26, List.forall_mem_cons.mpr ⟨lw_p27, List.forall_mem_cons.mpr ⟨lw_p28, List.forall_mem_cons.mpr ⟨lw_p29, List.forall_mem_cons.mpr ⟨lw_p30, List.forall_mem_cons.mpr ⟨lw_p31, fun _ h => absurd h List.not_mem_nil⟩⟩⟩⟩⟩⟩⟩⟩⟩⟩⟩⟩⟩⟩⟩⟩
theorem lw_p32 : lw_okq (⟨"HoopWaistModel", "becomes", "(II)I"⟩, 46) := ⟨⟨by decide +kernel, by decide +kernel⟩, List.mem_of_getElem? (i := 1009) (by decide +kernel), List.mem_of_getElem? (i := 1202) (by decide +kernel), List.mem_of_getElem? (i := 1203) (by decide +kernel)⟩
theorem lw_p33 : lw_okq (⟨"HoopWaistModel", "needOf", "(I)I"⟩, 46) := ⟨⟨by decide +kernel, by decide +kernel⟩, List.mem_of_getElem? (i := 1009) (by decide +kernel), List.mem_of_getElem? (i := 1213) (by decide +kernel), List.mem_of_getElem? (i := 1214) (by decide +kernel)⟩
theorem lw_p34 : lw_okq (⟨"HoopWaistModel", "workOut", "(II)I"⟩, 46) := ⟨⟨by decide +kernel, by decide +kernel⟩, List.mem_of_getElem? (i := 1009) (by decide +kernel), List.mem_of_getElem? (i := 1230) (by decide +kernel), List.mem_of_getElem? (i := 1231) (by decide +kernel)⟩
theorem lw_p35 : lw_okq (⟨"HoopWaistModel", "either", "()I"⟩, 46) := ⟨⟨by decide +kernel, by decide +kernel⟩, List.mem_of_getElem? (i := 1009) (by decide +kernel), List.mem_of_getElem? (i := 1234) (by decide +kernel), List.mem_of_getElem? (i := 1235) (by decide +kernel)⟩
theorem lw_p36 : lw_okq (⟨"HoopWaistModel", "both", "()I"⟩, 46) := ⟨⟨by decide +kernel, by decide +kernel⟩, List.mem_of_getElem? (i := 1009) (by decide +kernel), List.mem_of_getElem? (i := 1238) (by decide +kernel), List.mem_of_getElem? (i := 1239) (by decide +kernel)⟩
theorem lw_p37 : lw_okq (⟨"HoopWaistModel", "compared", "()I"⟩, 46) := ⟨⟨by decide +kernel, by decide +kernel⟩, List.mem_of_getElem? (i := 1009) (by decide +kernel), List.mem_of_getElem? (i := 1242) (by decide +kernel), List.mem_of_getElem? (i := 1243) (by decide +kernel)⟩
theorem lw_p38 : lw_okq (⟨"HoopWaistModel", "sums", "()I"⟩, 46) := ⟨⟨by decide +kernel, by decide +kernel⟩, List.mem_of_getElem? (i := 1009) (by decide +kernel), List.mem_of_getElem? (i := 1246) (by decide +kernel), List.mem_of_getElem? (i := 1247) (by decide +kernel)⟩
theorem lw_p39 : lw_okq (⟨"HoopWaistModel", "product", "()I"⟩, 46) := ⟨⟨by decide +kernel, by decide +kernel⟩, List.mem_of_getElem? (i := 1009) (by decide +kernel), List.mem_of_getElem? (i := 1250) (by decide +kernel), List.mem_of_getElem? (i := 1251) (by decide +kernel)⟩
theorem lw_p40 : lw_okq (⟨"HoopWaistModel", "one", "()I"⟩, 46) := ⟨⟨by decide +kernel, by decide +kernel⟩, List.mem_of_getElem? (i := 1009) (by decide +kernel), List.mem_of_getElem? (i := 1254) (by decide +kernel), List.mem_of_getElem? (i := 1255) (by decide +kernel)⟩
theorem lw_p41 : lw_okq (⟨"HoopWaistModel", "byteAt", "()I"⟩, 46) := ⟨⟨by decide +kernel, by decide +kernel⟩, List.mem_of_getElem? (i := 1009) (by decide +kernel), List.mem_of_getElem? (i := 1258) (by decide +kernel), List.mem_of_getElem? (i := 1259) (by decide +kernel)⟩
theorem lw_p42 : lw_okq (⟨"HoopWaistModel", "wrong", "()I"⟩, 46) := ⟨⟨by decide +kernel, by decide +kernel⟩, List.mem_of_getElem? (i := 1009) (by decide +kernel), List.mem_of_getElem? (i := 1262) (by decide +kernel), List.mem_of_getElem? (i := 1263) (by decide +kernel)⟩
theorem lw_p43 : lw_okq (⟨"HoopWaistModel", "takes", "(I)Z"⟩, 46) := ⟨⟨by decide +kernel, by decide +kernel⟩, List.mem_of_getElem? (i := 1009) (by decide +kernel), List.mem_of_getElem? (i := 1266) (by decide +kernel), List.mem_of_getElem? (i := 1267) (by decide +kernel)⟩
theorem lw_p44 : lw_okq (⟨"HoopWaistModel", "upNow", "()I"⟩, 46) := ⟨⟨by decide +kernel, by decide +kernel⟩, List.mem_of_getElem? (i := 1009) (by decide +kernel), List.mem_of_getElem? (i := 1278) (by decide +kernel), List.mem_of_getElem? (i := 1279) (by decide +kernel)⟩
theorem lw_p45 : lw_okq (⟨"HoopWaistModel", "begins1", "(I)V"⟩, 46) := ⟨⟨by decide +kernel, by decide +kernel⟩, List.mem_of_getElem? (i := 1009) (by decide +kernel), List.mem_of_getElem? (i := 1282) (by decide +kernel), List.mem_of_getElem? (i := 1283) (by decide +kernel)⟩
theorem lw_p46 : lw_okq (⟨"HoopWaistModel", "lyingOf", "(I)I"⟩, 46) := ⟨⟨by decide +kernel, by decide +kernel⟩, List.mem_of_getElem? (i := 1009) (by decide +kernel), List.mem_of_getElem? (i := 1289) (by decide +kernel), List.mem_of_getElem? (i := 1290) (by decide +kernel)⟩
theorem lw_p47 : lw_okq (⟨"HoopWaistModel", "tickGoes", "(I)V"⟩, 46) := ⟨⟨by decide +kernel, by decide +kernel⟩, List.mem_of_getElem? (i := 1009) (by decide +kernel), List.mem_of_getElem? (i := 1293) (by decide +kernel), List.mem_of_getElem? (i := 1294) (by decide +kernel)⟩
def lw_privs_3 : List (MethodName × Nat) := [(⟨"HoopWaistModel", "becomes", "(II)I"⟩, 46), (⟨"HoopWaistModel", "needOf", "(I)I"⟩, 46), (⟨"HoopWaistModel", "workOut", "(II)I"⟩, 46), (⟨"HoopWaistModel", "either", "()I"⟩, 46), (⟨"HoopWaistModel", "both", "()I"⟩, 46), (⟨"HoopWaistModel", "compared", "()I"⟩, 46), (⟨"HoopWaistModel", "sums", "()I"⟩, 46), (⟨"HoopWaistModel", "product", "()I"⟩, 46), (⟨"HoopWaistModel", "one", "()I"⟩, 46), (⟨"HoopWaistModel", "byteAt", "()I"⟩, 46), (⟨"HoopWaistModel", "wrong", "()I"⟩, 46), (⟨"HoopWaistModel", "takes", "(I)Z"⟩, 46), (⟨"HoopWaistModel", "upNow", "()I"⟩, 46), (⟨"HoopWaistModel", "begins1", "(I)V"⟩, 46), (⟨"HoopWaistModel", "lyingOf", "(I)I"⟩, 46), (⟨"HoopWaistModel", "tickGoes", "(I)V"⟩, 46)]
theorem lw_r3 : ∀ q ∈ lw_privs_3, lw_okq q := List.forall_mem_cons.mpr ⟨lw_p32, List.forall_mem_cons.mpr ⟨lw_p33, List.forall_mem_cons.mpr ⟨lw_p34, List.forall_mem_cons.mpr ⟨lw_p35, List.forall_mem_cons.mpr ⟨lw_p36, List.forall_mem_cons.mpr ⟨lw_p37, List.forall_mem_cons.mpr ⟨lw_p38, List.forall_mem_cons.mpr ⟨lw_p39, List.forall_mem_cons.mpr ⟨lw_p40, List.forall_mem_cons.mpr ⟨lw_p41, List.forall_mem_cons.mpr ⟨lw_p42, List.forall_mem_cons.mpr ⟨lw_p43, List.forall_mem_cons.mpr ⟨lw_p44, List.forall_mem_cons.mpr ⟨lw_p45, List.forall_mem_cons.mpr ⟨lw_p46, List.forall_mem_cons.mpr ⟨lw_p47, fun _ h => absurd h List.not_mem_nil⟩⟩⟩⟩⟩⟩⟩⟩⟩⟩⟩⟩⟩⟩⟩⟩
theorem lw_p48 : lw_okq (⟨"HoopWaistModel", "isPush", "(I)Z"⟩, 46) := ⟨⟨by decide +kernel, by decide +kernel⟩, List.mem_of_getElem? (i := 1009) (by decide +kernel), List.mem_of_getElem? (i := 1297) (by decide +kernel), List.mem_of_getElem? (i := 1298) (by decide +kernel)⟩
theorem lw_p49 : lw_okq (⟨"HoopWaistModel", "toOf", "(I)I"⟩, 46) := ⟨⟨by decide +kernel, by decide +kernel⟩, List.mem_of_getElem? (i := 1009) (by decide +kernel), List.mem_of_getElem? (i := 1301) (by decide +kernel), List.mem_of_getElem? (i := 1302) (by decide +kernel)⟩
theorem lw_p50 : lw_okq (⟨"HoopWaistModel", "pushes", "(II)V"⟩, 46) := ⟨⟨by decide +kernel, by decide +kernel⟩, List.mem_of_getElem? (i := 1009) (by decide +kernel), List.mem_of_getElem? (i := 1305) (by decide +kernel), List.mem_of_getElem? (i := 1306) (by decide +kernel)⟩
theorem lw_p51 : lw_okq (⟨"HoopWaistModel", "gained", "(III)I"⟩, 46) := ⟨⟨by decide +kernel, by decide +kernel⟩, List.mem_of_getElem? (i := 1009) (by decide +kernel), List.mem_of_getElem? (i := 1312) (by decide +kernel), List.mem_of_getElem? (i := 1313) (by decide +kernel)⟩
theorem lw_p52 : lw_okq (⟨"HoopWaistModel", "becomesPace", "(II)V"⟩, 46) := ⟨⟨by decide +kernel, by decide +kernel⟩, List.mem_of_getElem? (i := 1009) (by decide +kernel), List.mem_of_getElem? (i := 1316) (by decide +kernel), List.mem_of_getElem? (i := 1317) (by decide +kernel)⟩
theorem lw_p53 : lw_okq (⟨"HoopWaistModel", "turns", "(I)V"⟩, 46) := ⟨⟨by decide +kernel, by decide +kernel⟩, List.mem_of_getElem? (i := 1009) (by decide +kernel), List.mem_of_getElem? (i := 1320) (by decide +kernel), List.mem_of_getElem? (i := 1321) (by decide +kernel)⟩
theorem lw_p54 : lw_okq (⟨"HoopWaistModel", "fallOf", "(I)I"⟩, 46) := ⟨⟨by decide +kernel, by decide +kernel⟩, List.mem_of_getElem? (i := 1009) (by decide +kernel), List.mem_of_getElem? (i := 1343) (by decide +kernel), List.mem_of_getElem? (i := 1344) (by decide +kernel)⟩
theorem lw_p55 : lw_okq (⟨"HoopWaistModel", "lastsOf", "(I)I"⟩, 46) := ⟨⟨by decide +kernel, by decide +kernel⟩, List.mem_of_getElem? (i := 1009) (by decide +kernel), List.mem_of_getElem? (i := 1351) (by decide +kernel), List.mem_of_getElem? (i := 1352) (by decide +kernel)⟩
theorem lw_p56 : lw_okq (⟨"HoopWaistModel", "mistaken", "(I)I"⟩, 46) := ⟨⟨by decide +kernel, by decide +kernel⟩, List.mem_of_getElem? (i := 1009) (by decide +kernel), List.mem_of_getElem? (i := 1369) (by decide +kernel), List.mem_of_getElem? (i := 1370) (by decide +kernel)⟩
theorem lw_p57 : lw_okq (⟨"HoopWaistModel", "fallWith", "(IIII)I"⟩, 46) := ⟨⟨by decide +kernel, by decide +kernel⟩, List.mem_of_getElem? (i := 1009) (by decide +kernel), List.mem_of_getElem? (i := 1381) (by decide +kernel), List.mem_of_getElem? (i := 1382) (by decide +kernel)⟩
theorem lw_p58 : lw_okq (⟨"HoopWaistModel", "rowIs", "(I)I"⟩, 46) := ⟨⟨by decide +kernel, by decide +kernel⟩, List.mem_of_getElem? (i := 1009) (by decide +kernel), List.mem_of_getElem? (i := 1393) (by decide +kernel), List.mem_of_getElem? (i := 1394) (by decide +kernel)⟩
theorem lw_p59 : lw_okq (⟨"HoopWaistModel", "firstFalse", "(II)I"⟩, 46) := ⟨⟨by decide +kernel, by decide +kernel⟩, List.mem_of_getElem? (i := 1009) (by decide +kernel), List.mem_of_getElem? (i := 1402) (by decide +kernel), List.mem_of_getElem? (i := 1403) (by decide +kernel)⟩
theorem lw_p60 : lw_okq (⟨"HoopWaistModel", "field", "(II)V"⟩, 46) := ⟨⟨by decide +kernel, by decide +kernel⟩, List.mem_of_getElem? (i := 1009) (by decide +kernel), List.mem_of_getElem? (i := 1423) (by decide +kernel), List.mem_of_getElem? (i := 1424) (by decide +kernel)⟩
theorem lw_p61 : lw_okq (⟨"HoopWaistModel", "draws", "()I"⟩, 46) := ⟨⟨by decide +kernel, by decide +kernel⟩, List.mem_of_getElem? (i := 1009) (by decide +kernel), List.mem_of_getElem? (i := 1427) (by decide +kernel), List.mem_of_getElem? (i := 1428) (by decide +kernel)⟩
theorem lw_p62 : lw_okq (⟨"HoopWaistModel", "drops", "(III)V"⟩, 46) := ⟨⟨by decide +kernel, by decide +kernel⟩, List.mem_of_getElem? (i := 1009) (by decide +kernel), List.mem_of_getElem? (i := 1432) (by decide +kernel), List.mem_of_getElem? (i := 1433) (by decide +kernel)⟩
theorem lw_p63 : lw_okq (⟨"HoopWaistModel", "isBody", "(I)Z"⟩, 46) := ⟨⟨by decide +kernel, by decide +kernel⟩, List.mem_of_getElem? (i := 1009) (by decide +kernel), List.mem_of_getElem? (i := 1481) (by decide +kernel), List.mem_of_getElem? (i := 1482) (by decide +kernel)⟩
def lw_privs_4 : List (MethodName × Nat) := [(⟨"HoopWaistModel", "isPush", "(I)Z"⟩, 46), (⟨"HoopWaistModel", "toOf", "(I)I"⟩, 46), (⟨"HoopWaistModel", "pushes", "(II)V"⟩, 46), (⟨"HoopWaistModel", "gained", "(III)I"⟩, 46), (⟨"HoopWaistModel", "becomesPace", "(II)V"⟩, 46), (⟨"HoopWaistModel", "turns", "(I)V"⟩, 46), (⟨"HoopWaistModel", "fallOf", "(I)I"⟩, 46), (⟨"HoopWaistModel", "lastsOf", "(I)I"⟩, 46), (⟨"HoopWaistModel", "mistaken", "(I)I"⟩, 46), (⟨"HoopWaistModel", "fallWith", "(IIII)I"⟩, 46), (⟨"HoopWaistModel", "rowIs", "(I)I"⟩, 46), (⟨"HoopWaistModel", "firstFalse", "(II)I"⟩, 46), (⟨"HoopWaistModel", "field", "(II)V"⟩, 46), (⟨"HoopWaistModel", "draws", "()I"⟩, 46), (⟨"HoopWaistModel", "drops", "(III)V"⟩, 46), (⟨"HoopWaistModel", "isBody", "(I)Z"⟩, 46)]
theorem lw_r4 : ∀ q ∈ lw_privs_4, lw_okq q := List.forall_mem_cons.mpr ⟨lw_p48, List.forall_mem_cons.mpr ⟨lw_p49, List.forall_mem_cons.mpr ⟨lw_p50, List.forall_mem_cons.mpr ⟨lw_p51, List.forall_mem_cons.mpr ⟨lw_p52, List.forall_mem_cons.mpr ⟨lw_p53, List.forall_mem_cons.mpr ⟨lw_p54, List.forall_mem_cons.mpr ⟨lw_p55, List.forall_mem_cons.mpr ⟨lw_p56, List.forall_mem_cons.mpr ⟨lw_p57, List.forall_mem_cons.mpr ⟨lw_p58, List.forall_mem_cons.mpr ⟨lw_p59, List.forall_mem_cons.mpr ⟨lw_p60, List.forall_mem_cons.mpr ⟨lw_p61, List.forall_mem_cons.mpr ⟨lw_p62, List.forall_mem_cons.mpr ⟨lw_p63, fun _ h => absurd h List.not_mem_nil⟩⟩⟩⟩⟩⟩⟩⟩⟩⟩⟩⟩⟩⟩⟩⟩
theorem lw_p64 : lw_okq (⟨"HoopWaistModel", "pushesAs", "(II)I"⟩, 46) := ⟨⟨by decide +kernel, by decide +kernel⟩, List.mem_of_getElem? (i := 1009) (by decide +kernel), List.mem_of_getElem? (i := 1485) (by decide +kernel), List.mem_of_getElem? (i := 1486) (by decide +kernel)⟩
theorem lw_p65 : lw_okq (⟨"HoopWaistModel", "begins", "(I)V"⟩, 46) := ⟨⟨by decide +kernel, by decide +kernel⟩, List.mem_of_getElem? (i := 1009) (by decide +kernel), List.mem_of_getElem? (i := 1489) (by decide +kernel), List.mem_of_getElem? (i := 1490) (by decide +kernel)⟩
theorem lw_p66 : lw_okq (⟨"HoopWaistModel", "turnsAs", "(II)I"⟩, 46) := ⟨⟨by decide +kernel, by decide +kernel⟩, List.mem_of_getElem? (i := 1009) (by decide +kernel), List.mem_of_getElem? (i := 1493) (by decide +kernel), List.mem_of_getElem? (i := 1494) (by decide +kernel)⟩
theorem lw_p67 : lw_okq (⟨"HoopWaistModel", "sinksAs", "(II)I"⟩, 46) := ⟨⟨by decide +kernel, by decide +kernel⟩, List.mem_of_getElem? (i := 1009) (by decide +kernel), List.mem_of_getElem? (i := 1497) (by decide +kernel), List.mem_of_getElem? (i := 1498) (by decide +kernel)⟩
theorem lw_p68 : lw_okq (⟨"HoopWaistModel", "tellsAs", "(II)I"⟩, 46) := ⟨⟨by decide +kernel, by decide +kernel⟩, List.mem_of_getElem? (i := 1009) (by decide +kernel), List.mem_of_getElem? (i := 1501) (by decide +kernel), List.mem_of_getElem? (i := 1502) (by decide +kernel)⟩
theorem lw_p69 : lw_okq (⟨"HoopWaistModel", "refusal", "(II)I"⟩, 46) := ⟨⟨by decide +kernel, by decide +kernel⟩, List.mem_of_getElem? (i := 1009) (by decide +kernel), List.mem_of_getElem? (i := 1521) (by decide +kernel), List.mem_of_getElem? (i := 1522) (by decide +kernel)⟩
theorem lw_p70 : lw_okq (⟨"HoopWaistModel", "kindOf", "(I)I"⟩, 46) := ⟨⟨by decide +kernel, by decide +kernel⟩, List.mem_of_getElem? (i := 1009) (by decide +kernel), List.mem_of_getElem? (i := 1540) (by decide +kernel), List.mem_of_getElem? (i := 1541) (by decide +kernel)⟩
def lw_privs_5 : List (MethodName × Nat) := [(⟨"HoopWaistModel", "pushesAs", "(II)I"⟩, 46), (⟨"HoopWaistModel", "begins", "(I)V"⟩, 46), (⟨"HoopWaistModel", "turnsAs", "(II)I"⟩, 46), (⟨"HoopWaistModel", "sinksAs", "(II)I"⟩, 46), (⟨"HoopWaistModel", "tellsAs", "(II)I"⟩, 46), (⟨"HoopWaistModel", "refusal", "(II)I"⟩, 46), (⟨"HoopWaistModel", "kindOf", "(I)I"⟩, 46)]
theorem lw_r5 : ∀ q ∈ lw_privs_5, lw_okq q := List.forall_mem_cons.mpr ⟨lw_p64, List.forall_mem_cons.mpr ⟨lw_p65, List.forall_mem_cons.mpr ⟨lw_p66, List.forall_mem_cons.mpr ⟨lw_p67, List.forall_mem_cons.mpr ⟨lw_p68, List.forall_mem_cons.mpr ⟨lw_p69, List.forall_mem_cons.mpr ⟨lw_p70, fun _ h => absurd h List.not_mem_nil⟩⟩⟩⟩⟩⟩⟩
def lw_privs : List (MethodName × Nat) := lw_privs_1 ++ (lw_privs_2 ++ (lw_privs_3 ++ (lw_privs_4 ++ (lw_privs_5))))
def lw_tbl : List Cond := k2_sels lw_privs ++ tables_1
theorem lw_privs_ok : ∀ q ∈ lw_privs, lw_okq q := by
  show ∀ q ∈ lw_privs_1 ++ (lw_privs_2 ++ (lw_privs_3 ++ (lw_privs_4 ++ (lw_privs_5)))), lw_okq q
  exact List.forall_mem_append.mpr ⟨lw_r1, List.forall_mem_append.mpr ⟨lw_r2, List.forall_mem_append.mpr ⟨lw_r3, List.forall_mem_append.mpr ⟨lw_r4, lw_r5⟩⟩⟩⟩
end
section
/-! names, out of what TURN printed -/
def RX0 : String := "HoopWaist$Changes"
def TX0 : u_T := fun k => match k with
  | 0 => ("HoopWaist$Changes", "number", "[I", true)
  | 1 => ("HoopWaist$Changes", "what", "[I", true)
  | 2 => ("HoopWaist$Changes", "was", "[I", true)
  | 3 => ("HoopWaist$Changes", "became", "[I", true)
  | 4 => ("HoopWaist$Changes", "undoable", "I", false)
  | _ => ("HoopWaist$Changes", "noted", "I", false)
def tyX0 : Nat → FieldType := fun k => match k with
  | 0 => .array .int
  | 1 => .array .int
  | 2 => .array .int
  | 3 => .array .int
  | 4 => .int
  | _ => .int
abbrev wsX00 : List Cond := u_ws RX0 TX0 6
theorem nmX0 : ∀ a, a < 6 → ∀ b, b < 6 → a ≠ b → (TX0 a).2.1 ≠ (TX0 b).2.1 := by decide +kernel
theorem tyX0_ok : ∀ k, k < 6 → parseFieldDescriptor (TX0 k).2.2.1 = some (tyX0 k) := by decide +kernel
abbrev cX0_init : ByteArray := prog_2_method_1_code
def yX0_init : MethodName := ⟨RX0, "<init>", "()V"⟩
abbrev cX0_note : ByteArray := prog_2_method_2_code
def yX0_note : MethodName := ⟨RX0, "note", "(IIII)V"⟩
abbrev cX0_forgetOldest : ByteArray := prog_2_method_3_code
def yX0_forgetOldest : MethodName := ⟨RX0, "forgetOldest", "()V"⟩
def RX1 : String := "HoopWaist$Field"
def TX1 : u_T := fun k => match k with
  | 0 => ("HoopWaist$Field", "skills", "[I", true)
  | 1 => ("HoopWaist$Field", "minutes", "[I", true)
  | 2 => ("HoopWaist$Field", "up", "[Z", true)
  | 3 => ("HoopWaist$Field", "knocker", "[I", true)
  | 4 => ("HoopWaist$Field", "dropMinute", "[I", true)
  | 5 => ("HoopWaist$Field", "knock", "I", false)
  | _ => ("HoopWaist$Field", "z", "I", false)
def tyX1 : Nat → FieldType := fun k => match k with
  | 0 => .array .int
  | 1 => .array .int
  | 2 => .array .boolean
  | 3 => .array .int
  | 4 => .array .int
  | 5 => .int
  | _ => .int
abbrev wsX10 : List Cond := u_ws RX1 TX1 7
theorem nmX1 : ∀ a, a < 7 → ∀ b, b < 7 → a ≠ b → (TX1 a).2.1 ≠ (TX1 b).2.1 := by decide +kernel
theorem tyX1_ok : ∀ k, k < 7 → parseFieldDescriptor (TX1 k).2.2.1 = some (tyX1 k) := by decide +kernel
abbrev cX1_init : ByteArray := prog_3_method_1_code
def yX1_init : MethodName := ⟨RX1, "<init>", "()V"⟩
abbrev cX1_becomes : ByteArray := prog_3_method_2_code
def yX1_becomes : MethodName := ⟨RX1, "becomes", "(II)V"⟩
abbrev cX1_minutesAt : ByteArray := prog_3_method_3_code
def yX1_minutesAt : MethodName := ⟨RX1, "minutesAt", "(I)I"⟩
abbrev cX1_learnMinute : ByteArray := prog_3_method_4_code
def yX1_learnMinute : MethodName := ⟨RX1, "learnMinute", "(I)V"⟩
abbrev cX1_play : ByteArray := prog_3_method_5_code
def yX1_play : MethodName := ⟨RX1, "play", "(II)V"⟩
abbrev cX1_playMinute : ByteArray := prog_3_method_6_code
def yX1_playMinute : MethodName := ⟨RX1, "playMinute", "(I)V"⟩
abbrev cX1_knockFrom : ByteArray := prog_3_method_7_code
def yX1_knockFrom : MethodName := ⟨RX1, "knockFrom", "(II)V"⟩
abbrev cX1_drop : ByteArray := prog_3_method_8_code
def yX1_drop : MethodName := ⟨RX1, "drop", "(III)V"⟩
abbrev cX1_draw : ByteArray := prog_3_method_9_code
def yX1_draw : MethodName := ⟨RX1, "draw", "()I"⟩
abbrev cX1_beside : ByteArray := prog_3_method_10_code
def yX1_beside : MethodName := ⟨RX1, "beside", "(II)I"⟩
abbrev cX1_howManyUp : ByteArray := prog_3_method_11_code
def yX1_howManyUp : MethodName := ⟨RX1, "howManyUp", "()I"⟩
abbrev cX1_longest : ByteArray := prog_3_method_12_code
def yX1_longest : MethodName := ⟨RX1, "longest", "()I"⟩
def RX2 : String := "HoopWaist$Hoop"
def TX2 : u_T := fun k => match k with
  | 0 => ("HoopWaist$Hoop", "size", "I", false)
  | 1 => ("HoopWaist$Hoop", "heavy", "I", false)
  | 2 => ("HoopWaist$Hoop", "place", "I", false)
  | 3 => ("HoopWaist$Hoop", "pace", "I", false)
  | _ => ("HoopWaist$Hoop", "high", "I", false)
def tyX2 : Nat → FieldType := fun k => match k with
  | 0 => .int
  | 1 => .int
  | 2 => .int
  | 3 => .int
  | _ => .int
abbrev wsX20 : List Cond := u_ws RX2 TX2 5
theorem nmX2 : ∀ a, a < 5 → ∀ b, b < 5 → a ≠ b → (TX2 a).2.1 ≠ (TX2 b).2.1 := by decide +kernel
theorem tyX2_ok : ∀ k, k < 5 → parseFieldDescriptor (TX2 k).2.2.1 = some (tyX2 k) := by decide +kernel
abbrev cX2_init : ByteArray := prog_4_method_1_code
def yX2_init : MethodName := ⟨RX2, "<init>", "()V"⟩
abbrev cX2_copy : ByteArray := prog_4_method_2_code
def yX2_copy : MethodName := ⟨RX2, "copy", "(LHoopWaist$Hoop;)V"⟩
abbrev cX2_copyWay : ByteArray := prog_4_method_3_code
def yX2_copyWay : MethodName := ⟨RX2, "copyWay", "(LHoopWaist$Hoop;)V"⟩
abbrev cX2_raise : ByteArray := prog_4_method_4_code
def yX2_raise : MethodName := ⟨RX2, "raise", "()V"⟩
abbrev cX2_drop : ByteArray := prog_4_method_5_code
def yX2_drop : MethodName := ⟨RX2, "drop", "()V"⟩
abbrev cX2_lies : ByteArray := prog_4_method_6_code
def yX2_lies : MethodName := ⟨RX2, "lies", "()Z"⟩
abbrev cX2_need : ByteArray := prog_4_method_7_code
def yX2_need : MethodName := ⟨RX2, "need", "()I"⟩
abbrev cX2_speed : ByteArray := prog_4_method_8_code
def yX2_speed : MethodName := ⟨RX2, "speed", "()I"⟩
abbrev cX2_told : ByteArray := prog_4_method_9_code
def yX2_told : MethodName := ⟨RX2, "told", "(I)I"⟩
abbrev cX2_become : ByteArray := prog_4_method_10_code
def yX2_become : MethodName := ⟨RX2, "become", "(II)V"⟩
abbrev cX2_farFrom : ByteArray := prog_4_method_11_code
def yX2_farFrom : MethodName := ⟨RX2, "farFrom", "(I)I"⟩
abbrev cX2_quicken : ByteArray := prog_4_method_12_code
def yX2_quicken : MethodName := ⟨RX2, "quicken", "(I)V"⟩
abbrev cX2_move : ByteArray := prog_4_method_13_code
def yX2_move : MethodName := ⟨RX2, "move", "()V"⟩
abbrev cX2_sankToLie : ByteArray := prog_4_method_14_code
def yX2_sankToLie : MethodName := ⟨RX2, "sankToLie", "()Z"⟩
def RX3 : String := "HoopWaist$Law"
def TX3 : u_T := fun k => match k with
  | 0 => ("HoopWaist$Law", "signs", "[I", true)
  | 1 => ("HoopWaist$Law", "values", "[I", true)
  | 2 => ("HoopWaist$Law", "stack", "[I", true)
  | 3 => ("HoopWaist$Law", "names", "[I", true)
  | 4 => ("HoopWaist$Law", "length", "I", false)
  | _ => ("HoopWaist$Law", "top", "I", false)
def tyX3 : Nat → FieldType := fun k => match k with
  | 0 => .array .int
  | 1 => .array .int
  | 2 => .array .int
  | 3 => .array .int
  | 4 => .int
  | _ => .int
abbrev wsX30 : List Cond := u_ws RX3 TX3 6
theorem nmX3 : ∀ a, a < 6 → ∀ b, b < 6 → a ≠ b → (TX3 a).2.1 ≠ (TX3 b).2.1 := by decide +kernel
theorem tyX3_ok : ∀ k, k < 6 → parseFieldDescriptor (TX3 k).2.2.1 = some (tyX3 k) := by decide +kernel
abbrev cX3_init : ByteArray := prog_5_method_1_code
def yX3_init : MethodName := ⟨RX3, "<init>", "()V"⟩
abbrev cX3_copy : ByteArray := prog_5_method_2_code
def yX3_copy : MethodName := ⟨RX3, "copy", "(LHoopWaist$Law;)V"⟩
abbrev cX3_add : ByteArray := prog_5_method_3_code
def yX3_add : MethodName := ⟨RX3, "add", "(II)I"⟩
abbrev cX3_more : ByteArray := prog_5_method_4_code
def yX3_more : MethodName := ⟨RX3, "more", "(LHoopWaist$Hoop;II)I"⟩
abbrev cX3_withoutText : ByteArray := prog_5_method_5_code
def yX3_withoutText : MethodName := ⟨RX3, "withoutText", "(II)I"⟩
abbrev cX3_worth : ByteArray := prog_5_method_6_code
def yX3_worth : MethodName := ⟨RX3, "worth", "()I"⟩
abbrev cX3_pile : ByteArray := prog_5_method_7_code
def yX3_pile : MethodName := ⟨RX3, "pile", "(I)V"⟩
abbrev cX3_unpile : ByteArray := prog_5_method_8_code
def yX3_unpile : MethodName := ⟨RX3, "unpile", "()I"⟩
abbrev cX3_joined : ByteArray := prog_5_method_9_code
def yX3_joined : MethodName := ⟨RX3, "joined", "(III)I"⟩
def RX4 : String := "HoopWaist$Reader"
def TX4 : u_T := fun k => match k with
  | 0 => ("HoopWaist$Reader", "tape", "[I", true)
  | 1 => ("HoopWaist$Reader", "draft", "LHoopWaist$Law;", true)
  | 2 => ("HoopWaist$Reader", "length", "I", false)
  | 3 => ("HoopWaist$Reader", "at", "I", false)
  | _ => ("HoopWaist$Reader", "stuck", "Z", false)
def tyX4 : Nat → FieldType := fun k => match k with
  | 0 => .array .int
  | 1 => .object "HoopWaist$Law"
  | 2 => .int
  | 3 => .int
  | _ => .boolean
abbrev wsX40 : List Cond := u_ws RX4 TX4 5
theorem nmX4 : ∀ a, a < 5 → ∀ b, b < 5 → a ≠ b → (TX4 a).2.1 ≠ (TX4 b).2.1 := by decide +kernel
theorem tyX4_ok : ∀ k, k < 5 → parseFieldDescriptor (TX4 k).2.2.1 = some (tyX4 k) := by decide +kernel
abbrev cX4_init : ByteArray := prog_6_method_1_code
def yX4_init : MethodName := ⟨RX4, "<init>", "()V"⟩
abbrev cX4_takeIn : ByteArray := prog_6_method_2_code
def yX4_takeIn : MethodName := ⟨RX4, "takeIn", "(I)Z"⟩
abbrev cX4_readText : ByteArray := prog_6_method_3_code
def yX4_readText : MethodName := ⟨RX4, "readText", "()I"⟩
abbrev cX4_readLine : ByteArray := prog_6_method_4_code
def yX4_readLine : MethodName := ⟨RX4, "readLine", "()V"⟩
abbrev cX4_readChain : ByteArray := prog_6_method_5_code
def yX4_readChain : MethodName := ⟨RX4, "readChain", "(II)V"⟩
abbrev cX4_isJoin : ByteArray := prog_6_method_6_code
def yX4_isJoin : MethodName := ⟨RX4, "isJoin", "(I)Z"⟩
abbrev cX4_readOperand : ByteArray := prog_6_method_7_code
def yX4_readOperand : MethodName := ⟨RX4, "readOperand", "(I)V"⟩
abbrev cX4_readOpened : ByteArray := prog_6_method_8_code
def yX4_readOpened : MethodName := ⟨RX4, "readOpened", "(II)V"⟩
abbrev cX4_readNumber : ByteArray := prog_6_method_9_code
def yX4_readNumber : MethodName := ⟨RX4, "readNumber", "()V"⟩
abbrev cX4_next : ByteArray := prog_6_method_10_code
def yX4_next : MethodName := ⟨RX4, "next", "()I"⟩
abbrev cX4_takes : ByteArray := prog_6_method_11_code
def yX4_takes : MethodName := ⟨RX4, "takes", "(I)Z"⟩
abbrev cX4_isDigit : ByteArray := prog_6_method_12_code
def yX4_isDigit : MethodName := ⟨RX4, "isDigit", "(I)Z"⟩
abbrev cX4_nameOf : ByteArray := prog_6_method_13_code
def yX4_nameOf : MethodName := ⟨RX4, "nameOf", "(I)I"⟩
def RX5 : String := "HoopWaist$Ring"
def TX5 : u_T := fun k => match k with
  | 0 => ("HoopWaist$Ring", "law", "LHoopWaist$Law;", true)
  | 1 => ("HoopWaist$Ring", "hoops", "[LHoopWaist$Hoop;", true)
  | 2 => ("HoopWaist$Ring", "count", "I", false)
  | 3 => ("HoopWaist$Ring", "now", "I", false)
  | 4 => ("HoopWaist$Ring", "rub", "I", false)
  | 5 => ("HoopWaist$Ring", "beat", "I", false)
  | 6 => ("HoopWaist$Ring", "phase", "I", false)
  | 7 => ("HoopWaist$Ring", "strength", "I", false)
  | 8 => ("HoopWaist$Ring", "pushes", "I", false)
  | _ => ("HoopWaist$Ring", "latestFall", "I", false)
def tyX5 : Nat → FieldType := fun k => match k with
  | 0 => .object "HoopWaist$Law"
  | 1 => .array (.object "HoopWaist$Hoop")
  | 2 => .int
  | 3 => .int
  | 4 => .int
  | 5 => .int
  | 6 => .int
  | 7 => .int
  | 8 => .int
  | _ => .int
abbrev wsX50 : List Cond := u_ws RX5 TX5 10
theorem nmX5 : ∀ a, a < 10 → ∀ b, b < 10 → a ≠ b → (TX5 a).2.1 ≠ (TX5 b).2.1 := by decide +kernel
theorem tyX5_ok : ∀ k, k < 10 → parseFieldDescriptor (TX5 k).2.2.1 = some (tyX5 k) := by decide +kernel
abbrev cX5_init : ByteArray := prog_7_method_1_code
def yX5_init : MethodName := ⟨RX5, "<init>", "(LHoopWaist$Law;)V"⟩
abbrev cX5_copy : ByteArray := prog_7_method_2_code
def yX5_copy : MethodName := ⟨RX5, "copy", "(LHoopWaist$Ring;)V"⟩
abbrev cX5_layBack : ByteArray := prog_7_method_3_code
def yX5_layBack : MethodName := ⟨RX5, "layBack", "(LHoopWaist$Ring;)V"⟩
abbrev cX5_has : ByteArray := prog_7_method_4_code
def yX5_has : MethodName := ⟨RX5, "has", "(I)Z"⟩
abbrev cX5_isFull : ByteArray := prog_7_method_5_code
def yX5_isFull : MethodName := ⟨RX5, "isFull", "()Z"⟩
abbrev cX5_addHoop : ByteArray := prog_7_method_6_code
def yX5_addHoop : MethodName := ⟨RX5, "addHoop", "(III)I"⟩
abbrev cX5_upright : ByteArray := prog_7_method_7_code
def yX5_upright : MethodName := ⟨RX5, "upright", "()I"⟩
abbrev cX5_allUp : ByteArray := prog_7_method_8_code
def yX5_allUp : MethodName := ⟨RX5, "allUp", "(I)Z"⟩
abbrev cX5_allHighest : ByteArray := prog_7_method_9_code
def yX5_allHighest : MethodName := ⟨RX5, "allHighest", "()Z"⟩
abbrev cX5_layAllBut : ByteArray := prog_7_method_10_code
def yX5_layAllBut : MethodName := ⟨RX5, "layAllBut", "(I)V"⟩
abbrev cX5_isPushDue : ByteArray := prog_7_method_11_code
def yX5_isPushDue : MethodName := ⟨RX5, "isPushDue", "()Z"⟩
abbrev cX5_goalInTurn : ByteArray := prog_7_method_12_code
def yX5_goalInTurn : MethodName := ⟨RX5, "goalInTurn", "()I"⟩
abbrev cX5_tick : ByteArray := prog_7_method_13_code
def yX5_tick : MethodName := ⟨RX5, "tick", "()V"⟩
abbrev cX5_push : ByteArray := prog_7_method_14_code
def yX5_push : MethodName := ⟨RX5, "push", "(II)V"⟩
abbrev cX5_settle : ByteArray := prog_7_method_15_code
def yX5_settle : MethodName := ⟨RX5, "settle", "()V"⟩
abbrev cX5_cross : ByteArray := prog_7_method_16_code
def yX5_cross : MethodName := ⟨RX5, "cross", "()V"⟩
abbrev cX5_areCrossed : ByteArray := prog_7_method_17_code
def yX5_areCrossed : MethodName := ⟨RX5, "areCrossed", "(LHoopWaist$Hoop;LHoopWaist$Hoop;)Z"⟩
def RX6 : String := "HoopWaist$Shelf"
def TX6 : u_T := fun k => match k with
  | 0 => ("HoopWaist$Shelf", "holds", "I", false)
  | 1 => ("HoopWaist$Shelf", "turn", "I", false)
  | 2 => ("HoopWaist$Shelf", "sort", "I", false)
  | 3 => ("HoopWaist$Shelf", "length", "I", false)
  | _ => ("HoopWaist$Shelf", "elements", "[J", true)
def tyX6 : Nat → FieldType := fun k => match k with
  | 0 => .int
  | 1 => .int
  | 2 => .int
  | 3 => .int
  | _ => .array .long
abbrev wsX60 : List Cond := u_ws RX6 TX6 5
theorem nmX6 : ∀ a, a < 5 → ∀ b, b < 5 → a ≠ b → (TX6 a).2.1 ≠ (TX6 b).2.1 := by decide +kernel
theorem tyX6_ok : ∀ k, k < 5 → parseFieldDescriptor (TX6 k).2.2.1 = some (tyX6 k) := by decide +kernel
abbrev cX6_init : ByteArray := prog_8_method_1_code
def yX6_init : MethodName := ⟨RX6, "<init>", "()V"⟩
abbrev cX6_isSort : ByteArray := prog_8_method_2_code
def yX6_isSort : MethodName := ⟨RX6, "isSort", "(I)Z"⟩
abbrev cX6_isEmpty : ByteArray := prog_8_method_3_code
def yX6_isEmpty : MethodName := ⟨RX6, "isEmpty", "()Z"⟩
abbrev cX6_isTurn : ByteArray := prog_8_method_4_code
def yX6_isTurn : MethodName := ⟨RX6, "isTurn", "()Z"⟩
abbrev cX6_isRow : ByteArray := prog_8_method_5_code
def yX6_isRow : MethodName := ⟨RX6, "isRow", "()Z"⟩
abbrev cX6_hasBytes : ByteArray := prog_8_method_6_code
def yX6_hasBytes : MethodName := ⟨RX6, "hasBytes", "()Z"⟩
abbrev cX6_holdNothing : ByteArray := prog_8_method_7_code
def yX6_holdNothing : MethodName := ⟨RX6, "holdNothing", "()V"⟩
abbrev cX6_holdTurn : ByteArray := prog_8_method_8_code
def yX6_holdTurn : MethodName := ⟨RX6, "holdTurn", "(I)V"⟩
abbrev cX6_holdRow : ByteArray := prog_8_method_9_code
def yX6_holdRow : MethodName := ⟨RX6, "holdRow", "(II)V"⟩
abbrev cX6_bytesRefusal : ByteArray := prog_8_method_10_code
def yX6_bytesRefusal : MethodName := ⟨RX6, "bytesRefusal", "()I"⟩
abbrev cX6_placeRefusal : ByteArray := prog_8_method_11_code
def yX6_placeRefusal : MethodName := ⟨RX6, "placeRefusal", "(I)I"⟩
abbrev cX6_hasStretch : ByteArray := prog_8_method_12_code
def yX6_hasStretch : MethodName := ⟨RX6, "hasStretch", "(II)Z"⟩
abbrev cX6_lay : ByteArray := prog_8_method_13_code
def yX6_lay : MethodName := ⟨RX6, "lay", "(IJ)V"⟩
abbrev cX6_gapAt : ByteArray := prog_8_method_14_code
def yX6_gapAt : MethodName := ⟨RX6, "gapAt", "(I)I"⟩
def RX7 : String := "HoopWaist$Thought"
def TX7 : u_T := fun k => match k with
  | 0 => ("HoopWaist$Thought", "real", "LHoopWaist$Ring;", true)
  | 1 => ("HoopWaist$Thought", "ring", "LHoopWaist$Ring;", true)
  | 2 => ("HoopWaist$Thought", "ticks", "I", false)
  | 3 => ("HoopWaist$Thought", "pushesSeen", "I", false)
  | 4 => ("HoopWaist$Thought", "leftOut", "I", false)
  | 5 => ("HoopWaist$Thought", "moreTick", "I", false)
  | 6 => ("HoopWaist$Thought", "moreForce", "I", false)
  | _ => ("HoopWaist$Thought", "moreGoal", "I", false)
def tyX7 : Nat → FieldType := fun k => match k with
  | 0 => .object "HoopWaist$Ring"
  | 1 => .object "HoopWaist$Ring"
  | 2 => .int
  | 3 => .int
  | 4 => .int
  | 5 => .int
  | 6 => .int
  | _ => .int
abbrev wsX70 : List Cond := u_ws RX7 TX7 8
theorem nmX7 : ∀ a, a < 8 → ∀ b, b < 8 → a ≠ b → (TX7 a).2.1 ≠ (TX7 b).2.1 := by decide +kernel
theorem tyX7_ok : ∀ k, k < 8 → parseFieldDescriptor (TX7 k).2.2.1 = some (tyX7 k) := by decide +kernel
abbrev cX7_init : ByteArray := prog_9_method_1_code
def yX7_init : MethodName := ⟨RX7, "<init>", "(LHoopWaist$Ring;LHoopWaist$Ring;)V"⟩
abbrev cX7_begin : ByteArray := prog_9_method_2_code
def yX7_begin : MethodName := ⟨RX7, "begin", "()V"⟩
abbrev cX7_leaveOut : ByteArray := prog_9_method_3_code
def yX7_leaveOut : MethodName := ⟨RX7, "leaveOut", "(I)V"⟩
abbrev cX7_addPush : ByteArray := prog_9_method_4_code
def yX7_addPush : MethodName := ⟨RX7, "addPush", "(III)V"⟩
abbrev cX7_step : ByteArray := prog_9_method_5_code
def yX7_step : MethodName := ⟨RX7, "step", "()V"⟩
abbrev cX7_behind : ByteArray := prog_9_method_6_code
def yX7_behind : MethodName := ⟨RX7, "behind", "(II)LHoopWaist$Hoop;"⟩
abbrev cX7_fallOf : ByteArray := prog_9_method_7_code
def yX7_fallOf : MethodName := ⟨RX7, "fallOf", "(I)I"⟩
abbrev cX7_isUpBehind : ByteArray := prog_9_method_8_code
def yX7_isUpBehind : MethodName := ⟨RX7, "isUpBehind", "(II)Z"⟩
abbrev cX7_lasting : ByteArray := prog_9_method_9_code
def yX7_lasting : MethodName := ⟨RX7, "lasting", "()I"⟩
abbrev cX7_caughtAgain : ByteArray := prog_9_method_10_code
def yX7_caughtAgain : MethodName := ⟨RX7, "caughtAgain", "()I"⟩
abbrev cX7_lastingBy : ByteArray := prog_9_method_11_code
def yX7_lastingBy : MethodName := ⟨RX7, "lastingBy", "(LHoopWaist$Shelf;)I"⟩
abbrev cX7_firstUnlike : ByteArray := prog_9_method_12_code
def yX7_firstUnlike : MethodName := ⟨RX7, "firstUnlike", "(LHoopWaist$Shelf;I)I"⟩
def RX8 : String := "HoopWaist$Turns"
def TX8 : u_T := fun k => match k with
  | 0 => ("HoopWaist$Turns", "kinds", "[I", true)
  | 1 => ("HoopWaist$Turns", "traced", "[I", true)
  | 2 => ("HoopWaist$Turns", "bodies", "I", false)
  | 3 => ("HoopWaist$Turns", "ran", "I", false)
  | _ => ("HoopWaist$Turns", "actor", "I", false)
def tyX8 : Nat → FieldType := fun k => match k with
  | 0 => .array .int
  | 1 => .array .int
  | 2 => .int
  | 3 => .int
  | _ => .int
abbrev wsX80 : List Cond := u_ws RX8 TX8 5
theorem nmX8 : ∀ a, a < 5 → ∀ b, b < 5 → a ≠ b → (TX8 a).2.1 ≠ (TX8 b).2.1 := by decide +kernel
theorem tyX8_ok : ∀ k, k < 5 → parseFieldDescriptor (TX8 k).2.2.1 = some (tyX8 k) := by decide +kernel
abbrev cX8_init : ByteArray := prog_10_method_1_code
def yX8_init : MethodName := ⟨RX8, "<init>", "()V"⟩
abbrev cX8_has : ByteArray := prog_10_method_2_code
def yX8_has : MethodName := ⟨RX8, "has", "(I)Z"⟩
abbrev cX8_isFull : ByteArray := prog_10_method_3_code
def yX8_isFull : MethodName := ⟨RX8, "isFull", "()Z"⟩
abbrev cX8_addBody : ByteArray := prog_10_method_4_code
def yX8_addBody : MethodName := ⟨RX8, "addBody", "(I)I"⟩
abbrev cX8_isUnder : ByteArray := prog_10_method_5_code
def yX8_isUnder : MethodName := ⟨RX8, "isUnder", "(II)Z"⟩
abbrev cX8_perform : ByteArray := prog_10_method_6_code
def yX8_perform : MethodName := ⟨RX8, "perform", "(III)I"⟩
abbrev cX8_own : ByteArray := prog_10_method_7_code
def yX8_own : MethodName := ⟨RX8, "own", "(III)I"⟩
abbrev cX8_above : ByteArray := prog_10_method_8_code
def yX8_above : MethodName := ⟨RX8, "above", "(IIII)I"⟩
abbrev cX8_runFrom : ByteArray := prog_10_method_9_code
def yX8_runFrom : MethodName := ⟨RX8, "runFrom", "(IIII)I"⟩
abbrev cX8_run : ByteArray := prog_10_method_10_code
def yX8_run : MethodName := ⟨RX8, "run", "(IIII)I"⟩
abbrev cX8_note : ByteArray := prog_10_method_11_code
def yX8_note : MethodName := ⟨RX8, "note", "(I)V"⟩
def RX9 : String := "HoopWaist"
def TX9 : u_T := fun k => match k with
  | 0 => ("HoopWaist", "law", "LHoopWaist$Law;", true)
  | 1 => ("HoopWaist", "reader", "LHoopWaist$Reader;", true)
  | 2 => ("HoopWaist", "ring", "LHoopWaist$Ring;", true)
  | 3 => ("HoopWaist", "kept", "LHoopWaist$Ring;", true)
  | 4 => ("HoopWaist", "thought", "LHoopWaist$Thought;", true)
  | 5 => ("HoopWaist", "field", "LHoopWaist$Field;", true)
  | 6 => ("HoopWaist", "changes", "LHoopWaist$Changes;", true)
  | 7 => ("HoopWaist", "turns", "LHoopWaist$Turns;", true)
  | 8 => ("HoopWaist", "shelves", "[LHoopWaist$Shelf;", true)
  | _ => ("HoopWaist", "hasImage", "Z", false)
def tyX9 : Nat → FieldType := fun k => match k with
  | 0 => .object "HoopWaist$Law"
  | 1 => .object "HoopWaist$Reader"
  | 2 => .object "HoopWaist$Ring"
  | 3 => .object "HoopWaist$Ring"
  | 4 => .object "HoopWaist$Thought"
  | 5 => .object "HoopWaist$Field"
  | 6 => .object "HoopWaist$Changes"
  | 7 => .object "HoopWaist$Turns"
  | 8 => .array (.object "HoopWaist$Shelf")
  | _ => .boolean
abbrev wsX90 : List Cond := u_ws RX9 TX9 10
theorem nmX9 : ∀ a, a < 10 → ∀ b, b < 10 → a ≠ b → (TX9 a).2.1 ≠ (TX9 b).2.1 := by decide +kernel
theorem tyX9_ok : ∀ k, k < 10 → parseFieldDescriptor (TX9 k).2.2.1 = some (tyX9 k) := by decide +kernel
abbrev cX9_init : ByteArray := prog_1_method_1_code
def yX9_init : MethodName := ⟨RX9, "<init>", "()V"⟩
abbrev cX9_hoop : ByteArray := prog_1_method_2_code
def yX9_hoop : MethodName := ⟨RX9, "hoop", "(I)I"⟩
abbrev cX9_hoops : ByteArray := prog_1_method_3_code
def yX9_hoops : MethodName := ⟨RX9, "hoops", "(III)I"⟩
abbrev cX9_mend : ByteArray := prog_1_method_4_code
def yX9_mend : MethodName := ⟨RX9, "mend", "(III)I"⟩
abbrev cX9_of : ByteArray := prog_1_method_5_code
def yX9_of : MethodName := ⟨RX9, "of", "(II)I"⟩
abbrev cX9_feed : ByteArray := prog_1_method_6_code
def yX9_feed : MethodName := ⟨RX9, "feed", "(I)I"⟩
abbrev cX9_law : ByteArray := prog_1_method_7_code
def yX9_law : MethodName := ⟨RX9, "law", "()I"⟩
abbrev cX9_go : ByteArray := prog_1_method_8_code
def yX9_go : MethodName := ⟨RX9, "go", "(I)I"⟩
abbrev cX9_lift : ByteArray := prog_1_method_9_code
def yX9_lift : MethodName := ⟨RX9, "lift", "(I)I"⟩
abbrev cX9_led : ByteArray := prog_1_method_10_code
def yX9_led : MethodName := ⟨RX9, "led", "(I)I"⟩
abbrev cX9_then : ByteArray := prog_1_method_11_code
def yX9_then : MethodName := ⟨RX9, "then", "(III)I"⟩
abbrev cX9_falls : ByteArray := prog_1_method_12_code
def yX9_falls : MethodName := ⟨RX9, "falls", "(I)I"⟩
abbrev cX9_lasts : ByteArray := prog_1_method_13_code
def yX9_lasts : MethodName := ⟨RX9, "lasts", "()I"⟩
abbrev cX9_beatFor : ByteArray := prog_1_method_14_code
def yX9_beatFor : MethodName := ⟨RX9, "beatFor", "(I)I"⟩
abbrev cX9_leastPush : ByteArray := prog_1_method_15_code
def yX9_leastPush : MethodName := ⟨RX9, "leastPush", "(I)I"⟩
abbrev cX9_mistake : ByteArray := prog_1_method_16_code
def yX9_mistake : MethodName := ⟨RX9, "mistake", "(II)I"⟩
abbrev cX9_held : ByteArray := prog_1_method_17_code
def yX9_held : MethodName := ⟨RX9, "held", "(I)I"⟩
abbrev cX9_rescue : ByteArray := prog_1_method_18_code
def yX9_rescue : MethodName := ⟨RX9, "rescue", "(II)I"⟩
abbrev cX9_start : ByteArray := prog_1_method_19_code
def yX9_start : MethodName := ⟨RX9, "start", "(I)I"⟩
abbrev cX9_music : ByteArray := prog_1_method_20_code
def yX9_music : MethodName := ⟨RX9, "music", "(I)I"⟩
abbrev cX9_judge : ByteArray := prog_1_method_21_code
def yX9_judge : MethodName := ⟨RX9, "judge", "(II)I"⟩
abbrev cX9_begun : ByteArray := prog_1_method_22_code
def yX9_begun : MethodName := ⟨RX9, "begun", "(III)I"⟩
abbrev cX9_skill : ByteArray := prog_1_method_23_code
def yX9_skill : MethodName := ⟨RX9, "skill", "(II)I"⟩
abbrev cX9_left : ByteArray := prog_1_method_24_code
def yX9_left : MethodName := ⟨RX9, "left", "(III)I"⟩
abbrev cX9_knocked : ByteArray := prog_1_method_25_code
def yX9_knocked : MethodName := ⟨RX9, "knocked", "(III)I"⟩
abbrev cX9_last : ByteArray := prog_1_method_26_code
def yX9_last : MethodName := ⟨RX9, "last", "(II)I"⟩
abbrev cX9_alone : ByteArray := prog_1_method_27_code
def yX9_alone : MethodName := ⟨RX9, "alone", "(III)J"⟩
abbrev cX9_learn : ByteArray := prog_1_method_28_code
def yX9_learn : MethodName := ⟨RX9, "learn", "(II)I"⟩
abbrev cX9_till : ByteArray := prog_1_method_29_code
def yX9_till : MethodName := ⟨RX9, "till", "(II)I"⟩
abbrev cX9_image : ByteArray := prog_1_method_30_code
def yX9_image : MethodName := ⟨RX9, "image", "()I"⟩
abbrev cX9_back : ByteArray := prog_1_method_31_code
def yX9_back : MethodName := ⟨RX9, "back", "()I"⟩
abbrev cX9_undo : ByteArray := prog_1_method_32_code
def yX9_undo : MethodName := ⟨RX9, "undo", "()I"⟩
abbrev cX9_redo : ByteArray := prog_1_method_33_code
def yX9_redo : MethodName := ⟨RX9, "redo", "()I"⟩
abbrev cX9_body : ByteArray := prog_1_method_34_code
def yX9_body : MethodName := ⟨RX9, "body", "(I)I"⟩
abbrev cX9_act : ByteArray := prog_1_method_35_code
def yX9_act : MethodName := ⟨RX9, "act", "(III)I"⟩
abbrev cX9_trace : ByteArray := prog_1_method_36_code
def yX9_trace : MethodName := ⟨RX9, "trace", "(I)I"⟩
abbrev cX9_keep : ByteArray := prog_1_method_37_code
def yX9_keep : MethodName := ⟨RX9, "keep", "(II)I"⟩
abbrev cX9_row : ByteArray := prog_1_method_38_code
def yX9_row : MethodName := ⟨RX9, "row", "(III)I"⟩
abbrev cX9_put : ByteArray := prog_1_method_39_code
def yX9_put : MethodName := ⟨RX9, "put", "(IIJ)I"⟩
abbrev cX9_element : ByteArray := prog_1_method_40_code
def yX9_element : MethodName := ⟨RX9, "element", "(II)J"⟩
abbrev cX9_shift : ByteArray := prog_1_method_41_code
def yX9_shift : MethodName := ⟨RX9, "shift", "(IIIII)I"⟩
abbrev cX9_taken : ByteArray := prog_1_method_42_code
def yX9_taken : MethodName := ⟨RX9, "taken", "(II)I"⟩
abbrev cX9_count : ByteArray := prog_1_method_43_code
def yX9_count : MethodName := ⟨RX9, "count", "(I)I"⟩
abbrev cX9_isWeight : ByteArray := prog_1_method_44_code
def yX9_isWeight : MethodName := ⟨RX9, "isWeight", "(I)Z"⟩
abbrev cX9_isPace : ByteArray := prog_1_method_45_code
def yX9_isPace : MethodName := ⟨RX9, "isPace", "(I)Z"⟩
abbrev cX9_isShelf : ByteArray := prog_1_method_46_code
def yX9_isShelf : MethodName := ⟨RX9, "isShelf", "(I)Z"⟩
abbrev cX9_isGirl : ByteArray := prog_1_method_47_code
def yX9_isGirl : MethodName := ⟨RX9, "isGirl", "(I)Z"⟩
abbrev cX9_isSkill : ByteArray := prog_1_method_48_code
def yX9_isSkill : MethodName := ⟨RX9, "isSkill", "(I)Z"⟩
abbrev cX9_isMinutes : ByteArray := prog_1_method_49_code
def yX9_isMinutes : MethodName := ⟨RX9, "isMinutes", "(I)Z"⟩
abbrev cX9_isKind : ByteArray := prog_1_method_50_code
def yX9_isKind : MethodName := ⟨RX9, "isKind", "(I)Z"⟩
abbrev cX9_rest : ByteArray := prog_1_method_51_code
def yX9_rest : MethodName := ⟨RX9, "rest", "(II)I"⟩
abbrev cX9_goalOf : ByteArray := prog_1_method_52_code
def yX9_goalOf : MethodName := ⟨RX9, "goalOf", "(I)I"⟩
abbrev cX9_within : ByteArray := prog_1_method_53_code
def yX9_within : MethodName := ⟨RX9, "within", "(III)I"⟩
abbrev cX9_greatestDivisor : ByteArray := prog_1_method_54_code
def yX9_greatestDivisor : MethodName := ⟨RX9, "greatestDivisor", "(II)I"⟩
abbrev cX9_hoopCame : ByteArray := prog_1_method_55_code
def yX9_hoopCame : MethodName := ⟨RX9, "hoopCame", "(LHoopWaist$Shelf;I)Z"⟩
abbrev cX9_canBecome : ByteArray := prog_1_method_56_code
def yX9_canBecome : MethodName := ⟨RX9, "canBecome", "(III)Z"⟩
abbrev cX9_hoopCanBecome : ByteArray := prog_1_method_57_code
def yX9_hoopCanBecome : MethodName := ⟨RX9, "hoopCanBecome", "(LHoopWaist$Hoop;II)Z"⟩
abbrev cX9_settingCanBecome : ByteArray := prog_1_method_58_code
def yX9_settingCanBecome : MethodName := ⟨RX9, "settingCanBecome", "(II)Z"⟩
abbrev cX9_valueOf : ByteArray := prog_1_method_59_code
def yX9_valueOf : MethodName := ⟨RX9, "valueOf", "(II)I"⟩
abbrev cX9_settingOf : ByteArray := prog_1_method_60_code
def yX9_settingOf : MethodName := ⟨RX9, "settingOf", "(I)I"⟩
abbrev cX9_lay : ByteArray := prog_1_method_61_code
def yX9_lay : MethodName := ⟨RX9, "lay", "(III)V"⟩
def RX10 : String := "HoopWaistModel"
def TX10 : u_T := fun k => match k with
  | 0 => ("HoopWaistModel", "may", "[I", true)
  | 1 => ("HoopWaistModel", "changeAt", "[I", true)
  | 2 => ("HoopWaistModel", "changeWas", "[I", true)
  | 3 => ("HoopWaistModel", "changeIs", "[I", true)
  | 4 => ("HoopWaistModel", "keptMany", "I", false)
  | 5 => ("HoopWaistModel", "done", "I", false)
  | 6 => ("HoopWaistModel", "hoops", "I", false)
  | 7 => ("HoopWaistModel", "place", "[I", true)
  | 8 => ("HoopWaistModel", "high", "[I", true)
  | 9 => ("HoopWaistModel", "now", "I", false)
  | 10 => ("HoopWaistModel", "tape", "[I", true)
  | 11 => ("HoopWaistModel", "tapeMany", "I", false)
  | 12 => ("HoopWaistModel", "text", "[I", true)
  | 13 => ("HoopWaistModel", "textMany", "I", false)
  | 14 => ("HoopWaistModel", "base", "I", false)
  | 15 => ("HoopWaistModel", "at", "I", false)
  | 16 => ("HoopWaistModel", "ends", "I", false)
  | 17 => ("HoopWaistModel", "fault", "I", false)
  | 18 => ("HoopWaistModel", "opened", "I", false)
  | 19 => ("HoopWaistModel", "names", "[I", true)
  | 20 => ("HoopWaistModel", "t1Place", "[I", true)
  | 21 => ("HoopWaistModel", "t1Pace", "[I", true)
  | 22 => ("HoopWaistModel", "t1High", "[I", true)
  | 23 => ("HoopWaistModel", "pushed", "I", false)
  | 24 => ("HoopWaistModel", "ledPushes", "I", false)
  | 25 => ("HoopWaistModel", "ledFall", "I", false)
  | 26 => ("HoopWaistModel", "caught", "I", false)
  | 27 => ("HoopWaistModel", "skill", "[I", true)
  | 28 => ("HoopWaistModel", "learnt", "[I", true)
  | 29 => ("HoopWaistModel", "isUp", "[Z", true)
  | 30 => ("HoopWaistModel", "knocker", "[I", true)
  | 31 => ("HoopWaistModel", "dropAt", "[I", true)
  | 32 => ("HoopWaistModel", "z", "I", false)
  | 33 => ("HoopWaistModel", "isKept", "Z", false)
  | 34 => ("HoopWaistModel", "imageHoops", "I", false)
  | 35 => ("HoopWaistModel", "image", "[I", true)
  | 36 => ("HoopWaistModel", "bodies", "I", false)
  | 37 => ("HoopWaistModel", "bodyKind", "[I", true)
  | 38 => ("HoopWaistModel", "trace", "[I", true)
  | 39 => ("HoopWaistModel", "ran", "I", false)
  | 40 => ("HoopWaistModel", "ownKind", "I", false)
  | 41 => ("HoopWaistModel", "ownNumber", "I", false)
  | 42 => ("HoopWaistModel", "shelf", "[I", true)
  | 43 => ("HoopWaistModel", "many", "[I", true)
  | 44 => ("HoopWaistModel", "items", "[J", true)
  | _ => ("HoopWaistModel", "carried", "[J", true)
def tyX10 : Nat → FieldType := fun k => match k with
  | 0 => .array .int
  | 1 => .array .int
  | 2 => .array .int
  | 3 => .array .int
  | 4 => .int
  | 5 => .int
  | 6 => .int
  | 7 => .array .int
  | 8 => .array .int
  | 9 => .int
  | 10 => .array .int
  | 11 => .int
  | 12 => .array .int
  | 13 => .int
  | 14 => .int
  | 15 => .int
  | 16 => .int
  | 17 => .int
  | 18 => .int
  | 19 => .array .int
  | 20 => .array .int
  | 21 => .array .int
  | 22 => .array .int
  | 23 => .int
  | 24 => .int
  | 25 => .int
  | 26 => .int
  | 27 => .array .int
  | 28 => .array .int
  | 29 => .array .boolean
  | 30 => .array .int
  | 31 => .array .int
  | 32 => .int
  | 33 => .boolean
  | 34 => .int
  | 35 => .array .int
  | 36 => .int
  | 37 => .array .int
  | 38 => .array .int
  | 39 => .int
  | 40 => .int
  | 41 => .int
  | 42 => .array .int
  | 43 => .array .int
  | 44 => .array .long
  | _ => .array .long
abbrev wsX100 : List Cond := u_ws RX10 TX10 46
theorem nmX10 : ∀ a, a < 46 → ∀ b, b < 46 → a ≠ b → (TX10 a).2.1 ≠ (TX10 b).2.1 := by decide +kernel
theorem tyX10_ok : ∀ k, k < 46 → parseFieldDescriptor (TX10 k).2.2.1 = some (tyX10 k) := by decide +kernel
abbrev cX10_within : ByteArray := prog_12_method_1_code
def yX10_within : MethodName := ⟨RX10, "within", "(JJJ)Z"⟩
abbrev cX10_sizeOf : ByteArray := prog_12_method_2_code
def yX10_sizeOf : MethodName := ⟨RX10, "sizeOf", "(I)I"⟩
abbrev cX10_isIn : ByteArray := prog_12_method_3_code
def yX10_isIn : MethodName := ⟨RX10, "isIn", "(II)Z"⟩
abbrev cX10_bitsOf : ByteArray := prog_12_method_4_code
def yX10_bitsOf : MethodName := ⟨RX10, "bitsOf", "(I)I"⟩
abbrev cX10_init : ByteArray := prog_12_method_5_code
def yX10_init : MethodName := ⟨RX10, "<init>", "()V"⟩
abbrev cX10_becomes : ByteArray := prog_12_method_6_code
def yX10_becomes : MethodName := ⟨RX10, "becomes", "(II)I"⟩
abbrev cX10_lays : ByteArray := prog_12_method_7_code
def yX10_lays : MethodName := ⟨RX10, "lays", "(II)V"⟩
abbrev cX10_undo : ByteArray := prog_12_method_8_code
def yX10_undo : MethodName := ⟨RX10, "undo", "()I"⟩
abbrev cX10_redo : ByteArray := prog_12_method_9_code
def yX10_redo : MethodName := ⟨RX10, "redo", "()I"⟩
abbrev cX10_isHoop : ByteArray := prog_12_method_10_code
def yX10_isHoop : MethodName := ⟨RX10, "isHoop", "(I)Z"⟩
abbrev cX10_isOne : ByteArray := prog_12_method_11_code
def yX10_isOne : MethodName := ⟨RX10, "isOne", "(JJJ)Z"⟩
abbrev cX10_adds : ByteArray := prog_12_method_12_code
def yX10_adds : MethodName := ⟨RX10, "adds", "(III)V"⟩
abbrev cX10_hoop : ByteArray := prog_12_method_13_code
def yX10_hoop : MethodName := ⟨RX10, "hoop", "(I)I"⟩
abbrev cX10_hoops : ByteArray := prog_12_method_14_code
def yX10_hoops : MethodName := ⟨RX10, "hoops", "(III)I"⟩
abbrev cX10_mend : ByteArray := prog_12_method_15_code
def yX10_mend : MethodName := ⟨RX10, "mend", "(III)I"⟩
abbrev cX10_needOf : ByteArray := prog_12_method_16_code
def yX10_needOf : MethodName := ⟨RX10, "needOf", "(I)I"⟩
abbrev cX10_of : ByteArray := prog_12_method_17_code
def yX10_of : MethodName := ⟨RX10, "of", "(II)I"⟩
abbrev cX10_feed : ByteArray := prog_12_method_18_code
def yX10_feed : MethodName := ⟨RX10, "feed", "(I)I"⟩
abbrev cX10_byteAt : ByteArray := prog_12_method_19_code
def yX10_byteAt : MethodName := ⟨RX10, "byteAt", "()I"⟩
abbrev cX10_wrong : ByteArray := prog_12_method_20_code
def yX10_wrong : MethodName := ⟨RX10, "wrong", "()I"⟩
abbrev cX10_takes : ByteArray := prog_12_method_21_code
def yX10_takes : MethodName := ⟨RX10, "takes", "(I)Z"⟩
abbrev cX10_either : ByteArray := prog_12_method_22_code
def yX10_either : MethodName := ⟨RX10, "either", "()I"⟩
abbrev cX10_both : ByteArray := prog_12_method_23_code
def yX10_both : MethodName := ⟨RX10, "both", "()I"⟩
abbrev cX10_compared : ByteArray := prog_12_method_24_code
def yX10_compared : MethodName := ⟨RX10, "compared", "()I"⟩
abbrev cX10_sums : ByteArray := prog_12_method_25_code
def yX10_sums : MethodName := ⟨RX10, "sums", "()I"⟩
abbrev cX10_product : ByteArray := prog_12_method_26_code
def yX10_product : MethodName := ⟨RX10, "product", "()I"⟩
abbrev cX10_nameOf : ByteArray := prog_12_method_27_code
def yX10_nameOf : MethodName := ⟨RX10, "nameOf", "(I)I"⟩
abbrev cX10_one : ByteArray := prog_12_method_28_code
def yX10_one : MethodName := ⟨RX10, "one", "()I"⟩
abbrev cX10_workOut : ByteArray := prog_12_method_29_code
def yX10_workOut : MethodName := ⟨RX10, "workOut", "(II)I"⟩
abbrev cX10_law : ByteArray := prog_12_method_30_code
def yX10_law : MethodName := ⟨RX10, "law", "()I"⟩
abbrev cX10_begins1 : ByteArray := prog_12_method_31_code
def yX10_begins1 : MethodName := ⟨RX10, "begins1", "(I)V"⟩
abbrev cX10_gained : ByteArray := prog_12_method_32_code
def yX10_gained : MethodName := ⟨RX10, "gained", "(III)I"⟩
abbrev cX10_becomesPace : ByteArray := prog_12_method_33_code
def yX10_becomesPace : MethodName := ⟨RX10, "becomesPace", "(II)V"⟩
abbrev cX10_pushes : ByteArray := prog_12_method_34_code
def yX10_pushes : MethodName := ⟨RX10, "pushes", "(II)V"⟩
abbrev cX10_turns : ByteArray := prog_12_method_35_code
def yX10_turns : MethodName := ⟨RX10, "turns", "(I)V"⟩
abbrev cX10_isPush : ByteArray := prog_12_method_36_code
def yX10_isPush : MethodName := ⟨RX10, "isPush", "(I)Z"⟩
abbrev cX10_toOf : ByteArray := prog_12_method_37_code
def yX10_toOf : MethodName := ⟨RX10, "toOf", "(I)I"⟩
abbrev cX10_tickGoes : ByteArray := prog_12_method_38_code
def yX10_tickGoes : MethodName := ⟨RX10, "tickGoes", "(I)V"⟩
abbrev cX10_upNow : ByteArray := prog_12_method_39_code
def yX10_upNow : MethodName := ⟨RX10, "upNow", "()I"⟩
abbrev cX10_lyingOf : ByteArray := prog_12_method_40_code
def yX10_lyingOf : MethodName := ⟨RX10, "lyingOf", "(I)I"⟩
abbrev cX10_go : ByteArray := prog_12_method_41_code
def yX10_go : MethodName := ⟨RX10, "go", "(I)I"⟩
abbrev cX10_lift : ByteArray := prog_12_method_42_code
def yX10_lift : MethodName := ⟨RX10, "lift", "(I)I"⟩
abbrev cX10_led : ByteArray := prog_12_method_43_code
def yX10_led : MethodName := ⟨RX10, "led", "(I)I"⟩
abbrev cX10_then : ByteArray := prog_12_method_44_code
def yX10_then : MethodName := ⟨RX10, "then", "(III)I"⟩
abbrev cX10_fallOf : ByteArray := prog_12_method_45_code
def yX10_fallOf : MethodName := ⟨RX10, "fallOf", "(I)I"⟩
abbrev cX10_falls : ByteArray := prog_12_method_46_code
def yX10_falls : MethodName := ⟨RX10, "falls", "(I)I"⟩
abbrev cX10_lastsOf : ByteArray := prog_12_method_47_code
def yX10_lastsOf : MethodName := ⟨RX10, "lastsOf", "(I)I"⟩
abbrev cX10_lasts : ByteArray := prog_12_method_48_code
def yX10_lasts : MethodName := ⟨RX10, "lasts", "()I"⟩
abbrev cX10_beatFor : ByteArray := prog_12_method_49_code
def yX10_beatFor : MethodName := ⟨RX10, "beatFor", "(I)I"⟩
abbrev cX10_leastPush : ByteArray := prog_12_method_50_code
def yX10_leastPush : MethodName := ⟨RX10, "leastPush", "(I)I"⟩
abbrev cX10_mistaken : ByteArray := prog_12_method_51_code
def yX10_mistaken : MethodName := ⟨RX10, "mistaken", "(I)I"⟩
abbrev cX10_mistake : ByteArray := prog_12_method_52_code
def yX10_mistake : MethodName := ⟨RX10, "mistake", "(II)I"⟩
abbrev cX10_held : ByteArray := prog_12_method_53_code
def yX10_held : MethodName := ⟨RX10, "held", "(I)I"⟩
abbrev cX10_fallWith : ByteArray := prog_12_method_54_code
def yX10_fallWith : MethodName := ⟨RX10, "fallWith", "(IIII)I"⟩
abbrev cX10_rescue : ByteArray := prog_12_method_55_code
def yX10_rescue : MethodName := ⟨RX10, "rescue", "(II)I"⟩
abbrev cX10_start : ByteArray := prog_12_method_56_code
def yX10_start : MethodName := ⟨RX10, "start", "(I)I"⟩
abbrev cX10_rowIs : ByteArray := prog_12_method_57_code
def yX10_rowIs : MethodName := ⟨RX10, "rowIs", "(I)I"⟩
abbrev cX10_music : ByteArray := prog_12_method_58_code
def yX10_music : MethodName := ⟨RX10, "music", "(I)I"⟩
abbrev cX10_firstFalse : ByteArray := prog_12_method_59_code
def yX10_firstFalse : MethodName := ⟨RX10, "firstFalse", "(II)I"⟩
abbrev cX10_judge : ByteArray := prog_12_method_60_code
def yX10_judge : MethodName := ⟨RX10, "judge", "(II)I"⟩
abbrev cX10_begun : ByteArray := prog_12_method_61_code
def yX10_begun : MethodName := ⟨RX10, "begun", "(III)I"⟩
abbrev cX10_isGirl : ByteArray := prog_12_method_62_code
def yX10_isGirl : MethodName := ⟨RX10, "isGirl", "(I)Z"⟩
abbrev cX10_skill : ByteArray := prog_12_method_63_code
def yX10_skill : MethodName := ⟨RX10, "skill", "(II)I"⟩
abbrev cX10_besideOf : ByteArray := prog_12_method_64_code
def yX10_besideOf : MethodName := ⟨RX10, "besideOf", "(II)I"⟩
abbrev cX10_draws : ByteArray := prog_12_method_65_code
def yX10_draws : MethodName := ⟨RX10, "draws", "()I"⟩
abbrev cX10_drops : ByteArray := prog_12_method_66_code
def yX10_drops : MethodName := ⟨RX10, "drops", "(III)V"⟩
abbrev cX10_field : ByteArray := prog_12_method_67_code
def yX10_field : MethodName := ⟨RX10, "field", "(II)V"⟩
abbrev cX10_left : ByteArray := prog_12_method_68_code
def yX10_left : MethodName := ⟨RX10, "left", "(III)I"⟩
abbrev cX10_knocked : ByteArray := prog_12_method_69_code
def yX10_knocked : MethodName := ⟨RX10, "knocked", "(III)I"⟩
abbrev cX10_last : ByteArray := prog_12_method_70_code
def yX10_last : MethodName := ⟨RX10, "last", "(II)I"⟩
abbrev cX10_alone : ByteArray := prog_12_method_71_code
def yX10_alone : MethodName := ⟨RX10, "alone", "(III)J"⟩
abbrev cX10_needsOf : ByteArray := prog_12_method_72_code
def yX10_needsOf : MethodName := ⟨RX10, "needsOf", "(I)I"⟩
abbrev cX10_learn : ByteArray := prog_12_method_73_code
def yX10_learn : MethodName := ⟨RX10, "learn", "(II)I"⟩
abbrev cX10_till : ByteArray := prog_12_method_74_code
def yX10_till : MethodName := ⟨RX10, "till", "(II)I"⟩
abbrev cX10_image : ByteArray := prog_12_method_75_code
def yX10_image : MethodName := ⟨RX10, "image", "()I"⟩
abbrev cX10_back : ByteArray := prog_12_method_76_code
def yX10_back : MethodName := ⟨RX10, "back", "()I"⟩
abbrev cX10_isBody : ByteArray := prog_12_method_77_code
def yX10_isBody : MethodName := ⟨RX10, "isBody", "(I)Z"⟩
abbrev cX10_kindOf : ByteArray := prog_12_method_78_code
def yX10_kindOf : MethodName := ⟨RX10, "kindOf", "(I)I"⟩
abbrev cX10_body : ByteArray := prog_12_method_79_code
def yX10_body : MethodName := ⟨RX10, "body", "(I)I"⟩
abbrev cX10_above : ByteArray := prog_12_method_80_code
def yX10_above : MethodName := ⟨RX10, "above", "(I)I"⟩
abbrev cX10_begins : ByteArray := prog_12_method_81_code
def yX10_begins : MethodName := ⟨RX10, "begins", "(I)V"⟩
abbrev cX10_pushesAs : ByteArray := prog_12_method_82_code
def yX10_pushesAs : MethodName := ⟨RX10, "pushesAs", "(II)I"⟩
abbrev cX10_turnsAs : ByteArray := prog_12_method_83_code
def yX10_turnsAs : MethodName := ⟨RX10, "turnsAs", "(II)I"⟩
abbrev cX10_sinksAs : ByteArray := prog_12_method_84_code
def yX10_sinksAs : MethodName := ⟨RX10, "sinksAs", "(II)I"⟩
abbrev cX10_tellsAs : ByteArray := prog_12_method_85_code
def yX10_tellsAs : MethodName := ⟨RX10, "tellsAs", "(II)I"⟩
abbrev cX10_act : ByteArray := prog_12_method_86_code
def yX10_act : MethodName := ⟨RX10, "act", "(III)I"⟩
abbrev cX10_trace : ByteArray := prog_12_method_87_code
def yX10_trace : MethodName := ⟨RX10, "trace", "(I)I"⟩
abbrev cX10_isShelf : ByteArray := prog_12_method_88_code
def yX10_isShelf : MethodName := ⟨RX10, "isShelf", "(I)Z"⟩
abbrev cX10_keep : ByteArray := prog_12_method_89_code
def yX10_keep : MethodName := ⟨RX10, "keep", "(II)I"⟩
abbrev cX10_row : ByteArray := prog_12_method_90_code
def yX10_row : MethodName := ⟨RX10, "row", "(III)I"⟩
abbrev cX10_refusal : ByteArray := prog_12_method_91_code
def yX10_refusal : MethodName := ⟨RX10, "refusal", "(II)I"⟩
abbrev cX10_asSort : ByteArray := prog_12_method_92_code
def yX10_asSort : MethodName := ⟨RX10, "asSort", "(IJ)J"⟩
abbrev cX10_put : ByteArray := prog_12_method_93_code
def yX10_put : MethodName := ⟨RX10, "put", "(IIJ)I"⟩
abbrev cX10_element : ByteArray := prog_12_method_94_code
def yX10_element : MethodName := ⟨RX10, "element", "(II)J"⟩
abbrev cX10_shift : ByteArray := prog_12_method_95_code
def yX10_shift : MethodName := ⟨RX10, "shift", "(IIIII)I"⟩
abbrev cX10_taken : ByteArray := prog_12_method_96_code
def yX10_taken : MethodName := ⟨RX10, "taken", "(II)I"⟩
abbrev cX10_count : ByteArray := prog_12_method_97_code
def yX10_count : MethodName := ⟨RX10, "count", "(I)I"⟩
def RJ6 : String := "java/lang/Integer"
abbrev cJ6_bitCount_0f7a4 : ByteArray := prog_13_method_49_code
def yJ6_bitCount_0f7a4 : MethodName := ⟨RJ6, "bitCount", "(I)I"⟩
def RJ9 : String := "java/lang/Math"
abbrev cJ9_floorMod_7cf53 : ByteArray := prog_14_method_50_code
def yJ9_floorMod_7cf53 : MethodName := ⟨RJ9, "floorMod", "(II)I"⟩
abbrev cJ9_abs_0f7a4 : ByteArray := prog_14_method_59_code
def yJ9_abs_0f7a4 : MethodName := ⟨RJ9, "abs", "(I)I"⟩
abbrev cJ9_max_7cf53 : ByteArray := prog_14_method_65_code
def yJ9_max_7cf53 : MethodName := ⟨RJ9, "max", "(II)I"⟩
abbrev cJ9_min_7cf53 : ByteArray := prog_14_method_69_code
def yJ9_min_7cf53 : MethodName := ⟨RJ9, "min", "(II)I"⟩
def RJ10 : String := "java/lang/System"
def RL : String := "HoopWaistLaw"
abbrev cL_law : ByteArray := code
def yL_law : MethodName := ⟨RL, "law", "([I)Z"⟩
abbrev xF : Type := MethodName × ByteArray × Nat × Option FieldType
abbrev fX0_init : xF := (yX0_init, cX0_init, 1, none)
abbrev fX0_note : xF := (yX0_note, cX0_note, 5, none)
abbrev fX0_forgetOldest : xF := (yX0_forgetOldest, cX0_forgetOldest, 1, none)
abbrev fX1_init : xF := (yX1_init, cX1_init, 2, none)
abbrev fX1_becomes : xF := (yX1_becomes, cX1_becomes, 3, none)
abbrev fX1_minutesAt : xF := (yX1_minutesAt, cX1_minutesAt, 1, (some .int))
abbrev fX1_learnMinute : xF := (yX1_learnMinute, cX1_learnMinute, 2, none)
abbrev fX1_play : xF := (yX1_play, cX1_play, 4, none)
abbrev fX1_playMinute : xF := (yX1_playMinute, cX1_playMinute, 3, none)
abbrev fX1_knockFrom : xF := (yX1_knockFrom, cX1_knockFrom, 5, none)
abbrev fX1_drop : xF := (yX1_drop, cX1_drop, 4, none)
abbrev fX1_draw : xF := (yX1_draw, cX1_draw, 1, (some .int))
abbrev fX1_beside : xF := (yX1_beside, cX1_beside, 2, (some .int))
abbrev fX1_howManyUp : xF := (yX1_howManyUp, cX1_howManyUp, 3, (some .int))
abbrev fX1_longest : xF := (yX1_longest, cX1_longest, 3, (some .int))
abbrev fX2_init : xF := (yX2_init, cX2_init, 1, none)
abbrev fX2_copy : xF := (yX2_copy, cX2_copy, 2, none)
abbrev fX2_copyWay : xF := (yX2_copyWay, cX2_copyWay, 2, none)
abbrev fX2_raise : xF := (yX2_raise, cX2_raise, 1, none)
abbrev fX2_drop : xF := (yX2_drop, cX2_drop, 1, none)
abbrev fX2_lies : xF := (yX2_lies, cX2_lies, 1, (some .boolean))
abbrev fX2_need : xF := (yX2_need, cX2_need, 1, (some .int))
abbrev fX2_speed : xF := (yX2_speed, cX2_speed, 1, (some .int))
abbrev fX2_told : xF := (yX2_told, cX2_told, 2, (some .int))
abbrev fX2_become : xF := (yX2_become, cX2_become, 3, none)
abbrev fX2_farFrom : xF := (yX2_farFrom, cX2_farFrom, 3, (some .int))
abbrev fX2_quicken : xF := (yX2_quicken, cX2_quicken, 3, none)
abbrev fX2_move : xF := (yX2_move, cX2_move, 1, none)
abbrev fX2_sankToLie : xF := (yX2_sankToLie, cX2_sankToLie, 1, (some .boolean))
abbrev fX3_init : xF := (yX3_init, cX3_init, 1, none)
abbrev fX3_copy : xF := (yX3_copy, cX3_copy, 2, none)
abbrev fX3_add : xF := (yX3_add, cX3_add, 3, (some .int))
abbrev fX3_more : xF := (yX3_more, cX3_more, 5, (some .int))
abbrev fX3_withoutText : xF := (yX3_withoutText, cX3_withoutText, 2, (some .int))
abbrev fX3_worth : xF := (yX3_worth, cX3_worth, 4, (some .int))
abbrev fX3_pile : xF := (yX3_pile, cX3_pile, 2, none)
abbrev fX3_unpile : xF := (yX3_unpile, cX3_unpile, 1, (some .int))
abbrev fX3_joined : xF := (yX3_joined, cX3_joined, 3, (some .int))
abbrev fX4_init : xF := (yX4_init, cX4_init, 1, none)
abbrev fX4_takeIn : xF := (yX4_takeIn, cX4_takeIn, 2, (some .boolean))
abbrev fX4_readText : xF := (yX4_readText, cX4_readText, 3, (some .int))
abbrev fX4_readLine : xF := (yX4_readLine, cX4_readLine, 3, none)
abbrev fX4_readChain : xF := (yX4_readChain, cX4_readChain, 6, none)
abbrev fX4_isJoin : xF := (yX4_isJoin, cX4_isJoin, 3, (some .boolean))
abbrev fX4_readOperand : xF := (yX4_readOperand, cX4_readOperand, 3, none)
abbrev fX4_readOpened : xF := (yX4_readOpened, cX4_readOpened, 3, none)
abbrev fX4_readNumber : xF := (yX4_readNumber, cX4_readNumber, 3, none)
abbrev fX4_next : xF := (yX4_next, cX4_next, 1, (some .int))
abbrev fX4_takes : xF := (yX4_takes, cX4_takes, 2, (some .boolean))
abbrev fX4_isDigit : xF := (yX4_isDigit, cX4_isDigit, 1, (some .boolean))
abbrev fX4_nameOf : xF := (yX4_nameOf, cX4_nameOf, 1, (some .int))
abbrev fX5_init : xF := (yX5_init, cX5_init, 3, none)
abbrev fX5_copy : xF := (yX5_copy, cX5_copy, 3, none)
abbrev fX5_layBack : xF := (yX5_layBack, cX5_layBack, 3, none)
abbrev fX5_has : xF := (yX5_has, cX5_has, 2, (some .boolean))
abbrev fX5_isFull : xF := (yX5_isFull, cX5_isFull, 1, (some .boolean))
abbrev fX5_addHoop : xF := (yX5_addHoop, cX5_addHoop, 5, (some .int))
abbrev fX5_upright : xF := (yX5_upright, cX5_upright, 3, (some .int))
abbrev fX5_allUp : xF := (yX5_allUp, cX5_allUp, 3, (some .boolean))
abbrev fX5_allHighest : xF := (yX5_allHighest, cX5_allHighest, 2, (some .boolean))
abbrev fX5_layAllBut : xF := (yX5_layAllBut, cX5_layAllBut, 3, none)
abbrev fX5_isPushDue : xF := (yX5_isPushDue, cX5_isPushDue, 1, (some .boolean))
abbrev fX5_goalInTurn : xF := (yX5_goalInTurn, cX5_goalInTurn, 1, (some .int))
abbrev fX5_tick : xF := (yX5_tick, cX5_tick, 1, none)
abbrev fX5_push : xF := (yX5_push, cX5_push, 4, none)
abbrev fX5_settle : xF := (yX5_settle, cX5_settle, 2, none)
abbrev fX5_cross : xF := (yX5_cross, cX5_cross, 3, none)
abbrev fX5_areCrossed : xF := (yX5_areCrossed, cX5_areCrossed, 2, (some .boolean))
abbrev fX6_init : xF := (yX6_init, cX6_init, 1, none)
abbrev fX6_isSort : xF := (yX6_isSort, cX6_isSort, 1, (some .boolean))
abbrev fX6_isEmpty : xF := (yX6_isEmpty, cX6_isEmpty, 1, (some .boolean))
abbrev fX6_isTurn : xF := (yX6_isTurn, cX6_isTurn, 1, (some .boolean))
abbrev fX6_isRow : xF := (yX6_isRow, cX6_isRow, 1, (some .boolean))
abbrev fX6_hasBytes : xF := (yX6_hasBytes, cX6_hasBytes, 1, (some .boolean))
abbrev fX6_holdNothing : xF := (yX6_holdNothing, cX6_holdNothing, 1, none)
abbrev fX6_holdTurn : xF := (yX6_holdTurn, cX6_holdTurn, 2, none)
abbrev fX6_holdRow : xF := (yX6_holdRow, cX6_holdRow, 4, none)
abbrev fX6_bytesRefusal : xF := (yX6_bytesRefusal, cX6_bytesRefusal, 1, (some .int))
abbrev fX6_placeRefusal : xF := (yX6_placeRefusal, cX6_placeRefusal, 2, (some .int))
abbrev fX6_hasStretch : xF := (yX6_hasStretch, cX6_hasStretch, 3, (some .boolean))
abbrev fX6_lay : xF := (yX6_lay, cX6_lay, 4, none)
abbrev fX6_gapAt : xF := (yX6_gapAt, cX6_gapAt, 2, (some .int))
abbrev fX7_init : xF := (yX7_init, cX7_init, 3, none)
abbrev fX7_begin : xF := (yX7_begin, cX7_begin, 1, none)
abbrev fX7_leaveOut : xF := (yX7_leaveOut, cX7_leaveOut, 2, none)
abbrev fX7_addPush : xF := (yX7_addPush, cX7_addPush, 4, none)
abbrev fX7_step : xF := (yX7_step, cX7_step, 1, none)
abbrev fX7_behind : xF := (yX7_behind, cX7_behind, 4, (some (.object "HoopWaist$Hoop")))
abbrev fX7_fallOf : xF := (yX7_fallOf, cX7_fallOf, 3, (some .int))
abbrev fX7_isUpBehind : xF := (yX7_isUpBehind, cX7_isUpBehind, 4, (some .boolean))
abbrev fX7_lasting : xF := (yX7_lasting, cX7_lasting, 3, (some .int))
abbrev fX7_caughtAgain : xF := (yX7_caughtAgain, cX7_caughtAgain, 4, (some .int))
abbrev fX7_lastingBy : xF := (yX7_lastingBy, cX7_lastingBy, 6, (some .int))
abbrev fX7_firstUnlike : xF := (yX7_firstUnlike, cX7_firstUnlike, 4, (some .int))
abbrev fX8_init : xF := (yX8_init, cX8_init, 1, none)
abbrev fX8_has : xF := (yX8_has, cX8_has, 2, (some .boolean))
abbrev fX8_isFull : xF := (yX8_isFull, cX8_isFull, 1, (some .boolean))
abbrev fX8_addBody : xF := (yX8_addBody, cX8_addBody, 2, (some .int))
abbrev fX8_isUnder : xF := (yX8_isUnder, cX8_isUnder, 4, (some .boolean))
abbrev fX8_perform : xF := (yX8_perform, cX8_perform, 4, (some .int))
abbrev fX8_own : xF := (yX8_own, cX8_own, 4, (some .int))
abbrev fX8_above : xF := (yX8_above, cX8_above, 5, (some .int))
abbrev fX8_runFrom : xF := (yX8_runFrom, cX8_runFrom, 7, (some .int))
abbrev fX8_run : xF := (yX8_run, cX8_run, 5, (some .int))
abbrev fX8_note : xF := (yX8_note, cX8_note, 2, none)
abbrev fX9_init : xF := (yX9_init, cX9_init, 2, none)
abbrev fX9_hoop : xF := (yX9_hoop, cX9_hoop, 2, (some .int))
abbrev fX9_hoops : xF := (yX9_hoops, cX9_hoops, 6, (some .int))
abbrev fX9_mend : xF := (yX9_mend, cX9_mend, 5, (some .int))
abbrev fX9_of : xF := (yX9_of, cX9_of, 3, (some .int))
abbrev fX9_feed : xF := (yX9_feed, cX9_feed, 2, (some .int))
abbrev fX9_law : xF := (yX9_law, cX9_law, 2, (some .int))
abbrev fX9_go : xF := (yX9_go, cX9_go, 3, (some .int))
abbrev fX9_lift : xF := (yX9_lift, cX9_lift, 2, (some .int))
abbrev fX9_led : xF := (yX9_led, cX9_led, 2, (some .int))
abbrev fX9_then : xF := (yX9_then, cX9_then, 5, (some .int))
abbrev fX9_falls : xF := (yX9_falls, cX9_falls, 2, (some .int))
abbrev fX9_lasts : xF := (yX9_lasts, cX9_lasts, 1, (some .int))
abbrev fX9_beatFor : xF := (yX9_beatFor, cX9_beatFor, 7, (some .int))
abbrev fX9_leastPush : xF := (yX9_leastPush, cX9_leastPush, 3, (some .int))
abbrev fX9_mistake : xF := (yX9_mistake, cX9_mistake, 3, (some .int))
abbrev fX9_held : xF := (yX9_held, cX9_held, 5, (some .int))
abbrev fX9_rescue : xF := (yX9_rescue, cX9_rescue, 8, (some .int))
abbrev fX9_start : xF := (yX9_start, cX9_start, 7, (some .int))
abbrev fX9_music : xF := (yX9_music, cX9_music, 3, (some .int))
abbrev fX9_judge : xF := (yX9_judge, cX9_judge, 4, (some .int))
abbrev fX9_begun : xF := (yX9_begun, cX9_begun, 8, (some .int))
abbrev fX9_skill : xF := (yX9_skill, cX9_skill, 4, (some .int))
abbrev fX9_left : xF := (yX9_left, cX9_left, 4, (some .int))
abbrev fX9_knocked : xF := (yX9_knocked, cX9_knocked, 4, (some .int))
abbrev fX9_last : xF := (yX9_last, cX9_last, 4, (some .int))
abbrev fX9_alone : xF := (yX9_alone, cX9_alone, 10, (some .long))
abbrev fX9_learn : xF := (yX9_learn, cX9_learn, 4, (some .int))
abbrev fX9_till : xF := (yX9_till, cX9_till, 5, (some .int))
abbrev fX9_image : xF := (yX9_image, cX9_image, 1, (some .int))
abbrev fX9_back : xF := (yX9_back, cX9_back, 1, (some .int))
abbrev fX9_undo : xF := (yX9_undo, cX9_undo, 2, (some .int))
abbrev fX9_redo : xF := (yX9_redo, cX9_redo, 2, (some .int))
abbrev fX9_body : xF := (yX9_body, cX9_body, 2, (some .int))
abbrev fX9_act : xF := (yX9_act, cX9_act, 4, (some .int))
abbrev fX9_trace : xF := (yX9_trace, cX9_trace, 2, (some .int))
abbrev fX9_keep : xF := (yX9_keep, cX9_keep, 3, (some .int))
abbrev fX9_row : xF := (yX9_row, cX9_row, 4, (some .int))
abbrev fX9_put : xF := (yX9_put, cX9_put, 6, (some .int))
abbrev fX9_element : xF := (yX9_element, cX9_element, 3, (some .long))
abbrev fX9_shift : xF := (yX9_shift, cX9_shift, 8, (some .int))
abbrev fX9_taken : xF := (yX9_taken, cX9_taken, 5, (some .int))
abbrev fX9_count : xF := (yX9_count, cX9_count, 2, (some .int))
abbrev fX9_isWeight : xF := (yX9_isWeight, cX9_isWeight, 1, (some .boolean))
abbrev fX9_isPace : xF := (yX9_isPace, cX9_isPace, 1, (some .boolean))
abbrev fX9_isShelf : xF := (yX9_isShelf, cX9_isShelf, 1, (some .boolean))
abbrev fX9_isGirl : xF := (yX9_isGirl, cX9_isGirl, 1, (some .boolean))
abbrev fX9_isSkill : xF := (yX9_isSkill, cX9_isSkill, 1, (some .boolean))
abbrev fX9_isMinutes : xF := (yX9_isMinutes, cX9_isMinutes, 1, (some .boolean))
abbrev fX9_isKind : xF := (yX9_isKind, cX9_isKind, 1, (some .boolean))
abbrev fX9_rest : xF := (yX9_rest, cX9_rest, 2, (some .int))
abbrev fX9_goalOf : xF := (yX9_goalOf, cX9_goalOf, 1, (some .int))
abbrev fX9_within : xF := (yX9_within, cX9_within, 3, (some .int))
abbrev fX9_greatestDivisor : xF := (yX9_greatestDivisor, cX9_greatestDivisor, 4, (some .int))
abbrev fX9_hoopCame : xF := (yX9_hoopCame, cX9_hoopCame, 6, (some .boolean))
abbrev fX9_canBecome : xF := (yX9_canBecome, cX9_canBecome, 4, (some .boolean))
abbrev fX9_hoopCanBecome : xF := (yX9_hoopCanBecome, cX9_hoopCanBecome, 3, (some .boolean))
abbrev fX9_settingCanBecome : xF := (yX9_settingCanBecome, cX9_settingCanBecome, 3, (some .boolean))
abbrev fX9_valueOf : xF := (yX9_valueOf, cX9_valueOf, 3, (some .int))
abbrev fX9_settingOf : xF := (yX9_settingOf, cX9_settingOf, 2, (some .int))
abbrev fX9_lay : xF := (yX9_lay, cX9_lay, 4, none)
abbrev fX10_within : xF := (yX10_within, cX10_within, 6, (some .boolean))
abbrev fX10_sizeOf : xF := (yX10_sizeOf, cX10_sizeOf, 1, (some .int))
abbrev fX10_isIn : xF := (yX10_isIn, cX10_isIn, 2, (some .boolean))
abbrev fX10_bitsOf : xF := (yX10_bitsOf, cX10_bitsOf, 3, (some .int))
abbrev fX10_init : xF := (yX10_init, cX10_init, 2, none)
abbrev fX10_becomes : xF := (yX10_becomes, cX10_becomes, 5, (some .int))
abbrev fX10_lays : xF := (yX10_lays, cX10_lays, 4, none)
abbrev fX10_undo : xF := (yX10_undo, cX10_undo, 1, (some .int))
abbrev fX10_redo : xF := (yX10_redo, cX10_redo, 1, (some .int))
abbrev fX10_isHoop : xF := (yX10_isHoop, cX10_isHoop, 2, (some .boolean))
abbrev fX10_isOne : xF := (yX10_isOne, cX10_isOne, 6, (some .boolean))
abbrev fX10_adds : xF := (yX10_adds, cX10_adds, 4, none)
abbrev fX10_hoop : xF := (yX10_hoop, cX10_hoop, 2, (some .int))
abbrev fX10_hoops : xF := (yX10_hoops, cX10_hoops, 7, (some .int))
abbrev fX10_mend : xF := (yX10_mend, cX10_mend, 6, (some .int))
abbrev fX10_needOf : xF := (yX10_needOf, cX10_needOf, 2, (some .int))
abbrev fX10_of : xF := (yX10_of, cX10_of, 3, (some .int))
abbrev fX10_feed : xF := (yX10_feed, cX10_feed, 2, (some .int))
abbrev fX10_byteAt : xF := (yX10_byteAt, cX10_byteAt, 1, (some .int))
abbrev fX10_wrong : xF := (yX10_wrong, cX10_wrong, 1, (some .int))
abbrev fX10_takes : xF := (yX10_takes, cX10_takes, 2, (some .boolean))
abbrev fX10_either : xF := (yX10_either, cX10_either, 3, (some .int))
abbrev fX10_both : xF := (yX10_both, cX10_both, 3, (some .int))
abbrev fX10_compared : xF := (yX10_compared, cX10_compared, 4, (some .int))
abbrev fX10_sums : xF := (yX10_sums, cX10_sums, 4, (some .int))
abbrev fX10_product : xF := (yX10_product, cX10_product, 4, (some .int))
abbrev fX10_nameOf : xF := (yX10_nameOf, cX10_nameOf, 1, (some .int))
abbrev fX10_one : xF := (yX10_one, cX10_one, 5, (some .int))
abbrev fX10_workOut : xF := (yX10_workOut, cX10_workOut, 8, (some .int))
abbrev fX10_law : xF := (yX10_law, cX10_law, 4, (some .int))
abbrev fX10_begins1 : xF := (yX10_begins1, cX10_begins1, 3, none)
abbrev fX10_gained : xF := (yX10_gained, cX10_gained, 5, (some .int))
abbrev fX10_becomesPace : xF := (yX10_becomesPace, cX10_becomesPace, 4, none)
abbrev fX10_pushes : xF := (yX10_pushes, cX10_pushes, 5, none)
abbrev fX10_turns : xF := (yX10_turns, cX10_turns, 4, none)
abbrev fX10_isPush : xF := (yX10_isPush, cX10_isPush, 2, (some .boolean))
abbrev fX10_toOf : xF := (yX10_toOf, cX10_toOf, 2, (some .int))
abbrev fX10_tickGoes : xF := (yX10_tickGoes, cX10_tickGoes, 2, none)
abbrev fX10_upNow : xF := (yX10_upNow, cX10_upNow, 3, (some .int))
abbrev fX10_lyingOf : xF := (yX10_lyingOf, cX10_lyingOf, 4, (some .int))
abbrev fX10_go : xF := (yX10_go, cX10_go, 5, (some .int))
abbrev fX10_lift : xF := (yX10_lift, cX10_lift, 2, (some .int))
abbrev fX10_led : xF := (yX10_led, cX10_led, 2, (some .int))
abbrev fX10_then : xF := (yX10_then, cX10_then, 5, (some .int))
abbrev fX10_fallOf : xF := (yX10_fallOf, cX10_fallOf, 3, (some .int))
abbrev fX10_falls : xF := (yX10_falls, cX10_falls, 3, (some .int))
abbrev fX10_lastsOf : xF := (yX10_lastsOf, cX10_lastsOf, 3, (some .int))
abbrev fX10_lasts : xF := (yX10_lasts, cX10_lasts, 1, (some .int))
abbrev fX10_beatFor : xF := (yX10_beatFor, cX10_beatFor, 9, (some .int))
abbrev fX10_leastPush : xF := (yX10_leastPush, cX10_leastPush, 5, (some .int))
abbrev fX10_mistaken : xF := (yX10_mistaken, cX10_mistaken, 9, (some .int))
abbrev fX10_mistake : xF := (yX10_mistake, cX10_mistake, 4, (some .int))
abbrev fX10_held : xF := (yX10_held, cX10_held, 5, (some .int))
abbrev fX10_fallWith : xF := (yX10_fallWith, cX10_fallWith, 6, (some .int))
abbrev fX10_rescue : xF := (yX10_rescue, cX10_rescue, 5, (some .int))
abbrev fX10_start : xF := (yX10_start, cX10_start, 7, (some .int))
abbrev fX10_rowIs : xF := (yX10_rowIs, cX10_rowIs, 2, (some .int))
abbrev fX10_music : xF := (yX10_music, cX10_music, 9, (some .int))
abbrev fX10_firstFalse : xF := (yX10_firstFalse, cX10_firstFalse, 4, (some .int))
abbrev fX10_judge : xF := (yX10_judge, cX10_judge, 3, (some .int))
abbrev fX10_begun : xF := (yX10_begun, cX10_begun, 9, (some .int))
abbrev fX10_isGirl : xF := (yX10_isGirl, cX10_isGirl, 1, (some .boolean))
abbrev fX10_skill : xF := (yX10_skill, cX10_skill, 4, (some .int))
abbrev fX10_besideOf : xF := (yX10_besideOf, cX10_besideOf, 2, (some .int))
abbrev fX10_draws : xF := (yX10_draws, cX10_draws, 1, (some .int))
abbrev fX10_drops : xF := (yX10_drops, cX10_drops, 4, none)
abbrev fX10_field : xF := (yX10_field, cX10_field, 7, none)
abbrev fX10_left : xF := (yX10_left, cX10_left, 6, (some .int))
abbrev fX10_knocked : xF := (yX10_knocked, cX10_knocked, 4, (some .int))
abbrev fX10_last : xF := (yX10_last, cX10_last, 5, (some .int))
abbrev fX10_alone : xF := (yX10_alone, cX10_alone, 14, (some .long))
abbrev fX10_needsOf : xF := (yX10_needsOf, cX10_needsOf, 1, (some .int))
abbrev fX10_learn : xF := (yX10_learn, cX10_learn, 4, (some .int))
abbrev fX10_till : xF := (yX10_till, cX10_till, 5, (some .int))
abbrev fX10_image : xF := (yX10_image, cX10_image, 2, (some .int))
abbrev fX10_back : xF := (yX10_back, cX10_back, 2, (some .int))
abbrev fX10_isBody : xF := (yX10_isBody, cX10_isBody, 2, (some .boolean))
abbrev fX10_kindOf : xF := (yX10_kindOf, cX10_kindOf, 2, (some .int))
abbrev fX10_body : xF := (yX10_body, cX10_body, 2, (some .int))
abbrev fX10_above : xF := (yX10_above, cX10_above, 1, (some .int))
abbrev fX10_begins : xF := (yX10_begins, cX10_begins, 2, none)
abbrev fX10_pushesAs : xF := (yX10_pushesAs, cX10_pushesAs, 3, (some .int))
abbrev fX10_turnsAs : xF := (yX10_turnsAs, cX10_turnsAs, 4, (some .int))
abbrev fX10_sinksAs : xF := (yX10_sinksAs, cX10_sinksAs, 4, (some .int))
abbrev fX10_tellsAs : xF := (yX10_tellsAs, cX10_tellsAs, 4, (some .int))
abbrev fX10_act : xF := (yX10_act, cX10_act, 4, (some .int))
abbrev fX10_trace : xF := (yX10_trace, cX10_trace, 2, (some .int))
abbrev fX10_isShelf : xF := (yX10_isShelf, cX10_isShelf, 1, (some .boolean))
abbrev fX10_keep : xF := (yX10_keep, cX10_keep, 3, (some .int))
abbrev fX10_row : xF := (yX10_row, cX10_row, 5, (some .int))
abbrev fX10_refusal : xF := (yX10_refusal, cX10_refusal, 3, (some .int))
abbrev fX10_asSort : xF := (yX10_asSort, cX10_asSort, 3, (some .long))
abbrev fX10_put : xF := (yX10_put, cX10_put, 6, (some .int))
abbrev fX10_element : xF := (yX10_element, cX10_element, 3, (some .long))
abbrev fX10_shift : xF := (yX10_shift, cX10_shift, 7, (some .int))
abbrev fX10_taken : xF := (yX10_taken, cX10_taken, 4, (some .int))
abbrev fX10_count : xF := (yX10_count, cX10_count, 2, (some .int))
abbrev fJ6_bitCount_0f7a4 : xF := (yJ6_bitCount_0f7a4, cJ6_bitCount_0f7a4, 1, (some .int))
abbrev fJ9_floorMod_7cf53 : xF := (yJ9_floorMod_7cf53, cJ9_floorMod_7cf53, 3, (some .int))
abbrev fJ9_abs_0f7a4 : xF := (yJ9_abs_0f7a4, cJ9_abs_0f7a4, 1, (some .int))
abbrev fJ9_max_7cf53 : xF := (yJ9_max_7cf53, cJ9_max_7cf53, 2, (some .int))
abbrev fJ9_min_7cf53 : xF := (yJ9_min_7cf53, cJ9_min_7cf53, 2, (some .int))
abbrev fL_law : xF := (yL_law, cL_law, 4, (some .boolean))
abbrev vwCl : List vw_C := [(RX0, TX0, 6), (RX1, TX1, 7), (RX2, TX2, 5), (RX3, TX3, 6), (RX4, TX4, 5), (RX5, TX5, 10), (RX6, TX6, 5), (RX7, TX7, 8), (RX8, TX8, 5), (RX9, TX9, 10), (RX10, TX10, 46)]
end
section
theorem dX0_init_0 : decode cX0_init 0 = .ok (.aload_n 0, 1) := by decide +kernel
theorem dX0_init_1 : decode cX0_init 1 = .ok (.invokespecial 1, 3) := by decide +kernel
theorem dX0_init_4 : decode cX0_init 4 = .ok (.aload_n 0, 1) := by decide +kernel
theorem dX0_init_5 : decode cX0_init 5 = .ok (.bipush 40, 2) := by decide +kernel
theorem dX0_init_7 : decode cX0_init 7 = .ok (.newarray .int, 2) := by decide +kernel
theorem dX0_init_9 : decode cX0_init 9 = .ok (.putfield 9, 3) := by decide +kernel
theorem dX0_init_12 : decode cX0_init 12 = .ok (.aload_n 0, 1) := by decide +kernel
theorem dX0_init_13 : decode cX0_init 13 = .ok (.bipush 40, 2) := by decide +kernel
theorem dX0_init_15 : decode cX0_init 15 = .ok (.newarray .int, 2) := by decide +kernel
theorem dX0_init_17 : decode cX0_init 17 = .ok (.putfield 13, 3) := by decide +kernel
theorem dX0_init_20 : decode cX0_init 20 = .ok (.aload_n 0, 1) := by decide +kernel
theorem dX0_init_21 : decode cX0_init 21 = .ok (.bipush 40, 2) := by decide +kernel
theorem dX0_init_23 : decode cX0_init 23 = .ok (.newarray .int, 2) := by decide +kernel
theorem dX0_init_25 : decode cX0_init 25 = .ok (.putfield 16, 3) := by decide +kernel
theorem dX0_init_28 : decode cX0_init 28 = .ok (.aload_n 0, 1) := by decide +kernel
theorem dX0_init_29 : decode cX0_init 29 = .ok (.bipush 40, 2) := by decide +kernel
theorem dX0_init_31 : decode cX0_init 31 = .ok (.newarray .int, 2) := by decide +kernel
theorem dX0_init_33 : decode cX0_init 33 = .ok (.putfield 19, 3) := by decide +kernel
theorem dX0_init_36 : decode cX0_init 36 = .ok (.return_, 1) := by decide +kernel
theorem dX0_note_0 : decode cX0_note 0 = .ok (.aload_n 0, 1) := by decide +kernel
theorem dX0_note_1 : decode cX0_note 1 = .ok (.getfield 22, 3) := by decide +kernel
theorem dX0_note_4 : decode cX0_note 4 = .ok (.bipush 40, 2) := by decide +kernel
theorem dX0_note_6 : decode cX0_note 6 = .ok (.if_icmp .lt 7, 3) := by decide +kernel
theorem dX0_note_9 : decode cX0_note 9 = .ok (.aload_n 0, 1) := by decide +kernel
theorem dX0_note_10 : decode cX0_note 10 = .ok (.invokevirtual 26, 3) := by decide +kernel
theorem dX0_note_13 : decode cX0_note 13 = .ok (.aload_n 0, 1) := by decide +kernel
theorem dX0_note_14 : decode cX0_note 14 = .ok (.getfield 9, 3) := by decide +kernel
theorem dX0_note_17 : decode cX0_note 17 = .ok (.aload_n 0, 1) := by decide +kernel
theorem dX0_note_18 : decode cX0_note 18 = .ok (.getfield 22, 3) := by decide +kernel
theorem dX0_note_21 : decode cX0_note 21 = .ok (.iload_n 1, 1) := by decide +kernel
theorem dX0_note_22 : decode cX0_note 22 = .ok (.iastore, 1) := by decide +kernel
theorem dX0_note_23 : decode cX0_note 23 = .ok (.aload_n 0, 1) := by decide +kernel
theorem dX0_note_24 : decode cX0_note 24 = .ok (.getfield 13, 3) := by decide +kernel
theorem dX0_note_27 : decode cX0_note 27 = .ok (.aload_n 0, 1) := by decide +kernel
theorem dX0_note_28 : decode cX0_note 28 = .ok (.getfield 22, 3) := by decide +kernel
theorem dX0_note_31 : decode cX0_note 31 = .ok (.iload_n 2, 1) := by decide +kernel
theorem dX0_note_32 : decode cX0_note 32 = .ok (.iastore, 1) := by decide +kernel
theorem dX0_note_33 : decode cX0_note 33 = .ok (.aload_n 0, 1) := by decide +kernel
theorem dX0_note_34 : decode cX0_note 34 = .ok (.getfield 16, 3) := by decide +kernel
theorem dX0_note_37 : decode cX0_note 37 = .ok (.aload_n 0, 1) := by decide +kernel
theorem dX0_note_38 : decode cX0_note 38 = .ok (.getfield 22, 3) := by decide +kernel
theorem dX0_note_41 : decode cX0_note 41 = .ok (.iload_n 3, 1) := by decide +kernel
theorem dX0_note_42 : decode cX0_note 42 = .ok (.iastore, 1) := by decide +kernel
theorem dX0_note_43 : decode cX0_note 43 = .ok (.aload_n 0, 1) := by decide +kernel
theorem dX0_note_44 : decode cX0_note 44 = .ok (.getfield 19, 3) := by decide +kernel
theorem dX0_note_47 : decode cX0_note 47 = .ok (.aload_n 0, 1) := by decide +kernel
theorem dX0_note_48 : decode cX0_note 48 = .ok (.getfield 22, 3) := by decide +kernel
theorem dX0_note_51 : decode cX0_note 51 = .ok (.iload 4, 2) := by decide +kernel
theorem dX0_note_53 : decode cX0_note 53 = .ok (.iastore, 1) := by decide +kernel
theorem dX0_note_54 : decode cX0_note 54 = .ok (.aload_n 0, 1) := by decide +kernel
theorem dX0_note_55 : decode cX0_note 55 = .ok (.dup, 1) := by decide +kernel
theorem dX0_note_56 : decode cX0_note 56 = .ok (.getfield 22, 3) := by decide +kernel
theorem dX0_note_59 : decode cX0_note 59 = .ok (.iconst 1, 1) := by decide +kernel
theorem dX0_note_60 : decode cX0_note 60 = .ok (.iadd, 1) := by decide +kernel
theorem dX0_note_61 : decode cX0_note 61 = .ok (.putfield 22, 3) := by decide +kernel
theorem dX0_note_64 : decode cX0_note 64 = .ok (.aload_n 0, 1) := by decide +kernel
theorem dX0_note_65 : decode cX0_note 65 = .ok (.aload_n 0, 1) := by decide +kernel
theorem dX0_note_66 : decode cX0_note 66 = .ok (.getfield 22, 3) := by decide +kernel
theorem dX0_note_69 : decode cX0_note 69 = .ok (.putfield 29, 3) := by decide +kernel
theorem dX0_note_72 : decode cX0_note 72 = .ok (.return_, 1) := by decide +kernel
theorem dX0_forgetOldest_0 : decode cX0_forgetOldest 0 = .ok (.aload_n 0, 1) := by decide +kernel
theorem dX0_forgetOldest_1 : decode cX0_forgetOldest 1 = .ok (.getfield 9, 3) := by decide +kernel
theorem dX0_forgetOldest_4 : decode cX0_forgetOldest 4 = .ok (.iconst 1, 1) := by decide +kernel
theorem dX0_forgetOldest_5 : decode cX0_forgetOldest 5 = .ok (.aload_n 0, 1) := by decide +kernel
theorem dX0_forgetOldest_6 : decode cX0_forgetOldest 6 = .ok (.getfield 9, 3) := by decide +kernel
theorem dX0_forgetOldest_9 : decode cX0_forgetOldest 9 = .ok (.iconst 0, 1) := by decide +kernel
theorem dX0_forgetOldest_10 : decode cX0_forgetOldest 10 = .ok (.bipush 39, 2) := by decide +kernel
theorem dX0_forgetOldest_12 : decode cX0_forgetOldest 12 = .ok (.invokestatic 32, 3) := by decide +kernel
theorem dX0_forgetOldest_15 : decode cX0_forgetOldest 15 = .ok (.aload_n 0, 1) := by decide +kernel
theorem dX0_forgetOldest_16 : decode cX0_forgetOldest 16 = .ok (.getfield 13, 3) := by decide +kernel
theorem dX0_forgetOldest_19 : decode cX0_forgetOldest 19 = .ok (.iconst 1, 1) := by decide +kernel
theorem dX0_forgetOldest_20 : decode cX0_forgetOldest 20 = .ok (.aload_n 0, 1) := by decide +kernel
theorem dX0_forgetOldest_21 : decode cX0_forgetOldest 21 = .ok (.getfield 13, 3) := by decide +kernel
theorem dX0_forgetOldest_24 : decode cX0_forgetOldest 24 = .ok (.iconst 0, 1) := by decide +kernel
theorem dX0_forgetOldest_25 : decode cX0_forgetOldest 25 = .ok (.bipush 39, 2) := by decide +kernel
theorem dX0_forgetOldest_27 : decode cX0_forgetOldest 27 = .ok (.invokestatic 32, 3) := by decide +kernel
theorem dX0_forgetOldest_30 : decode cX0_forgetOldest 30 = .ok (.aload_n 0, 1) := by decide +kernel
theorem dX0_forgetOldest_31 : decode cX0_forgetOldest 31 = .ok (.getfield 16, 3) := by decide +kernel
theorem dX0_forgetOldest_34 : decode cX0_forgetOldest 34 = .ok (.iconst 1, 1) := by decide +kernel
theorem dX0_forgetOldest_35 : decode cX0_forgetOldest 35 = .ok (.aload_n 0, 1) := by decide +kernel
theorem dX0_forgetOldest_36 : decode cX0_forgetOldest 36 = .ok (.getfield 16, 3) := by decide +kernel
theorem dX0_forgetOldest_39 : decode cX0_forgetOldest 39 = .ok (.iconst 0, 1) := by decide +kernel
theorem dX0_forgetOldest_40 : decode cX0_forgetOldest 40 = .ok (.bipush 39, 2) := by decide +kernel
theorem dX0_forgetOldest_42 : decode cX0_forgetOldest 42 = .ok (.invokestatic 32, 3) := by decide +kernel
theorem dX0_forgetOldest_45 : decode cX0_forgetOldest 45 = .ok (.aload_n 0, 1) := by decide +kernel
theorem dX0_forgetOldest_46 : decode cX0_forgetOldest 46 = .ok (.getfield 19, 3) := by decide +kernel
theorem dX0_forgetOldest_49 : decode cX0_forgetOldest 49 = .ok (.iconst 1, 1) := by decide +kernel
theorem dX0_forgetOldest_50 : decode cX0_forgetOldest 50 = .ok (.aload_n 0, 1) := by decide +kernel
theorem dX0_forgetOldest_51 : decode cX0_forgetOldest 51 = .ok (.getfield 19, 3) := by decide +kernel
theorem dX0_forgetOldest_54 : decode cX0_forgetOldest 54 = .ok (.iconst 0, 1) := by decide +kernel
theorem dX0_forgetOldest_55 : decode cX0_forgetOldest 55 = .ok (.bipush 39, 2) := by decide +kernel
theorem dX0_forgetOldest_57 : decode cX0_forgetOldest 57 = .ok (.invokestatic 32, 3) := by decide +kernel
theorem dX0_forgetOldest_60 : decode cX0_forgetOldest 60 = .ok (.aload_n 0, 1) := by decide +kernel
theorem dX0_forgetOldest_61 : decode cX0_forgetOldest 61 = .ok (.bipush 39, 2) := by decide +kernel
theorem dX0_forgetOldest_63 : decode cX0_forgetOldest 63 = .ok (.putfield 22, 3) := by decide +kernel
theorem dX0_forgetOldest_66 : decode cX0_forgetOldest 66 = .ok (.return_, 1) := by decide +kernel
theorem dX1_init_0 : decode cX1_init 0 = .ok (.aload_n 0, 1) := by decide +kernel
theorem dX1_init_1 : decode cX1_init 1 = .ok (.invokespecial 3, 3) := by decide +kernel
theorem dX1_init_4 : decode cX1_init 4 = .ok (.aload_n 0, 1) := by decide +kernel
theorem dX1_init_5 : decode cX1_init 5 = .ok (.bipush 25, 2) := by decide +kernel
theorem dX1_init_7 : decode cX1_init 7 = .ok (.newarray .int, 2) := by decide +kernel
theorem dX1_init_9 : decode cX1_init 9 = .ok (.putfield 9, 3) := by decide +kernel
theorem dX1_init_12 : decode cX1_init 12 = .ok (.aload_n 0, 1) := by decide +kernel
theorem dX1_init_13 : decode cX1_init 13 = .ok (.bipush 25, 2) := by decide +kernel
theorem dX1_init_15 : decode cX1_init 15 = .ok (.newarray .int, 2) := by decide +kernel
theorem dX1_init_17 : decode cX1_init 17 = .ok (.putfield 15, 3) := by decide +kernel
theorem dX1_init_20 : decode cX1_init 20 = .ok (.aload_n 0, 1) := by decide +kernel
theorem dX1_init_21 : decode cX1_init 21 = .ok (.bipush 25, 2) := by decide +kernel
theorem dX1_init_23 : decode cX1_init 23 = .ok (.newarray .boolean, 2) := by decide +kernel
theorem dX1_init_25 : decode cX1_init 25 = .ok (.putfield 18, 3) := by decide +kernel
theorem dX1_init_28 : decode cX1_init 28 = .ok (.aload_n 0, 1) := by decide +kernel
theorem dX1_init_29 : decode cX1_init 29 = .ok (.bipush 25, 2) := by decide +kernel
theorem dX1_init_31 : decode cX1_init 31 = .ok (.newarray .int, 2) := by decide +kernel
theorem dX1_init_33 : decode cX1_init 33 = .ok (.putfield 22, 3) := by decide +kernel
theorem dX1_init_36 : decode cX1_init 36 = .ok (.aload_n 0, 1) := by decide +kernel
theorem dX1_init_37 : decode cX1_init 37 = .ok (.bipush 25, 2) := by decide +kernel
theorem dX1_init_39 : decode cX1_init 39 = .ok (.newarray .int, 2) := by decide +kernel
theorem dX1_init_41 : decode cX1_init 41 = .ok (.putfield 25, 3) := by decide +kernel
theorem dX1_init_44 : decode cX1_init 44 = .ok (.iconst 0, 1) := by decide +kernel
theorem dX1_init_45 : decode cX1_init 45 = .ok (.istore_n 1, 1) := by decide +kernel
theorem dX1_init_46 : decode cX1_init 46 = .ok (.iload_n 1, 1) := by decide +kernel
theorem dX1_init_47 : decode cX1_init 47 = .ok (.bipush 25, 2) := by decide +kernel
theorem dX1_init_49 : decode cX1_init 49 = .ok (.if_icmp .ge 17, 3) := by decide +kernel
theorem dX1_init_52 : decode cX1_init 52 = .ok (.aload_n 0, 1) := by decide +kernel
theorem dX1_init_53 : decode cX1_init 53 = .ok (.getfield 9, 3) := by decide +kernel
theorem dX1_init_56 : decode cX1_init 56 = .ok (.iload_n 1, 1) := by decide +kernel
theorem dX1_init_57 : decode cX1_init 57 = .ok (.bipush 9, 2) := by decide +kernel
theorem dX1_init_59 : decode cX1_init 59 = .ok (.iastore, 1) := by decide +kernel
theorem dX1_init_60 : decode cX1_init 60 = .ok (.iinc 1 1, 3) := by decide +kernel
theorem dX1_init_63 : decode cX1_init 63 = .ok (.goto (-17), 3) := by decide +kernel
theorem dX1_init_66 : decode cX1_init 66 = .ok (.aload_n 0, 1) := by decide +kernel
theorem dX1_init_67 : decode cX1_init 67 = .ok (.iconst 1, 1) := by decide +kernel
theorem dX1_init_68 : decode cX1_init 68 = .ok (.putfield 28, 3) := by decide +kernel
theorem dX1_init_71 : decode cX1_init 71 = .ok (.return_, 1) := by decide +kernel
theorem dX1_becomes_0 : decode cX1_becomes 0 = .ok (.aload_n 0, 1) := by decide +kernel
theorem dX1_becomes_1 : decode cX1_becomes 1 = .ok (.getfield 9, 3) := by decide +kernel
theorem dX1_becomes_4 : decode cX1_becomes 4 = .ok (.iload_n 1, 1) := by decide +kernel
theorem dX1_becomes_5 : decode cX1_becomes 5 = .ok (.iload_n 2, 1) := by decide +kernel
theorem dX1_becomes_6 : decode cX1_becomes 6 = .ok (.iastore, 1) := by decide +kernel
theorem dX1_becomes_7 : decode cX1_becomes 7 = .ok (.aload_n 0, 1) := by decide +kernel
theorem dX1_becomes_8 : decode cX1_becomes 8 = .ok (.getfield 15, 3) := by decide +kernel
theorem dX1_becomes_11 : decode cX1_becomes 11 = .ok (.iload_n 1, 1) := by decide +kernel
theorem dX1_becomes_12 : decode cX1_becomes 12 = .ok (.iconst 0, 1) := by decide +kernel
theorem dX1_becomes_13 : decode cX1_becomes 13 = .ok (.iastore, 1) := by decide +kernel
theorem dX1_becomes_14 : decode cX1_becomes 14 = .ok (.return_, 1) := by decide +kernel
theorem dX1_minutesAt_0 : decode cX1_minutesAt 0 = .ok (.iconst 1, 1) := by decide +kernel
theorem dX1_minutesAt_1 : decode cX1_minutesAt 1 = .ok (.iload_n 0, 1) := by decide +kernel
theorem dX1_minutesAt_2 : decode cX1_minutesAt 2 = .ok (.invokestatic 32, 3) := by decide +kernel
theorem dX1_minutesAt_5 : decode cX1_minutesAt 5 = .ok (.ireturn, 1) := by decide +kernel
theorem dX1_learnMinute_0 : decode cX1_learnMinute 0 = .ok (.aload_n 0, 1) := by decide +kernel
theorem dX1_learnMinute_1 : decode cX1_learnMinute 1 = .ok (.getfield 9, 3) := by decide +kernel
theorem dX1_learnMinute_4 : decode cX1_learnMinute 4 = .ok (.iload_n 1, 1) := by decide +kernel
theorem dX1_learnMinute_5 : decode cX1_learnMinute 5 = .ok (.iaload, 1) := by decide +kernel
theorem dX1_learnMinute_6 : decode cX1_learnMinute 6 = .ok (.bipush 12, 2) := by decide +kernel
theorem dX1_learnMinute_8 : decode cX1_learnMinute 8 = .ok (.if_icmp .lt 4, 3) := by decide +kernel
theorem dX1_learnMinute_11 : decode cX1_learnMinute 11 = .ok (.return_, 1) := by decide +kernel
theorem dX1_learnMinute_12 : decode cX1_learnMinute 12 = .ok (.aload_n 0, 1) := by decide +kernel
theorem dX1_learnMinute_13 : decode cX1_learnMinute 13 = .ok (.getfield 15, 3) := by decide +kernel
theorem dX1_learnMinute_16 : decode cX1_learnMinute 16 = .ok (.iload_n 1, 1) := by decide +kernel
theorem dX1_learnMinute_17 : decode cX1_learnMinute 17 = .ok (.dup2, 1) := by decide +kernel
theorem dX1_learnMinute_18 : decode cX1_learnMinute 18 = .ok (.iaload, 1) := by decide +kernel
theorem dX1_learnMinute_19 : decode cX1_learnMinute 19 = .ok (.iconst 1, 1) := by decide +kernel
theorem dX1_learnMinute_20 : decode cX1_learnMinute 20 = .ok (.iadd, 1) := by decide +kernel
theorem dX1_learnMinute_21 : decode cX1_learnMinute 21 = .ok (.iastore, 1) := by decide +kernel
theorem dX1_learnMinute_22 : decode cX1_learnMinute 22 = .ok (.aload_n 0, 1) := by decide +kernel
theorem dX1_learnMinute_23 : decode cX1_learnMinute 23 = .ok (.getfield 15, 3) := by decide +kernel
theorem dX1_learnMinute_26 : decode cX1_learnMinute 26 = .ok (.iload_n 1, 1) := by decide +kernel
theorem dX1_learnMinute_27 : decode cX1_learnMinute 27 = .ok (.iaload, 1) := by decide +kernel
theorem dX1_learnMinute_28 : decode cX1_learnMinute 28 = .ok (.aload_n 0, 1) := by decide +kernel
theorem dX1_learnMinute_29 : decode cX1_learnMinute 29 = .ok (.getfield 9, 3) := by decide +kernel
theorem dX1_learnMinute_32 : decode cX1_learnMinute 32 = .ok (.iload_n 1, 1) := by decide +kernel
theorem dX1_learnMinute_33 : decode cX1_learnMinute 33 = .ok (.iaload, 1) := by decide +kernel
theorem dX1_learnMinute_34 : decode cX1_learnMinute 34 = .ok (.invokestatic 38, 3) := by decide +kernel
theorem dX1_learnMinute_37 : decode cX1_learnMinute 37 = .ok (.if_icmp .lt 16, 3) := by decide +kernel
theorem dX1_learnMinute_40 : decode cX1_learnMinute 40 = .ok (.aload_n 0, 1) := by decide +kernel
theorem dX1_learnMinute_41 : decode cX1_learnMinute 41 = .ok (.iload_n 1, 1) := by decide +kernel
theorem dX1_learnMinute_42 : decode cX1_learnMinute 42 = .ok (.aload_n 0, 1) := by decide +kernel
theorem dX1_learnMinute_43 : decode cX1_learnMinute 43 = .ok (.getfield 9, 3) := by decide +kernel
theorem dX1_learnMinute_46 : decode cX1_learnMinute 46 = .ok (.iload_n 1, 1) := by decide +kernel
theorem dX1_learnMinute_47 : decode cX1_learnMinute 47 = .ok (.iaload, 1) := by decide +kernel
theorem dX1_learnMinute_48 : decode cX1_learnMinute 48 = .ok (.iconst 1, 1) := by decide +kernel
theorem dX1_learnMinute_49 : decode cX1_learnMinute 49 = .ok (.iadd, 1) := by decide +kernel
theorem dX1_learnMinute_50 : decode cX1_learnMinute 50 = .ok (.invokevirtual 42, 3) := by decide +kernel
theorem dX1_learnMinute_53 : decode cX1_learnMinute 53 = .ok (.return_, 1) := by decide +kernel
theorem dX1_play_0 : decode cX1_play 0 = .ok (.aload_n 0, 1) := by decide +kernel
theorem dX1_play_1 : decode cX1_play 1 = .ok (.iload_n 1, 1) := by decide +kernel
theorem dX1_play_2 : decode cX1_play 2 = .ok (.putfield 46, 3) := by decide +kernel
theorem dX1_play_5 : decode cX1_play 5 = .ok (.iconst 0, 1) := by decide +kernel
theorem dX1_play_6 : decode cX1_play 6 = .ok (.istore_n 3, 1) := by decide +kernel
theorem dX1_play_7 : decode cX1_play 7 = .ok (.iload_n 3, 1) := by decide +kernel
theorem dX1_play_8 : decode cX1_play 8 = .ok (.bipush 25, 2) := by decide +kernel
theorem dX1_play_10 : decode cX1_play 10 = .ok (.if_icmp .ge 32, 3) := by decide +kernel
theorem dX1_play_13 : decode cX1_play 13 = .ok (.aload_n 0, 1) := by decide +kernel
theorem dX1_play_14 : decode cX1_play 14 = .ok (.getfield 18, 3) := by decide +kernel
theorem dX1_play_17 : decode cX1_play 17 = .ok (.iload_n 3, 1) := by decide +kernel
theorem dX1_play_18 : decode cX1_play 18 = .ok (.iconst 1, 1) := by decide +kernel
theorem dX1_play_19 : decode cX1_play 19 = .ok (.bastore, 1) := by decide +kernel
theorem dX1_play_20 : decode cX1_play 20 = .ok (.aload_n 0, 1) := by decide +kernel
theorem dX1_play_21 : decode cX1_play 21 = .ok (.getfield 22, 3) := by decide +kernel
theorem dX1_play_24 : decode cX1_play 24 = .ok (.iload_n 3, 1) := by decide +kernel
theorem dX1_play_25 : decode cX1_play 25 = .ok (.bipush (-2), 2) := by decide +kernel
theorem dX1_play_27 : decode cX1_play 27 = .ok (.iastore, 1) := by decide +kernel
theorem dX1_play_28 : decode cX1_play 28 = .ok (.aload_n 0, 1) := by decide +kernel
theorem dX1_play_29 : decode cX1_play 29 = .ok (.getfield 25, 3) := by decide +kernel
theorem dX1_play_32 : decode cX1_play 32 = .ok (.iload_n 3, 1) := by decide +kernel
theorem dX1_play_33 : decode cX1_play 33 = .ok (.bipush 31, 2) := by decide +kernel
theorem dX1_play_35 : decode cX1_play 35 = .ok (.iastore, 1) := by decide +kernel
theorem dX1_play_36 : decode cX1_play 36 = .ok (.iinc 3 1, 3) := by decide +kernel
theorem dX1_play_39 : decode cX1_play 39 = .ok (.goto (-32), 3) := by decide +kernel
theorem dX1_play_42 : decode cX1_play 42 = .ok (.iconst 1, 1) := by decide +kernel
theorem dX1_play_43 : decode cX1_play 43 = .ok (.istore_n 3, 1) := by decide +kernel
theorem dX1_play_44 : decode cX1_play 44 = .ok (.iload_n 3, 1) := by decide +kernel
theorem dX1_play_45 : decode cX1_play 45 = .ok (.iload_n 2, 1) := by decide +kernel
theorem dX1_play_46 : decode cX1_play 46 = .ok (.if_icmp .gt 14, 3) := by decide +kernel
theorem dX1_play_49 : decode cX1_play 49 = .ok (.aload_n 0, 1) := by decide +kernel
theorem dX1_play_50 : decode cX1_play 50 = .ok (.iload_n 3, 1) := by decide +kernel
theorem dX1_play_51 : decode cX1_play 51 = .ok (.invokevirtual 49, 3) := by decide +kernel
theorem dX1_play_54 : decode cX1_play 54 = .ok (.iinc 3 1, 3) := by decide +kernel
theorem dX1_play_57 : decode cX1_play 57 = .ok (.goto (-13), 3) := by decide +kernel
theorem dX1_play_60 : decode cX1_play 60 = .ok (.return_, 1) := by decide +kernel
theorem dX1_playMinute_0 : decode cX1_playMinute 0 = .ok (.iconst 0, 1) := by decide +kernel
theorem dX1_playMinute_1 : decode cX1_playMinute 1 = .ok (.istore_n 2, 1) := by decide +kernel
theorem dX1_playMinute_2 : decode cX1_playMinute 2 = .ok (.iload_n 2, 1) := by decide +kernel
theorem dX1_playMinute_3 : decode cX1_playMinute 3 = .ok (.bipush 25, 2) := by decide +kernel
theorem dX1_playMinute_5 : decode cX1_playMinute 5 = .ok (.if_icmp .ge 45, 3) := by decide +kernel
theorem dX1_playMinute_8 : decode cX1_playMinute 8 = .ok (.aload_n 0, 1) := by decide +kernel
theorem dX1_playMinute_9 : decode cX1_playMinute 9 = .ok (.getfield 18, 3) := by decide +kernel
theorem dX1_playMinute_12 : decode cX1_playMinute 12 = .ok (.iload_n 2, 1) := by decide +kernel
theorem dX1_playMinute_13 : decode cX1_playMinute 13 = .ok (.baload, 1) := by decide +kernel
theorem dX1_playMinute_14 : decode cX1_playMinute 14 = .ok (.ifCond .eq 30, 3) := by decide +kernel
theorem dX1_playMinute_17 : decode cX1_playMinute 17 = .ok (.aload_n 0, 1) := by decide +kernel
theorem dX1_playMinute_18 : decode cX1_playMinute 18 = .ok (.invokevirtual 53, 3) := by decide +kernel
theorem dX1_playMinute_21 : decode cX1_playMinute 21 = .ok (.aload_n 0, 1) := by decide +kernel
theorem dX1_playMinute_22 : decode cX1_playMinute 22 = .ok (.getfield 9, 3) := by decide +kernel
theorem dX1_playMinute_25 : decode cX1_playMinute 25 = .ok (.iload_n 2, 1) := by decide +kernel
theorem dX1_playMinute_26 : decode cX1_playMinute 26 = .ok (.iaload, 1) := by decide +kernel
theorem dX1_playMinute_27 : decode cX1_playMinute 27 = .ok (.if_icmp .lt 17, 3) := by decide +kernel
theorem dX1_playMinute_30 : decode cX1_playMinute 30 = .ok (.aload_n 0, 1) := by decide +kernel
theorem dX1_playMinute_31 : decode cX1_playMinute 31 = .ok (.iload_n 2, 1) := by decide +kernel
theorem dX1_playMinute_32 : decode cX1_playMinute 32 = .ok (.bipush (-2), 2) := by decide +kernel
theorem dX1_playMinute_34 : decode cX1_playMinute 34 = .ok (.iload_n 1, 1) := by decide +kernel
theorem dX1_playMinute_35 : decode cX1_playMinute 35 = .ok (.invokevirtual 57, 3) := by decide +kernel
theorem dX1_playMinute_38 : decode cX1_playMinute 38 = .ok (.aload_n 0, 1) := by decide +kernel
theorem dX1_playMinute_39 : decode cX1_playMinute 39 = .ok (.iload_n 2, 1) := by decide +kernel
theorem dX1_playMinute_40 : decode cX1_playMinute 40 = .ok (.iload_n 1, 1) := by decide +kernel
theorem dX1_playMinute_41 : decode cX1_playMinute 41 = .ok (.invokevirtual 61, 3) := by decide +kernel
theorem dX1_playMinute_44 : decode cX1_playMinute 44 = .ok (.iinc 2 1, 3) := by decide +kernel
theorem dX1_playMinute_47 : decode cX1_playMinute 47 = .ok (.goto (-45), 3) := by decide +kernel
theorem dX1_playMinute_50 : decode cX1_playMinute 50 = .ok (.return_, 1) := by decide +kernel
theorem dX1_knockFrom_0 : decode cX1_knockFrom 0 = .ok (.iconst 0, 1) := by decide +kernel
theorem dX1_knockFrom_1 : decode cX1_knockFrom 1 = .ok (.istore_n 3, 1) := by decide +kernel
theorem dX1_knockFrom_2 : decode cX1_knockFrom 2 = .ok (.iload_n 3, 1) := by decide +kernel
theorem dX1_knockFrom_3 : decode cX1_knockFrom 3 = .ok (.iconst 4, 1) := by decide +kernel
theorem dX1_knockFrom_4 : decode cX1_knockFrom 4 = .ok (.if_icmp .ge 51, 3) := by decide +kernel
theorem dX1_knockFrom_7 : decode cX1_knockFrom 7 = .ok (.iload_n 1, 1) := by decide +kernel
theorem dX1_knockFrom_8 : decode cX1_knockFrom 8 = .ok (.iload_n 3, 1) := by decide +kernel
theorem dX1_knockFrom_9 : decode cX1_knockFrom 9 = .ok (.invokestatic 64, 3) := by decide +kernel
theorem dX1_knockFrom_12 : decode cX1_knockFrom 12 = .ok (.istore 4, 2) := by decide +kernel
theorem dX1_knockFrom_14 : decode cX1_knockFrom 14 = .ok (.iload 4, 2) := by decide +kernel
theorem dX1_knockFrom_16 : decode cX1_knockFrom 16 = .ok (.iconst (-1), 1) := by decide +kernel
theorem dX1_knockFrom_17 : decode cX1_knockFrom 17 = .ok (.if_icmp .eq 32, 3) := by decide +kernel
theorem dX1_knockFrom_20 : decode cX1_knockFrom 20 = .ok (.aload_n 0, 1) := by decide +kernel
theorem dX1_knockFrom_21 : decode cX1_knockFrom 21 = .ok (.getfield 18, 3) := by decide +kernel
theorem dX1_knockFrom_24 : decode cX1_knockFrom 24 = .ok (.iload 4, 2) := by decide +kernel
theorem dX1_knockFrom_26 : decode cX1_knockFrom 26 = .ok (.baload, 1) := by decide +kernel
theorem dX1_knockFrom_27 : decode cX1_knockFrom 27 = .ok (.ifCond .eq 22, 3) := by decide +kernel
theorem dX1_knockFrom_30 : decode cX1_knockFrom 30 = .ok (.aload_n 0, 1) := by decide +kernel
theorem dX1_knockFrom_31 : decode cX1_knockFrom 31 = .ok (.invokevirtual 53, 3) := by decide +kernel
theorem dX1_knockFrom_34 : decode cX1_knockFrom 34 = .ok (.aload_n 0, 1) := by decide +kernel
theorem dX1_knockFrom_35 : decode cX1_knockFrom 35 = .ok (.getfield 28, 3) := by decide +kernel
theorem dX1_knockFrom_38 : decode cX1_knockFrom 38 = .ok (.if_icmp .ge 11, 3) := by decide +kernel
theorem dX1_knockFrom_41 : decode cX1_knockFrom 41 = .ok (.aload_n 0, 1) := by decide +kernel
theorem dX1_knockFrom_42 : decode cX1_knockFrom 42 = .ok (.iload 4, 2) := by decide +kernel
theorem dX1_knockFrom_44 : decode cX1_knockFrom 44 = .ok (.iload_n 1, 1) := by decide +kernel
theorem dX1_knockFrom_45 : decode cX1_knockFrom 45 = .ok (.iload_n 2, 1) := by decide +kernel
theorem dX1_knockFrom_46 : decode cX1_knockFrom 46 = .ok (.invokevirtual 57, 3) := by decide +kernel
theorem dX1_knockFrom_49 : decode cX1_knockFrom 49 = .ok (.iinc 3 1, 3) := by decide +kernel
theorem dX1_knockFrom_52 : decode cX1_knockFrom 52 = .ok (.goto (-50), 3) := by decide +kernel
theorem dX1_knockFrom_55 : decode cX1_knockFrom 55 = .ok (.return_, 1) := by decide +kernel
theorem dX1_drop_0 : decode cX1_drop 0 = .ok (.aload_n 0, 1) := by decide +kernel
theorem dX1_drop_1 : decode cX1_drop 1 = .ok (.getfield 18, 3) := by decide +kernel
theorem dX1_drop_4 : decode cX1_drop 4 = .ok (.iload_n 1, 1) := by decide +kernel
theorem dX1_drop_5 : decode cX1_drop 5 = .ok (.iconst 0, 1) := by decide +kernel
theorem dX1_drop_6 : decode cX1_drop 6 = .ok (.bastore, 1) := by decide +kernel
theorem dX1_drop_7 : decode cX1_drop 7 = .ok (.aload_n 0, 1) := by decide +kernel
theorem dX1_drop_8 : decode cX1_drop 8 = .ok (.getfield 22, 3) := by decide +kernel
theorem dX1_drop_11 : decode cX1_drop 11 = .ok (.iload_n 1, 1) := by decide +kernel
theorem dX1_drop_12 : decode cX1_drop 12 = .ok (.iload_n 2, 1) := by decide +kernel
theorem dX1_drop_13 : decode cX1_drop 13 = .ok (.iastore, 1) := by decide +kernel
theorem dX1_drop_14 : decode cX1_drop 14 = .ok (.aload_n 0, 1) := by decide +kernel
theorem dX1_drop_15 : decode cX1_drop 15 = .ok (.getfield 25, 3) := by decide +kernel
theorem dX1_drop_18 : decode cX1_drop 18 = .ok (.iload_n 1, 1) := by decide +kernel
theorem dX1_drop_19 : decode cX1_drop 19 = .ok (.iload_n 3, 1) := by decide +kernel
theorem dX1_drop_20 : decode cX1_drop 20 = .ok (.iastore, 1) := by decide +kernel
theorem dX1_drop_21 : decode cX1_drop 21 = .ok (.return_, 1) := by decide +kernel
theorem dX1_draw_0 : decode cX1_draw 0 = .ok (.aload_n 0, 1) := by decide +kernel
theorem dX1_draw_1 : decode cX1_draw 1 = .ok (.aload_n 0, 1) := by decide +kernel
theorem dX1_draw_2 : decode cX1_draw 2 = .ok (.getfield 46, 3) := by decide +kernel
theorem dX1_draw_5 : decode cX1_draw 5 = .ok (.ldc 67, 2) := by decide +kernel
theorem dX1_draw_7 : decode cX1_draw 7 = .ok (.imul, 1) := by decide +kernel
theorem dX1_draw_8 : decode cX1_draw 8 = .ok (.sipush 12345, 3) := by decide +kernel
theorem dX1_draw_11 : decode cX1_draw 11 = .ok (.iadd, 1) := by decide +kernel
theorem dX1_draw_12 : decode cX1_draw 12 = .ok (.putfield 46, 3) := by decide +kernel
theorem dX1_draw_15 : decode cX1_draw 15 = .ok (.aload_n 0, 1) := by decide +kernel
theorem dX1_draw_16 : decode cX1_draw 16 = .ok (.getfield 46, 3) := by decide +kernel
theorem dX1_draw_19 : decode cX1_draw 19 = .ok (.bipush 8, 2) := by decide +kernel
theorem dX1_draw_21 : decode cX1_draw 21 = .ok (.iushr, 1) := by decide +kernel
theorem dX1_draw_22 : decode cX1_draw 22 = .ok (.bipush 12, 2) := by decide +kernel
theorem dX1_draw_24 : decode cX1_draw 24 = .ok (.irem, 1) := by decide +kernel
theorem dX1_draw_25 : decode cX1_draw 25 = .ok (.ireturn, 1) := by decide +kernel
theorem dX1_beside_0 : decode cX1_beside 0 = .ok (.iload_n 1, 1) := by decide +kernel
theorem dX1_beside_1 : decode cX1_beside 1 = .ok (.tableswitch 71 0 2 #[27, 40, 55], 27) := by decide +kernel
theorem dX1_beside_28 : decode cX1_beside 28 = .ok (.iload_n 0, 1) := by decide +kernel
theorem dX1_beside_29 : decode cX1_beside 29 = .ok (.iconst 5, 1) := by decide +kernel
theorem dX1_beside_30 : decode cX1_beside 30 = .ok (.if_icmp .lt 9, 3) := by decide +kernel
theorem dX1_beside_33 : decode cX1_beside 33 = .ok (.iload_n 0, 1) := by decide +kernel
theorem dX1_beside_34 : decode cX1_beside 34 = .ok (.iconst 5, 1) := by decide +kernel
theorem dX1_beside_35 : decode cX1_beside 35 = .ok (.isub, 1) := by decide +kernel
theorem dX1_beside_36 : decode cX1_beside 36 = .ok (.goto 4, 3) := by decide +kernel
theorem dX1_beside_39 : decode cX1_beside 39 = .ok (.iconst (-1), 1) := by decide +kernel
theorem dX1_beside_40 : decode cX1_beside 40 = .ok (.ireturn, 1) := by decide +kernel
theorem dX1_beside_41 : decode cX1_beside 41 = .ok (.iload_n 0, 1) := by decide +kernel
theorem dX1_beside_42 : decode cX1_beside 42 = .ok (.iconst 5, 1) := by decide +kernel
theorem dX1_beside_43 : decode cX1_beside 43 = .ok (.irem, 1) := by decide +kernel
theorem dX1_beside_44 : decode cX1_beside 44 = .ok (.iconst 4, 1) := by decide +kernel
theorem dX1_beside_45 : decode cX1_beside 45 = .ok (.if_icmp .ge 9, 3) := by decide +kernel
theorem dX1_beside_48 : decode cX1_beside 48 = .ok (.iload_n 0, 1) := by decide +kernel
theorem dX1_beside_49 : decode cX1_beside 49 = .ok (.iconst 1, 1) := by decide +kernel
theorem dX1_beside_50 : decode cX1_beside 50 = .ok (.iadd, 1) := by decide +kernel
theorem dX1_beside_51 : decode cX1_beside 51 = .ok (.goto 4, 3) := by decide +kernel
theorem dX1_beside_54 : decode cX1_beside 54 = .ok (.iconst (-1), 1) := by decide +kernel
theorem dX1_beside_55 : decode cX1_beside 55 = .ok (.ireturn, 1) := by decide +kernel
theorem dX1_beside_56 : decode cX1_beside 56 = .ok (.iload_n 0, 1) := by decide +kernel
theorem dX1_beside_57 : decode cX1_beside 57 = .ok (.iconst 5, 1) := by decide +kernel
theorem dX1_beside_58 : decode cX1_beside 58 = .ok (.iadd, 1) := by decide +kernel
theorem dX1_beside_59 : decode cX1_beside 59 = .ok (.bipush 25, 2) := by decide +kernel
theorem dX1_beside_61 : decode cX1_beside 61 = .ok (.if_icmp .ge 9, 3) := by decide +kernel
theorem dX1_beside_64 : decode cX1_beside 64 = .ok (.iload_n 0, 1) := by decide +kernel
theorem dX1_beside_65 : decode cX1_beside 65 = .ok (.iconst 5, 1) := by decide +kernel
theorem dX1_beside_66 : decode cX1_beside 66 = .ok (.iadd, 1) := by decide +kernel
theorem dX1_beside_67 : decode cX1_beside 67 = .ok (.goto 4, 3) := by decide +kernel
theorem dX1_beside_70 : decode cX1_beside 70 = .ok (.iconst (-1), 1) := by decide +kernel
theorem dX1_beside_71 : decode cX1_beside 71 = .ok (.ireturn, 1) := by decide +kernel
theorem dX1_beside_72 : decode cX1_beside 72 = .ok (.iload_n 0, 1) := by decide +kernel
theorem dX1_beside_73 : decode cX1_beside 73 = .ok (.iconst 5, 1) := by decide +kernel
theorem dX1_beside_74 : decode cX1_beside 74 = .ok (.irem, 1) := by decide +kernel
theorem dX1_beside_75 : decode cX1_beside 75 = .ok (.ifCond .le 9, 3) := by decide +kernel
theorem dX1_beside_78 : decode cX1_beside 78 = .ok (.iload_n 0, 1) := by decide +kernel
theorem dX1_beside_79 : decode cX1_beside 79 = .ok (.iconst 1, 1) := by decide +kernel
theorem dX1_beside_80 : decode cX1_beside 80 = .ok (.isub, 1) := by decide +kernel
theorem dX1_beside_81 : decode cX1_beside 81 = .ok (.goto 4, 3) := by decide +kernel
theorem dX1_beside_84 : decode cX1_beside 84 = .ok (.iconst (-1), 1) := by decide +kernel
theorem dX1_beside_85 : decode cX1_beside 85 = .ok (.ireturn, 1) := by decide +kernel
theorem dX1_howManyUp_0 : decode cX1_howManyUp 0 = .ok (.iconst 0, 1) := by decide +kernel
theorem dX1_howManyUp_1 : decode cX1_howManyUp 1 = .ok (.istore_n 1, 1) := by decide +kernel
theorem dX1_howManyUp_2 : decode cX1_howManyUp 2 = .ok (.iconst 0, 1) := by decide +kernel
theorem dX1_howManyUp_3 : decode cX1_howManyUp 3 = .ok (.istore_n 2, 1) := by decide +kernel
theorem dX1_howManyUp_4 : decode cX1_howManyUp 4 = .ok (.iload_n 2, 1) := by decide +kernel
theorem dX1_howManyUp_5 : decode cX1_howManyUp 5 = .ok (.bipush 25, 2) := by decide +kernel
theorem dX1_howManyUp_7 : decode cX1_howManyUp 7 = .ok (.if_icmp .ge 21, 3) := by decide +kernel
theorem dX1_howManyUp_10 : decode cX1_howManyUp 10 = .ok (.aload_n 0, 1) := by decide +kernel
theorem dX1_howManyUp_11 : decode cX1_howManyUp 11 = .ok (.getfield 18, 3) := by decide +kernel
theorem dX1_howManyUp_14 : decode cX1_howManyUp 14 = .ok (.iload_n 2, 1) := by decide +kernel
theorem dX1_howManyUp_15 : decode cX1_howManyUp 15 = .ok (.baload, 1) := by decide +kernel
theorem dX1_howManyUp_16 : decode cX1_howManyUp 16 = .ok (.ifCond .eq 6, 3) := by decide +kernel
theorem dX1_howManyUp_19 : decode cX1_howManyUp 19 = .ok (.iinc 1 1, 3) := by decide +kernel
theorem dX1_howManyUp_22 : decode cX1_howManyUp 22 = .ok (.iinc 2 1, 3) := by decide +kernel
theorem dX1_howManyUp_25 : decode cX1_howManyUp 25 = .ok (.goto (-21), 3) := by decide +kernel
theorem dX1_howManyUp_28 : decode cX1_howManyUp 28 = .ok (.iload_n 1, 1) := by decide +kernel
theorem dX1_howManyUp_29 : decode cX1_howManyUp 29 = .ok (.ireturn, 1) := by decide +kernel
theorem dX1_longest_0 : decode cX1_longest 0 = .ok (.iconst 0, 1) := by decide +kernel
theorem dX1_longest_1 : decode cX1_longest 1 = .ok (.istore_n 1, 1) := by decide +kernel
theorem dX1_longest_2 : decode cX1_longest 2 = .ok (.iconst 1, 1) := by decide +kernel
theorem dX1_longest_3 : decode cX1_longest 3 = .ok (.istore_n 2, 1) := by decide +kernel
theorem dX1_longest_4 : decode cX1_longest 4 = .ok (.iload_n 2, 1) := by decide +kernel
theorem dX1_longest_5 : decode cX1_longest 5 = .ok (.bipush 25, 2) := by decide +kernel
theorem dX1_longest_7 : decode cX1_longest 7 = .ok (.if_icmp .ge 26, 3) := by decide +kernel
theorem dX1_longest_10 : decode cX1_longest 10 = .ok (.aload_n 0, 1) := by decide +kernel
theorem dX1_longest_11 : decode cX1_longest 11 = .ok (.getfield 25, 3) := by decide +kernel
theorem dX1_longest_14 : decode cX1_longest 14 = .ok (.iload_n 2, 1) := by decide +kernel
theorem dX1_longest_15 : decode cX1_longest 15 = .ok (.iaload, 1) := by decide +kernel
theorem dX1_longest_16 : decode cX1_longest 16 = .ok (.aload_n 0, 1) := by decide +kernel
theorem dX1_longest_17 : decode cX1_longest 17 = .ok (.getfield 25, 3) := by decide +kernel
theorem dX1_longest_20 : decode cX1_longest 20 = .ok (.iload_n 1, 1) := by decide +kernel
theorem dX1_longest_21 : decode cX1_longest 21 = .ok (.iaload, 1) := by decide +kernel
theorem dX1_longest_22 : decode cX1_longest 22 = .ok (.if_icmp .le 5, 3) := by decide +kernel
theorem dX1_longest_25 : decode cX1_longest 25 = .ok (.iload_n 2, 1) := by decide +kernel
theorem dX1_longest_26 : decode cX1_longest 26 = .ok (.istore_n 1, 1) := by decide +kernel
theorem dX1_longest_27 : decode cX1_longest 27 = .ok (.iinc 2 1, 3) := by decide +kernel
theorem dX1_longest_30 : decode cX1_longest 30 = .ok (.goto (-26), 3) := by decide +kernel
theorem dX1_longest_33 : decode cX1_longest 33 = .ok (.iload_n 1, 1) := by decide +kernel
theorem dX1_longest_34 : decode cX1_longest 34 = .ok (.ireturn, 1) := by decide +kernel
theorem dX2_init_0 : decode cX2_init 0 = .ok (.aload_n 0, 1) := by decide +kernel
theorem dX2_init_1 : decode cX2_init 1 = .ok (.invokespecial 3, 3) := by decide +kernel
theorem dX2_init_4 : decode cX2_init 4 = .ok (.aload_n 0, 1) := by decide +kernel
theorem dX2_init_5 : decode cX2_init 5 = .ok (.iconst 1, 1) := by decide +kernel
theorem dX2_init_6 : decode cX2_init 6 = .ok (.putfield 9, 3) := by decide +kernel
theorem dX2_init_9 : decode cX2_init 9 = .ok (.aload_n 0, 1) := by decide +kernel
theorem dX2_init_10 : decode cX2_init 10 = .ok (.iconst 1, 1) := by decide +kernel
theorem dX2_init_11 : decode cX2_init 11 = .ok (.putfield 15, 3) := by decide +kernel
theorem dX2_init_14 : decode cX2_init 14 = .ok (.return_, 1) := by decide +kernel
theorem dX2_copy_0 : decode cX2_copy 0 = .ok (.aload_n 0, 1) := by decide +kernel
theorem dX2_copy_1 : decode cX2_copy 1 = .ok (.aload_n 1, 1) := by decide +kernel
theorem dX2_copy_2 : decode cX2_copy 2 = .ok (.getfield 9, 3) := by decide +kernel
theorem dX2_copy_5 : decode cX2_copy 5 = .ok (.putfield 9, 3) := by decide +kernel
theorem dX2_copy_8 : decode cX2_copy 8 = .ok (.aload_n 0, 1) := by decide +kernel
theorem dX2_copy_9 : decode cX2_copy 9 = .ok (.aload_n 1, 1) := by decide +kernel
theorem dX2_copy_10 : decode cX2_copy 10 = .ok (.getfield 15, 3) := by decide +kernel
theorem dX2_copy_13 : decode cX2_copy 13 = .ok (.putfield 15, 3) := by decide +kernel
theorem dX2_copy_16 : decode cX2_copy 16 = .ok (.aload_n 0, 1) := by decide +kernel
theorem dX2_copy_17 : decode cX2_copy 17 = .ok (.aload_n 1, 1) := by decide +kernel
theorem dX2_copy_18 : decode cX2_copy 18 = .ok (.invokevirtual 18, 3) := by decide +kernel
theorem dX2_copy_21 : decode cX2_copy 21 = .ok (.return_, 1) := by decide +kernel
theorem dX2_copyWay_0 : decode cX2_copyWay 0 = .ok (.aload_n 0, 1) := by decide +kernel
theorem dX2_copyWay_1 : decode cX2_copyWay 1 = .ok (.aload_n 1, 1) := by decide +kernel
theorem dX2_copyWay_2 : decode cX2_copyWay 2 = .ok (.getfield 22, 3) := by decide +kernel
theorem dX2_copyWay_5 : decode cX2_copyWay 5 = .ok (.putfield 22, 3) := by decide +kernel
theorem dX2_copyWay_8 : decode cX2_copyWay 8 = .ok (.aload_n 0, 1) := by decide +kernel
theorem dX2_copyWay_9 : decode cX2_copyWay 9 = .ok (.aload_n 1, 1) := by decide +kernel
theorem dX2_copyWay_10 : decode cX2_copyWay 10 = .ok (.getfield 25, 3) := by decide +kernel
theorem dX2_copyWay_13 : decode cX2_copyWay 13 = .ok (.putfield 25, 3) := by decide +kernel
theorem dX2_copyWay_16 : decode cX2_copyWay 16 = .ok (.aload_n 0, 1) := by decide +kernel
theorem dX2_copyWay_17 : decode cX2_copyWay 17 = .ok (.aload_n 1, 1) := by decide +kernel
theorem dX2_copyWay_18 : decode cX2_copyWay 18 = .ok (.getfield 28, 3) := by decide +kernel
theorem dX2_copyWay_21 : decode cX2_copyWay 21 = .ok (.putfield 28, 3) := by decide +kernel
theorem dX2_copyWay_24 : decode cX2_copyWay 24 = .ok (.return_, 1) := by decide +kernel
theorem dX2_raise_0 : decode cX2_raise 0 = .ok (.aload_n 0, 1) := by decide +kernel
theorem dX2_raise_1 : decode cX2_raise 1 = .ok (.iconst 0, 1) := by decide +kernel
theorem dX2_raise_2 : decode cX2_raise 2 = .ok (.putfield 22, 3) := by decide +kernel
theorem dX2_raise_5 : decode cX2_raise 5 = .ok (.aload_n 0, 1) := by decide +kernel
theorem dX2_raise_6 : decode cX2_raise 6 = .ok (.iconst 4, 1) := by decide +kernel
theorem dX2_raise_7 : decode cX2_raise 7 = .ok (.putfield 25, 3) := by decide +kernel
theorem dX2_raise_10 : decode cX2_raise 10 = .ok (.aload_n 0, 1) := by decide +kernel
theorem dX2_raise_11 : decode cX2_raise 11 = .ok (.bipush 20, 2) := by decide +kernel
theorem dX2_raise_13 : decode cX2_raise 13 = .ok (.putfield 28, 3) := by decide +kernel
theorem dX2_raise_16 : decode cX2_raise 16 = .ok (.return_, 1) := by decide +kernel
theorem dX2_drop_0 : decode cX2_drop 0 = .ok (.aload_n 0, 1) := by decide +kernel
theorem dX2_drop_1 : decode cX2_drop 1 = .ok (.iconst 0, 1) := by decide +kernel
theorem dX2_drop_2 : decode cX2_drop 2 = .ok (.putfield 25, 3) := by decide +kernel
theorem dX2_drop_5 : decode cX2_drop 5 = .ok (.aload_n 0, 1) := by decide +kernel
theorem dX2_drop_6 : decode cX2_drop 6 = .ok (.iconst 0, 1) := by decide +kernel
theorem dX2_drop_7 : decode cX2_drop 7 = .ok (.putfield 28, 3) := by decide +kernel
theorem dX2_drop_10 : decode cX2_drop 10 = .ok (.return_, 1) := by decide +kernel
theorem dX2_lies_0 : decode cX2_lies 0 = .ok (.aload_n 0, 1) := by decide +kernel
theorem dX2_lies_1 : decode cX2_lies 1 = .ok (.getfield 28, 3) := by decide +kernel
theorem dX2_lies_4 : decode cX2_lies 4 = .ok (.ifCond .ne 7, 3) := by decide +kernel
theorem dX2_lies_7 : decode cX2_lies 7 = .ok (.iconst 1, 1) := by decide +kernel
theorem dX2_lies_8 : decode cX2_lies 8 = .ok (.goto 4, 3) := by decide +kernel
theorem dX2_lies_11 : decode cX2_lies 11 = .ok (.iconst 0, 1) := by decide +kernel
theorem dX2_lies_12 : decode cX2_lies 12 = .ok (.ireturn, 1) := by decide +kernel
theorem dX2_need_0 : decode cX2_need 0 = .ok (.bipush 10, 2) := by decide +kernel
theorem dX2_need_2 : decode cX2_need 2 = .ok (.aload_n 0, 1) := by decide +kernel
theorem dX2_need_3 : decode cX2_need 3 = .ok (.getfield 9, 3) := by decide +kernel
theorem dX2_need_6 : decode cX2_need 6 = .ok (.isub, 1) := by decide +kernel
theorem dX2_need_7 : decode cX2_need 7 = .ok (.iconst 2, 1) := by decide +kernel
theorem dX2_need_8 : decode cX2_need 8 = .ok (.idiv, 1) := by decide +kernel
theorem dX2_need_9 : decode cX2_need 9 = .ok (.iconst 1, 1) := by decide +kernel
theorem dX2_need_10 : decode cX2_need 10 = .ok (.iadd, 1) := by decide +kernel
theorem dX2_need_11 : decode cX2_need 11 = .ok (.ireturn, 1) := by decide +kernel
theorem dX2_speed_0 : decode cX2_speed 0 = .ok (.aload_n 0, 1) := by decide +kernel
theorem dX2_speed_1 : decode cX2_speed 1 = .ok (.getfield 25, 3) := by decide +kernel
theorem dX2_speed_4 : decode cX2_speed 4 = .ok (.invokestatic 31, 3) := by decide +kernel
theorem dX2_speed_7 : decode cX2_speed 7 = .ok (.ireturn, 1) := by decide +kernel
theorem dX2_told_0 : decode cX2_told 0 = .ok (.iload_n 1, 1) := by decide +kernel
theorem dX2_told_1 : decode cX2_told 1 = .ok (.tableswitch 69 0 5 #[39, 44, 49, 54, 59, 64], 39) := by decide +kernel
theorem dX2_told_40 : decode cX2_told 40 = .ok (.aload_n 0, 1) := by decide +kernel
theorem dX2_told_41 : decode cX2_told 41 = .ok (.getfield 9, 3) := by decide +kernel
theorem dX2_told_44 : decode cX2_told 44 = .ok (.ireturn, 1) := by decide +kernel
theorem dX2_told_45 : decode cX2_told 45 = .ok (.aload_n 0, 1) := by decide +kernel
theorem dX2_told_46 : decode cX2_told 46 = .ok (.getfield 15, 3) := by decide +kernel
theorem dX2_told_49 : decode cX2_told 49 = .ok (.ireturn, 1) := by decide +kernel
theorem dX2_told_50 : decode cX2_told 50 = .ok (.aload_n 0, 1) := by decide +kernel
theorem dX2_told_51 : decode cX2_told 51 = .ok (.getfield 25, 3) := by decide +kernel
theorem dX2_told_54 : decode cX2_told 54 = .ok (.ireturn, 1) := by decide +kernel
theorem dX2_told_55 : decode cX2_told 55 = .ok (.aload_n 0, 1) := by decide +kernel
theorem dX2_told_56 : decode cX2_told 56 = .ok (.getfield 22, 3) := by decide +kernel
theorem dX2_told_59 : decode cX2_told 59 = .ok (.ireturn, 1) := by decide +kernel
theorem dX2_told_60 : decode cX2_told 60 = .ok (.aload_n 0, 1) := by decide +kernel
theorem dX2_told_61 : decode cX2_told 61 = .ok (.getfield 28, 3) := by decide +kernel
theorem dX2_told_64 : decode cX2_told 64 = .ok (.ireturn, 1) := by decide +kernel
theorem dX2_told_65 : decode cX2_told 65 = .ok (.aload_n 0, 1) := by decide +kernel
theorem dX2_told_66 : decode cX2_told 66 = .ok (.invokevirtual 37, 3) := by decide +kernel
theorem dX2_told_69 : decode cX2_told 69 = .ok (.ireturn, 1) := by decide +kernel
theorem dX2_told_70 : decode cX2_told 70 = .ok (.ldc 41, 2) := by decide +kernel
theorem dX2_told_72 : decode cX2_told 72 = .ok (.ireturn, 1) := by decide +kernel
theorem dX2_become_0 : decode cX2_become 0 = .ok (.iload_n 1, 1) := by decide +kernel
theorem dX2_become_1 : decode cX2_become 1 = .ok (.tableswitch 62 0 2 #[27, 35, 43], 27) := by decide +kernel
theorem dX2_become_28 : decode cX2_become 28 = .ok (.aload_n 0, 1) := by decide +kernel
theorem dX2_become_29 : decode cX2_become 29 = .ok (.iload_n 2, 1) := by decide +kernel
theorem dX2_become_30 : decode cX2_become 30 = .ok (.putfield 9, 3) := by decide +kernel
theorem dX2_become_33 : decode cX2_become 33 = .ok (.goto 30, 3) := by decide +kernel
theorem dX2_become_36 : decode cX2_become 36 = .ok (.aload_n 0, 1) := by decide +kernel
theorem dX2_become_37 : decode cX2_become 37 = .ok (.iload_n 2, 1) := by decide +kernel
theorem dX2_become_38 : decode cX2_become 38 = .ok (.putfield 15, 3) := by decide +kernel
theorem dX2_become_41 : decode cX2_become 41 = .ok (.goto 22, 3) := by decide +kernel
theorem dX2_become_44 : decode cX2_become 44 = .ok (.aload_n 0, 1) := by decide +kernel
theorem dX2_become_45 : decode cX2_become 45 = .ok (.aload_n 0, 1) := by decide +kernel
theorem dX2_become_46 : decode cX2_become 46 = .ok (.invokevirtual 42, 3) := by decide +kernel
theorem dX2_become_49 : decode cX2_become 49 = .ok (.ifCond .eq 7, 3) := by decide +kernel
theorem dX2_become_52 : decode cX2_become 52 = .ok (.iconst 0, 1) := by decide +kernel
theorem dX2_become_53 : decode cX2_become 53 = .ok (.goto 4, 3) := by decide +kernel
theorem dX2_become_56 : decode cX2_become 56 = .ok (.iload_n 2, 1) := by decide +kernel
theorem dX2_become_57 : decode cX2_become 57 = .ok (.putfield 25, 3) := by decide +kernel
theorem dX2_become_60 : decode cX2_become 60 = .ok (.goto 3, 3) := by decide +kernel
theorem dX2_become_63 : decode cX2_become 63 = .ok (.return_, 1) := by decide +kernel
theorem dX2_farFrom_0 : decode cX2_farFrom 0 = .ok (.aload_n 0, 1) := by decide +kernel
theorem dX2_farFrom_1 : decode cX2_farFrom 1 = .ok (.getfield 22, 3) := by decide +kernel
theorem dX2_farFrom_4 : decode cX2_farFrom 4 = .ok (.iload_n 1, 1) := by decide +kernel
theorem dX2_farFrom_5 : decode cX2_farFrom 5 = .ok (.isub, 1) := by decide +kernel
theorem dX2_farFrom_6 : decode cX2_farFrom 6 = .ok (.bipush 24, 2) := by decide +kernel
theorem dX2_farFrom_8 : decode cX2_farFrom 8 = .ok (.invokestatic 46, 3) := by decide +kernel
theorem dX2_farFrom_11 : decode cX2_farFrom 11 = .ok (.istore_n 2, 1) := by decide +kernel
theorem dX2_farFrom_12 : decode cX2_farFrom 12 = .ok (.iload_n 2, 1) := by decide +kernel
theorem dX2_farFrom_13 : decode cX2_farFrom 13 = .ok (.bipush 24, 2) := by decide +kernel
theorem dX2_farFrom_15 : decode cX2_farFrom 15 = .ok (.iload_n 2, 1) := by decide +kernel
theorem dX2_farFrom_16 : decode cX2_farFrom 16 = .ok (.isub, 1) := by decide +kernel
theorem dX2_farFrom_17 : decode cX2_farFrom 17 = .ok (.invokestatic 50, 3) := by decide +kernel
theorem dX2_farFrom_20 : decode cX2_farFrom 20 = .ok (.ireturn, 1) := by decide +kernel
theorem dX2_quicken_0 : decode cX2_quicken 0 = .ok (.aload_n 0, 1) := by decide +kernel
theorem dX2_quicken_1 : decode cX2_quicken 1 = .ok (.invokevirtual 53, 3) := by decide +kernel
theorem dX2_quicken_4 : decode cX2_quicken 4 = .ok (.iload_n 1, 1) := by decide +kernel
theorem dX2_quicken_5 : decode cX2_quicken 5 = .ok (.iadd, 1) := by decide +kernel
theorem dX2_quicken_6 : decode cX2_quicken 6 = .ok (.iconst 0, 1) := by decide +kernel
theorem dX2_quicken_7 : decode cX2_quicken 7 = .ok (.bipush 9, 2) := by decide +kernel
theorem dX2_quicken_9 : decode cX2_quicken 9 = .ok (.invokestatic 56, 3) := by decide +kernel
theorem dX2_quicken_12 : decode cX2_quicken 12 = .ok (.istore_n 2, 1) := by decide +kernel
theorem dX2_quicken_13 : decode cX2_quicken 13 = .ok (.aload_n 0, 1) := by decide +kernel
theorem dX2_quicken_14 : decode cX2_quicken 14 = .ok (.aload_n 0, 1) := by decide +kernel
theorem dX2_quicken_15 : decode cX2_quicken 15 = .ok (.getfield 25, 3) := by decide +kernel
theorem dX2_quicken_18 : decode cX2_quicken 18 = .ok (.ifCond .ge 8, 3) := by decide +kernel
theorem dX2_quicken_21 : decode cX2_quicken 21 = .ok (.iload_n 2, 1) := by decide +kernel
theorem dX2_quicken_22 : decode cX2_quicken 22 = .ok (.ineg, 1) := by decide +kernel
theorem dX2_quicken_23 : decode cX2_quicken 23 = .ok (.goto 4, 3) := by decide +kernel
theorem dX2_quicken_26 : decode cX2_quicken 26 = .ok (.iload_n 2, 1) := by decide +kernel
theorem dX2_quicken_27 : decode cX2_quicken 27 = .ok (.putfield 25, 3) := by decide +kernel
theorem dX2_quicken_30 : decode cX2_quicken 30 = .ok (.return_, 1) := by decide +kernel
theorem dX2_move_0 : decode cX2_move 0 = .ok (.aload_n 0, 1) := by decide +kernel
theorem dX2_move_1 : decode cX2_move 1 = .ok (.aload_n 0, 1) := by decide +kernel
theorem dX2_move_2 : decode cX2_move 2 = .ok (.getfield 22, 3) := by decide +kernel
theorem dX2_move_5 : decode cX2_move 5 = .ok (.aload_n 0, 1) := by decide +kernel
theorem dX2_move_6 : decode cX2_move 6 = .ok (.getfield 25, 3) := by decide +kernel
theorem dX2_move_9 : decode cX2_move 9 = .ok (.iadd, 1) := by decide +kernel
theorem dX2_move_10 : decode cX2_move 10 = .ok (.bipush 24, 2) := by decide +kernel
theorem dX2_move_12 : decode cX2_move 12 = .ok (.invokestatic 46, 3) := by decide +kernel
theorem dX2_move_15 : decode cX2_move 15 = .ok (.putfield 22, 3) := by decide +kernel
theorem dX2_move_18 : decode cX2_move 18 = .ok (.return_, 1) := by decide +kernel
theorem dX2_sankToLie_0 : decode cX2_sankToLie 0 = .ok (.aload_n 0, 1) := by decide +kernel
theorem dX2_sankToLie_1 : decode cX2_sankToLie 1 = .ok (.invokevirtual 42, 3) := by decide +kernel
theorem dX2_sankToLie_4 : decode cX2_sankToLie 4 = .ok (.ifCond .eq 5, 3) := by decide +kernel
theorem dX2_sankToLie_7 : decode cX2_sankToLie 7 = .ok (.iconst 0, 1) := by decide +kernel
theorem dX2_sankToLie_8 : decode cX2_sankToLie 8 = .ok (.ireturn, 1) := by decide +kernel
theorem dX2_sankToLie_9 : decode cX2_sankToLie 9 = .ok (.aload_n 0, 1) := by decide +kernel
theorem dX2_sankToLie_10 : decode cX2_sankToLie 10 = .ok (.aload_n 0, 1) := by decide +kernel
theorem dX2_sankToLie_11 : decode cX2_sankToLie 11 = .ok (.invokevirtual 53, 3) := by decide +kernel
theorem dX2_sankToLie_14 : decode cX2_sankToLie 14 = .ok (.aload_n 0, 1) := by decide +kernel
theorem dX2_sankToLie_15 : decode cX2_sankToLie 15 = .ok (.invokevirtual 37, 3) := by decide +kernel
theorem dX2_sankToLie_18 : decode cX2_sankToLie 18 = .ok (.if_icmp .lt 17, 3) := by decide +kernel
theorem dX2_sankToLie_21 : decode cX2_sankToLie 21 = .ok (.bipush 20, 2) := by decide +kernel
theorem dX2_sankToLie_23 : decode cX2_sankToLie 23 = .ok (.aload_n 0, 1) := by decide +kernel
theorem dX2_sankToLie_24 : decode cX2_sankToLie 24 = .ok (.getfield 28, 3) := by decide +kernel
theorem dX2_sankToLie_27 : decode cX2_sankToLie 27 = .ok (.iconst 1, 1) := by decide +kernel
theorem dX2_sankToLie_28 : decode cX2_sankToLie 28 = .ok (.iadd, 1) := by decide +kernel
theorem dX2_sankToLie_29 : decode cX2_sankToLie 29 = .ok (.invokestatic 50, 3) := by decide +kernel
theorem dX2_sankToLie_32 : decode cX2_sankToLie 32 = .ok (.goto 13, 3) := by decide +kernel
theorem dX2_sankToLie_35 : decode cX2_sankToLie 35 = .ok (.iconst 0, 1) := by decide +kernel
theorem dX2_sankToLie_36 : decode cX2_sankToLie 36 = .ok (.aload_n 0, 1) := by decide +kernel
theorem dX2_sankToLie_37 : decode cX2_sankToLie 37 = .ok (.getfield 28, 3) := by decide +kernel
theorem dX2_sankToLie_40 : decode cX2_sankToLie 40 = .ok (.iconst 2, 1) := by decide +kernel
theorem dX2_sankToLie_41 : decode cX2_sankToLie 41 = .ok (.isub, 1) := by decide +kernel
theorem dX2_sankToLie_42 : decode cX2_sankToLie 42 = .ok (.invokestatic 60, 3) := by decide +kernel
theorem dX2_sankToLie_45 : decode cX2_sankToLie 45 = .ok (.putfield 28, 3) := by decide +kernel
theorem dX2_sankToLie_48 : decode cX2_sankToLie 48 = .ok (.aload_n 0, 1) := by decide +kernel
theorem dX2_sankToLie_49 : decode cX2_sankToLie 49 = .ok (.invokevirtual 42, 3) := by decide +kernel
theorem dX2_sankToLie_52 : decode cX2_sankToLie 52 = .ok (.ifCond .eq 8, 3) := by decide +kernel
theorem dX2_sankToLie_55 : decode cX2_sankToLie 55 = .ok (.aload_n 0, 1) := by decide +kernel
theorem dX2_sankToLie_56 : decode cX2_sankToLie 56 = .ok (.iconst 0, 1) := by decide +kernel
theorem dX2_sankToLie_57 : decode cX2_sankToLie 57 = .ok (.putfield 25, 3) := by decide +kernel
theorem dX2_sankToLie_60 : decode cX2_sankToLie 60 = .ok (.aload_n 0, 1) := by decide +kernel
theorem dX2_sankToLie_61 : decode cX2_sankToLie 61 = .ok (.invokevirtual 42, 3) := by decide +kernel
theorem dX2_sankToLie_64 : decode cX2_sankToLie 64 = .ok (.ireturn, 1) := by decide +kernel
theorem dX3_init_0 : decode cX3_init 0 = .ok (.aload_n 0, 1) := by decide +kernel
theorem dX3_init_1 : decode cX3_init 1 = .ok (.invokespecial 3, 3) := by decide +kernel
theorem dX3_init_4 : decode cX3_init 4 = .ok (.aload_n 0, 1) := by decide +kernel
theorem dX3_init_5 : decode cX3_init 5 = .ok (.sipush 128, 3) := by decide +kernel
theorem dX3_init_8 : decode cX3_init 8 = .ok (.newarray .int, 2) := by decide +kernel
theorem dX3_init_10 : decode cX3_init 10 = .ok (.putfield 11, 3) := by decide +kernel
theorem dX3_init_13 : decode cX3_init 13 = .ok (.aload_n 0, 1) := by decide +kernel
theorem dX3_init_14 : decode cX3_init 14 = .ok (.sipush 128, 3) := by decide +kernel
theorem dX3_init_17 : decode cX3_init 17 = .ok (.newarray .int, 2) := by decide +kernel
theorem dX3_init_19 : decode cX3_init 19 = .ok (.putfield 15, 3) := by decide +kernel
theorem dX3_init_22 : decode cX3_init 22 = .ok (.aload_n 0, 1) := by decide +kernel
theorem dX3_init_23 : decode cX3_init 23 = .ok (.sipush 128, 3) := by decide +kernel
theorem dX3_init_26 : decode cX3_init 26 = .ok (.newarray .int, 2) := by decide +kernel
theorem dX3_init_28 : decode cX3_init 28 = .ok (.putfield 18, 3) := by decide +kernel
theorem dX3_init_31 : decode cX3_init 31 = .ok (.aload_n 0, 1) := by decide +kernel
theorem dX3_init_32 : decode cX3_init 32 = .ok (.bipush 6, 2) := by decide +kernel
theorem dX3_init_34 : decode cX3_init 34 = .ok (.newarray .int, 2) := by decide +kernel
theorem dX3_init_36 : decode cX3_init 36 = .ok (.putfield 21, 3) := by decide +kernel
theorem dX3_init_39 : decode cX3_init 39 = .ok (.return_, 1) := by decide +kernel
theorem dX3_copy_0 : decode cX3_copy 0 = .ok (.aload_n 0, 1) := by decide +kernel
theorem dX3_copy_1 : decode cX3_copy 1 = .ok (.aload_n 1, 1) := by decide +kernel
theorem dX3_copy_2 : decode cX3_copy 2 = .ok (.getfield 24, 3) := by decide +kernel
theorem dX3_copy_5 : decode cX3_copy 5 = .ok (.putfield 24, 3) := by decide +kernel
theorem dX3_copy_8 : decode cX3_copy 8 = .ok (.aload_n 1, 1) := by decide +kernel
theorem dX3_copy_9 : decode cX3_copy 9 = .ok (.getfield 11, 3) := by decide +kernel
theorem dX3_copy_12 : decode cX3_copy 12 = .ok (.iconst 0, 1) := by decide +kernel
theorem dX3_copy_13 : decode cX3_copy 13 = .ok (.aload_n 0, 1) := by decide +kernel
theorem dX3_copy_14 : decode cX3_copy 14 = .ok (.getfield 11, 3) := by decide +kernel
theorem dX3_copy_17 : decode cX3_copy 17 = .ok (.iconst 0, 1) := by decide +kernel
theorem dX3_copy_18 : decode cX3_copy 18 = .ok (.sipush 128, 3) := by decide +kernel
theorem dX3_copy_21 : decode cX3_copy 21 = .ok (.invokestatic 28, 3) := by decide +kernel
theorem dX3_copy_24 : decode cX3_copy 24 = .ok (.aload_n 1, 1) := by decide +kernel
theorem dX3_copy_25 : decode cX3_copy 25 = .ok (.getfield 15, 3) := by decide +kernel
theorem dX3_copy_28 : decode cX3_copy 28 = .ok (.iconst 0, 1) := by decide +kernel
theorem dX3_copy_29 : decode cX3_copy 29 = .ok (.aload_n 0, 1) := by decide +kernel
theorem dX3_copy_30 : decode cX3_copy 30 = .ok (.getfield 15, 3) := by decide +kernel
theorem dX3_copy_33 : decode cX3_copy 33 = .ok (.iconst 0, 1) := by decide +kernel
theorem dX3_copy_34 : decode cX3_copy 34 = .ok (.sipush 128, 3) := by decide +kernel
theorem dX3_copy_37 : decode cX3_copy 37 = .ok (.invokestatic 28, 3) := by decide +kernel
theorem dX3_copy_40 : decode cX3_copy 40 = .ok (.return_, 1) := by decide +kernel
theorem dX3_add_0 : decode cX3_add 0 = .ok (.aload_n 0, 1) := by decide +kernel
theorem dX3_add_1 : decode cX3_add 1 = .ok (.getfield 24, 3) := by decide +kernel
theorem dX3_add_4 : decode cX3_add 4 = .ok (.sipush 128, 3) := by decide +kernel
theorem dX3_add_7 : decode cX3_add 7 = .ok (.if_icmp .lt 6, 3) := by decide +kernel
theorem dX3_add_10 : decode cX3_add 10 = .ok (.bipush 127, 2) := by decide +kernel
theorem dX3_add_12 : decode cX3_add 12 = .ok (.ireturn, 1) := by decide +kernel
theorem dX3_add_13 : decode cX3_add 13 = .ok (.aload_n 0, 1) := by decide +kernel
theorem dX3_add_14 : decode cX3_add 14 = .ok (.getfield 11, 3) := by decide +kernel
theorem dX3_add_17 : decode cX3_add 17 = .ok (.aload_n 0, 1) := by decide +kernel
theorem dX3_add_18 : decode cX3_add 18 = .ok (.getfield 24, 3) := by decide +kernel
theorem dX3_add_21 : decode cX3_add 21 = .ok (.iload_n 1, 1) := by decide +kernel
theorem dX3_add_22 : decode cX3_add 22 = .ok (.iastore, 1) := by decide +kernel
theorem dX3_add_23 : decode cX3_add 23 = .ok (.aload_n 0, 1) := by decide +kernel
theorem dX3_add_24 : decode cX3_add 24 = .ok (.getfield 15, 3) := by decide +kernel
theorem dX3_add_27 : decode cX3_add 27 = .ok (.aload_n 0, 1) := by decide +kernel
theorem dX3_add_28 : decode cX3_add 28 = .ok (.getfield 24, 3) := by decide +kernel
theorem dX3_add_31 : decode cX3_add 31 = .ok (.iload_n 2, 1) := by decide +kernel
theorem dX3_add_32 : decode cX3_add 32 = .ok (.iastore, 1) := by decide +kernel
theorem dX3_add_33 : decode cX3_add 33 = .ok (.aload_n 0, 1) := by decide +kernel
theorem dX3_add_34 : decode cX3_add 34 = .ok (.dup, 1) := by decide +kernel
theorem dX3_add_35 : decode cX3_add 35 = .ok (.getfield 24, 3) := by decide +kernel
theorem dX3_add_38 : decode cX3_add 38 = .ok (.iconst 1, 1) := by decide +kernel
theorem dX3_add_39 : decode cX3_add 39 = .ok (.iadd, 1) := by decide +kernel
theorem dX3_add_40 : decode cX3_add 40 = .ok (.putfield 24, 3) := by decide +kernel
theorem dX3_add_43 : decode cX3_add 43 = .ok (.aload_n 0, 1) := by decide +kernel
theorem dX3_add_44 : decode cX3_add 44 = .ok (.getfield 24, 3) := by decide +kernel
theorem dX3_add_47 : decode cX3_add 47 = .ok (.iconst 1, 1) := by decide +kernel
theorem dX3_add_48 : decode cX3_add 48 = .ok (.isub, 1) := by decide +kernel
theorem dX3_add_49 : decode cX3_add 49 = .ok (.ireturn, 1) := by decide +kernel
theorem dX3_more_0 : decode cX3_more 0 = .ok (.aload_n 1, 1) := by decide +kernel
theorem dX3_more_1 : decode cX3_more 1 = .ok (.iload_n 2, 1) := by decide +kernel
theorem dX3_more_2 : decode cX3_more 2 = .ok (.invokevirtual 34, 3) := by decide +kernel
theorem dX3_more_5 : decode cX3_more 5 = .ok (.istore 4, 2) := by decide +kernel
theorem dX3_more_7 : decode cX3_more 7 = .ok (.aload_n 0, 1) := by decide +kernel
theorem dX3_more_8 : decode cX3_more 8 = .ok (.getfield 24, 3) := by decide +kernel
theorem dX3_more_11 : decode cX3_more 11 = .ok (.ifCond .ne 10, 3) := by decide +kernel
theorem dX3_more_14 : decode cX3_more 14 = .ok (.iload 4, 2) := by decide +kernel
theorem dX3_more_16 : decode cX3_more 16 = .ok (.iload_n 3, 1) := by decide +kernel
theorem dX3_more_17 : decode cX3_more 17 = .ok (.invokestatic 40, 3) := by decide +kernel
theorem dX3_more_20 : decode cX3_more 20 = .ok (.ireturn, 1) := by decide +kernel
theorem dX3_more_21 : decode cX3_more 21 = .ok (.aload_n 0, 1) := by decide +kernel
theorem dX3_more_22 : decode cX3_more 22 = .ok (.getfield 21, 3) := by decide +kernel
theorem dX3_more_25 : decode cX3_more 25 = .ok (.iconst 0, 1) := by decide +kernel
theorem dX3_more_26 : decode cX3_more 26 = .ok (.iload 4, 2) := by decide +kernel
theorem dX3_more_28 : decode cX3_more 28 = .ok (.iastore, 1) := by decide +kernel
theorem dX3_more_29 : decode cX3_more 29 = .ok (.aload_n 0, 1) := by decide +kernel
theorem dX3_more_30 : decode cX3_more 30 = .ok (.getfield 21, 3) := by decide +kernel
theorem dX3_more_33 : decode cX3_more 33 = .ok (.iconst 1, 1) := by decide +kernel
theorem dX3_more_34 : decode cX3_more 34 = .ok (.aload_n 1, 1) := by decide +kernel
theorem dX3_more_35 : decode cX3_more 35 = .ok (.invokevirtual 44, 3) := by decide +kernel
theorem dX3_more_38 : decode cX3_more 38 = .ok (.iastore, 1) := by decide +kernel
theorem dX3_more_39 : decode cX3_more 39 = .ok (.aload_n 0, 1) := by decide +kernel
theorem dX3_more_40 : decode cX3_more 40 = .ok (.getfield 21, 3) := by decide +kernel
theorem dX3_more_43 : decode cX3_more 43 = .ok (.iconst 2, 1) := by decide +kernel
theorem dX3_more_44 : decode cX3_more 44 = .ok (.aload_n 1, 1) := by decide +kernel
theorem dX3_more_45 : decode cX3_more 45 = .ok (.getfield 48, 3) := by decide +kernel
theorem dX3_more_48 : decode cX3_more 48 = .ok (.iastore, 1) := by decide +kernel
theorem dX3_more_49 : decode cX3_more 49 = .ok (.aload_n 0, 1) := by decide +kernel
theorem dX3_more_50 : decode cX3_more 50 = .ok (.getfield 21, 3) := by decide +kernel
theorem dX3_more_53 : decode cX3_more 53 = .ok (.iconst 3, 1) := by decide +kernel
theorem dX3_more_54 : decode cX3_more 54 = .ok (.aload_n 1, 1) := by decide +kernel
theorem dX3_more_55 : decode cX3_more 55 = .ok (.getfield 51, 3) := by decide +kernel
theorem dX3_more_58 : decode cX3_more 58 = .ok (.iastore, 1) := by decide +kernel
theorem dX3_more_59 : decode cX3_more 59 = .ok (.aload_n 0, 1) := by decide +kernel
theorem dX3_more_60 : decode cX3_more 60 = .ok (.getfield 21, 3) := by decide +kernel
theorem dX3_more_63 : decode cX3_more 63 = .ok (.iconst 4, 1) := by decide +kernel
theorem dX3_more_64 : decode cX3_more 64 = .ok (.iload_n 3, 1) := by decide +kernel
theorem dX3_more_65 : decode cX3_more 65 = .ok (.iastore, 1) := by decide +kernel
theorem dX3_more_66 : decode cX3_more 66 = .ok (.aload_n 0, 1) := by decide +kernel
theorem dX3_more_67 : decode cX3_more 67 = .ok (.getfield 21, 3) := by decide +kernel
theorem dX3_more_70 : decode cX3_more 70 = .ok (.iconst 5, 1) := by decide +kernel
theorem dX3_more_71 : decode cX3_more 71 = .ok (.aload_n 1, 1) := by decide +kernel
theorem dX3_more_72 : decode cX3_more 72 = .ok (.getfield 54, 3) := by decide +kernel
theorem dX3_more_75 : decode cX3_more 75 = .ok (.iastore, 1) := by decide +kernel
theorem dX3_more_76 : decode cX3_more 76 = .ok (.aload_n 0, 1) := by decide +kernel
theorem dX3_more_77 : decode cX3_more 77 = .ok (.invokevirtual 57, 3) := by decide +kernel
theorem dX3_more_80 : decode cX3_more 80 = .ok (.bipush (-9), 2) := by decide +kernel
theorem dX3_more_82 : decode cX3_more 82 = .ok (.bipush 9, 2) := by decide +kernel
theorem dX3_more_84 : decode cX3_more 84 = .ok (.invokestatic 60, 3) := by decide +kernel
theorem dX3_more_87 : decode cX3_more 87 = .ok (.ireturn, 1) := by decide +kernel
theorem dX3_withoutText_0 : decode cX3_withoutText 0 = .ok (.iload_n 0, 1) := by decide +kernel
theorem dX3_withoutText_1 : decode cX3_withoutText 1 = .ok (.iconst 2, 1) := by decide +kernel
theorem dX3_withoutText_2 : decode cX3_withoutText 2 = .ok (.if_icmp .gt 5, 3) := by decide +kernel
theorem dX3_withoutText_5 : decode cX3_withoutText 5 = .ok (.iload_n 1, 1) := by decide +kernel
theorem dX3_withoutText_6 : decode cX3_withoutText 6 = .ok (.ireturn, 1) := by decide +kernel
theorem dX3_withoutText_7 : decode cX3_withoutText 7 = .ok (.iload_n 0, 1) := by decide +kernel
theorem dX3_withoutText_8 : decode cX3_withoutText 8 = .ok (.bipush 10, 2) := by decide +kernel
theorem dX3_withoutText_10 : decode cX3_withoutText 10 = .ok (.if_icmp .lt 7, 3) := by decide +kernel
theorem dX3_withoutText_13 : decode cX3_withoutText 13 = .ok (.iconst (-1), 1) := by decide +kernel
theorem dX3_withoutText_14 : decode cX3_withoutText 14 = .ok (.goto 4, 3) := by decide +kernel
theorem dX3_withoutText_17 : decode cX3_withoutText 17 = .ok (.iconst 0, 1) := by decide +kernel
theorem dX3_withoutText_18 : decode cX3_withoutText 18 = .ok (.ireturn, 1) := by decide +kernel
theorem dX3_worth_0 : decode cX3_worth 0 = .ok (.aload_n 0, 1) := by decide +kernel
theorem dX3_worth_1 : decode cX3_worth 1 = .ok (.iconst 0, 1) := by decide +kernel
theorem dX3_worth_2 : decode cX3_worth 2 = .ok (.putfield 64, 3) := by decide +kernel
theorem dX3_worth_5 : decode cX3_worth 5 = .ok (.iconst 0, 1) := by decide +kernel
theorem dX3_worth_6 : decode cX3_worth 6 = .ok (.istore_n 1, 1) := by decide +kernel
theorem dX3_worth_7 : decode cX3_worth 7 = .ok (.iload_n 1, 1) := by decide +kernel
theorem dX3_worth_8 : decode cX3_worth 8 = .ok (.aload_n 0, 1) := by decide +kernel
theorem dX3_worth_9 : decode cX3_worth 9 = .ok (.getfield 24, 3) := by decide +kernel
theorem dX3_worth_12 : decode cX3_worth 12 = .ok (.if_icmp .ge 163, 3) := by decide +kernel
theorem dX3_worth_15 : decode cX3_worth 15 = .ok (.aload_n 0, 1) := by decide +kernel
theorem dX3_worth_16 : decode cX3_worth 16 = .ok (.getfield 15, 3) := by decide +kernel
theorem dX3_worth_19 : decode cX3_worth 19 = .ok (.iload_n 1, 1) := by decide +kernel
theorem dX3_worth_20 : decode cX3_worth 20 = .ok (.iaload, 1) := by decide +kernel
theorem dX3_worth_21 : decode cX3_worth 21 = .ok (.istore_n 2, 1) := by decide +kernel
theorem dX3_worth_22 : decode cX3_worth 22 = .ok (.aload_n 0, 1) := by decide +kernel
theorem dX3_worth_23 : decode cX3_worth 23 = .ok (.getfield 11, 3) := by decide +kernel
theorem dX3_worth_26 : decode cX3_worth 26 = .ok (.iload_n 1, 1) := by decide +kernel
theorem dX3_worth_27 : decode cX3_worth 27 = .ok (.iaload, 1) := by decide +kernel
theorem dX3_worth_28 : decode cX3_worth 28 = .ok (.tableswitch 118 0 5 #[40, 48, 102, 97, 66, 85], 40) := by decide +kernel
theorem dX3_worth_68 : decode cX3_worth 68 = .ok (.aload_n 0, 1) := by decide +kernel
theorem dX3_worth_69 : decode cX3_worth 69 = .ok (.iload_n 2, 1) := by decide +kernel
theorem dX3_worth_70 : decode cX3_worth 70 = .ok (.invokevirtual 67, 3) := by decide +kernel
theorem dX3_worth_73 : decode cX3_worth 73 = .ok (.goto 96, 3) := by decide +kernel
theorem dX3_worth_76 : decode cX3_worth 76 = .ok (.aload_n 0, 1) := by decide +kernel
theorem dX3_worth_77 : decode cX3_worth 77 = .ok (.aload_n 0, 1) := by decide +kernel
theorem dX3_worth_78 : decode cX3_worth 78 = .ok (.getfield 21, 3) := by decide +kernel
theorem dX3_worth_81 : decode cX3_worth 81 = .ok (.iload_n 2, 1) := by decide +kernel
theorem dX3_worth_82 : decode cX3_worth 82 = .ok (.iconst 0, 1) := by decide +kernel
theorem dX3_worth_83 : decode cX3_worth 83 = .ok (.iconst 5, 1) := by decide +kernel
theorem dX3_worth_84 : decode cX3_worth 84 = .ok (.invokestatic 60, 3) := by decide +kernel
theorem dX3_worth_87 : decode cX3_worth 87 = .ok (.iaload, 1) := by decide +kernel
theorem dX3_worth_88 : decode cX3_worth 88 = .ok (.invokevirtual 67, 3) := by decide +kernel
theorem dX3_worth_91 : decode cX3_worth 91 = .ok (.goto 78, 3) := by decide +kernel
theorem dX3_worth_94 : decode cX3_worth 94 = .ok (.aload_n 0, 1) := by decide +kernel
theorem dX3_worth_95 : decode cX3_worth 95 = .ok (.aload_n 0, 1) := by decide +kernel
theorem dX3_worth_96 : decode cX3_worth 96 = .ok (.invokevirtual 71, 3) := by decide +kernel
theorem dX3_worth_99 : decode cX3_worth 99 = .ok (.ifCond .ne 7, 3) := by decide +kernel
theorem dX3_worth_102 : decode cX3_worth 102 = .ok (.iconst 1, 1) := by decide +kernel
theorem dX3_worth_103 : decode cX3_worth 103 = .ok (.goto 4, 3) := by decide +kernel
theorem dX3_worth_106 : decode cX3_worth 106 = .ok (.iconst 0, 1) := by decide +kernel
theorem dX3_worth_107 : decode cX3_worth 107 = .ok (.invokevirtual 67, 3) := by decide +kernel
theorem dX3_worth_110 : decode cX3_worth 110 = .ok (.goto 59, 3) := by decide +kernel
theorem dX3_worth_113 : decode cX3_worth 113 = .ok (.aload_n 0, 1) := by decide +kernel
theorem dX3_worth_114 : decode cX3_worth 114 = .ok (.aload_n 0, 1) := by decide +kernel
theorem dX3_worth_115 : decode cX3_worth 115 = .ok (.invokevirtual 71, 3) := by decide +kernel
theorem dX3_worth_118 : decode cX3_worth 118 = .ok (.ineg, 1) := by decide +kernel
theorem dX3_worth_119 : decode cX3_worth 119 = .ok (.invokevirtual 67, 3) := by decide +kernel
theorem dX3_worth_122 : decode cX3_worth 122 = .ok (.goto 47, 3) := by decide +kernel
theorem dX3_worth_125 : decode cX3_worth 125 = .ok (.aload_n 0, 1) := by decide +kernel
theorem dX3_worth_126 : decode cX3_worth 126 = .ok (.invokevirtual 71, 3) := by decide +kernel
theorem dX3_worth_129 : decode cX3_worth 129 = .ok (.ireturn, 1) := by decide +kernel
theorem dX3_worth_130 : decode cX3_worth 130 = .ok (.aload_n 0, 1) := by decide +kernel
theorem dX3_worth_131 : decode cX3_worth 131 = .ok (.invokevirtual 71, 3) := by decide +kernel
theorem dX3_worth_134 : decode cX3_worth 134 = .ok (.ifCond .ne 35, 3) := by decide +kernel
theorem dX3_worth_137 : decode cX3_worth 137 = .ok (.iload_n 1, 1) := by decide +kernel
theorem dX3_worth_138 : decode cX3_worth 138 = .ok (.iload_n 2, 1) := by decide +kernel
theorem dX3_worth_139 : decode cX3_worth 139 = .ok (.invokestatic 74, 3) := by decide +kernel
theorem dX3_worth_142 : decode cX3_worth 142 = .ok (.istore_n 1, 1) := by decide +kernel
theorem dX3_worth_143 : decode cX3_worth 143 = .ok (.goto 26, 3) := by decide +kernel
theorem dX3_worth_146 : decode cX3_worth 146 = .ok (.aload_n 0, 1) := by decide +kernel
theorem dX3_worth_147 : decode cX3_worth 147 = .ok (.invokevirtual 71, 3) := by decide +kernel
theorem dX3_worth_150 : decode cX3_worth 150 = .ok (.istore_n 3, 1) := by decide +kernel
theorem dX3_worth_151 : decode cX3_worth 151 = .ok (.aload_n 0, 1) := by decide +kernel
theorem dX3_worth_152 : decode cX3_worth 152 = .ok (.aload_n 0, 1) := by decide +kernel
theorem dX3_worth_153 : decode cX3_worth 153 = .ok (.getfield 11, 3) := by decide +kernel
theorem dX3_worth_156 : decode cX3_worth 156 = .ok (.iload_n 1, 1) := by decide +kernel
theorem dX3_worth_157 : decode cX3_worth 157 = .ok (.iaload, 1) := by decide +kernel
theorem dX3_worth_158 : decode cX3_worth 158 = .ok (.aload_n 0, 1) := by decide +kernel
theorem dX3_worth_159 : decode cX3_worth 159 = .ok (.invokevirtual 71, 3) := by decide +kernel
theorem dX3_worth_162 : decode cX3_worth 162 = .ok (.iload_n 3, 1) := by decide +kernel
theorem dX3_worth_163 : decode cX3_worth 163 = .ok (.invokestatic 79, 3) := by decide +kernel
theorem dX3_worth_166 : decode cX3_worth 166 = .ok (.invokevirtual 67, 3) := by decide +kernel
theorem dX3_worth_169 : decode cX3_worth 169 = .ok (.iinc 1 1, 3) := by decide +kernel
theorem dX3_worth_172 : decode cX3_worth 172 = .ok (.goto (-165), 3) := by decide +kernel
theorem dX3_worth_175 : decode cX3_worth 175 = .ok (.iconst 0, 1) := by decide +kernel
theorem dX3_worth_176 : decode cX3_worth 176 = .ok (.ireturn, 1) := by decide +kernel
theorem dX3_pile_0 : decode cX3_pile 0 = .ok (.aload_n 0, 1) := by decide +kernel
theorem dX3_pile_1 : decode cX3_pile 1 = .ok (.getfield 64, 3) := by decide +kernel
theorem dX3_pile_4 : decode cX3_pile 4 = .ok (.ifCond .lt 33, 3) := by decide +kernel
theorem dX3_pile_7 : decode cX3_pile 7 = .ok (.aload_n 0, 1) := by decide +kernel
theorem dX3_pile_8 : decode cX3_pile 8 = .ok (.getfield 64, 3) := by decide +kernel
theorem dX3_pile_11 : decode cX3_pile 11 = .ok (.sipush 128, 3) := by decide +kernel
theorem dX3_pile_14 : decode cX3_pile 14 = .ok (.if_icmp .ge 23, 3) := by decide +kernel
theorem dX3_pile_17 : decode cX3_pile 17 = .ok (.aload_n 0, 1) := by decide +kernel
theorem dX3_pile_18 : decode cX3_pile 18 = .ok (.getfield 18, 3) := by decide +kernel
theorem dX3_pile_21 : decode cX3_pile 21 = .ok (.aload_n 0, 1) := by decide +kernel
theorem dX3_pile_22 : decode cX3_pile 22 = .ok (.getfield 64, 3) := by decide +kernel
theorem dX3_pile_25 : decode cX3_pile 25 = .ok (.iload_n 1, 1) := by decide +kernel
theorem dX3_pile_26 : decode cX3_pile 26 = .ok (.iastore, 1) := by decide +kernel
theorem dX3_pile_27 : decode cX3_pile 27 = .ok (.aload_n 0, 1) := by decide +kernel
theorem dX3_pile_28 : decode cX3_pile 28 = .ok (.dup, 1) := by decide +kernel
theorem dX3_pile_29 : decode cX3_pile 29 = .ok (.getfield 64, 3) := by decide +kernel
theorem dX3_pile_32 : decode cX3_pile 32 = .ok (.iconst 1, 1) := by decide +kernel
theorem dX3_pile_33 : decode cX3_pile 33 = .ok (.iadd, 1) := by decide +kernel
theorem dX3_pile_34 : decode cX3_pile 34 = .ok (.putfield 64, 3) := by decide +kernel
theorem dX3_pile_37 : decode cX3_pile 37 = .ok (.return_, 1) := by decide +kernel
theorem dX3_unpile_0 : decode cX3_unpile 0 = .ok (.aload_n 0, 1) := by decide +kernel
theorem dX3_unpile_1 : decode cX3_unpile 1 = .ok (.getfield 64, 3) := by decide +kernel
theorem dX3_unpile_4 : decode cX3_unpile 4 = .ok (.ifCond .le 13, 3) := by decide +kernel
theorem dX3_unpile_7 : decode cX3_unpile 7 = .ok (.aload_n 0, 1) := by decide +kernel
theorem dX3_unpile_8 : decode cX3_unpile 8 = .ok (.getfield 64, 3) := by decide +kernel
theorem dX3_unpile_11 : decode cX3_unpile 11 = .ok (.sipush 128, 3) := by decide +kernel
theorem dX3_unpile_14 : decode cX3_unpile 14 = .ok (.if_icmp .le 5, 3) := by decide +kernel
theorem dX3_unpile_17 : decode cX3_unpile 17 = .ok (.iconst 0, 1) := by decide +kernel
theorem dX3_unpile_18 : decode cX3_unpile 18 = .ok (.ireturn, 1) := by decide +kernel
theorem dX3_unpile_19 : decode cX3_unpile 19 = .ok (.aload_n 0, 1) := by decide +kernel
theorem dX3_unpile_20 : decode cX3_unpile 20 = .ok (.dup, 1) := by decide +kernel
theorem dX3_unpile_21 : decode cX3_unpile 21 = .ok (.getfield 64, 3) := by decide +kernel
theorem dX3_unpile_24 : decode cX3_unpile 24 = .ok (.iconst 1, 1) := by decide +kernel
theorem dX3_unpile_25 : decode cX3_unpile 25 = .ok (.isub, 1) := by decide +kernel
theorem dX3_unpile_26 : decode cX3_unpile 26 = .ok (.putfield 64, 3) := by decide +kernel
theorem dX3_unpile_29 : decode cX3_unpile 29 = .ok (.aload_n 0, 1) := by decide +kernel
theorem dX3_unpile_30 : decode cX3_unpile 30 = .ok (.getfield 18, 3) := by decide +kernel
theorem dX3_unpile_33 : decode cX3_unpile 33 = .ok (.aload_n 0, 1) := by decide +kernel
theorem dX3_unpile_34 : decode cX3_unpile 34 = .ok (.getfield 64, 3) := by decide +kernel
theorem dX3_unpile_37 : decode cX3_unpile 37 = .ok (.iaload, 1) := by decide +kernel
theorem dX3_unpile_38 : decode cX3_unpile 38 = .ok (.ireturn, 1) := by decide +kernel
theorem dX3_joined_0 : decode cX3_joined 0 = .ok (.iload_n 0, 1) := by decide +kernel
theorem dX3_joined_1 : decode cX3_joined 1 = .ok (.lookupswitch 188 #[(37, 176), (38, 105), (42, 160), (43, 152), (45, 156), (47, 164), (60, 119), (61, 130), (62, 141), (124, 91)], 91) := by decide +kernel
theorem dX3_joined_92 : decode cX3_joined 92 = .ok (.iload_n 1, 1) := by decide +kernel
theorem dX3_joined_93 : decode cX3_joined 93 = .ok (.ifCond .ne 7, 3) := by decide +kernel
theorem dX3_joined_96 : decode cX3_joined 96 = .ok (.iload_n 2, 1) := by decide +kernel
theorem dX3_joined_97 : decode cX3_joined 97 = .ok (.ifCond .eq 7, 3) := by decide +kernel
theorem dX3_joined_100 : decode cX3_joined 100 = .ok (.iconst 1, 1) := by decide +kernel
theorem dX3_joined_101 : decode cX3_joined 101 = .ok (.goto 4, 3) := by decide +kernel
theorem dX3_joined_104 : decode cX3_joined 104 = .ok (.iconst 0, 1) := by decide +kernel
theorem dX3_joined_105 : decode cX3_joined 105 = .ok (.ireturn, 1) := by decide +kernel
theorem dX3_joined_106 : decode cX3_joined 106 = .ok (.iload_n 1, 1) := by decide +kernel
theorem dX3_joined_107 : decode cX3_joined 107 = .ok (.ifCond .eq 11, 3) := by decide +kernel
theorem dX3_joined_110 : decode cX3_joined 110 = .ok (.iload_n 2, 1) := by decide +kernel
theorem dX3_joined_111 : decode cX3_joined 111 = .ok (.ifCond .eq 7, 3) := by decide +kernel
theorem dX3_joined_114 : decode cX3_joined 114 = .ok (.iconst 1, 1) := by decide +kernel
theorem dX3_joined_115 : decode cX3_joined 115 = .ok (.goto 4, 3) := by decide +kernel
theorem dX3_joined_118 : decode cX3_joined 118 = .ok (.iconst 0, 1) := by decide +kernel
theorem dX3_joined_119 : decode cX3_joined 119 = .ok (.ireturn, 1) := by decide +kernel
theorem dX3_joined_120 : decode cX3_joined 120 = .ok (.iload_n 1, 1) := by decide +kernel
theorem dX3_joined_121 : decode cX3_joined 121 = .ok (.iload_n 2, 1) := by decide +kernel
theorem dX3_joined_122 : decode cX3_joined 122 = .ok (.if_icmp .ge 7, 3) := by decide +kernel
theorem dX3_joined_125 : decode cX3_joined 125 = .ok (.iconst 1, 1) := by decide +kernel
theorem dX3_joined_126 : decode cX3_joined 126 = .ok (.goto 4, 3) := by decide +kernel
theorem dX3_joined_129 : decode cX3_joined 129 = .ok (.iconst 0, 1) := by decide +kernel
theorem dX3_joined_130 : decode cX3_joined 130 = .ok (.ireturn, 1) := by decide +kernel
theorem dX3_joined_131 : decode cX3_joined 131 = .ok (.iload_n 1, 1) := by decide +kernel
theorem dX3_joined_132 : decode cX3_joined 132 = .ok (.iload_n 2, 1) := by decide +kernel
theorem dX3_joined_133 : decode cX3_joined 133 = .ok (.if_icmp .ne 7, 3) := by decide +kernel
theorem dX3_joined_136 : decode cX3_joined 136 = .ok (.iconst 1, 1) := by decide +kernel
theorem dX3_joined_137 : decode cX3_joined 137 = .ok (.goto 4, 3) := by decide +kernel
theorem dX3_joined_140 : decode cX3_joined 140 = .ok (.iconst 0, 1) := by decide +kernel
theorem dX3_joined_141 : decode cX3_joined 141 = .ok (.ireturn, 1) := by decide +kernel
theorem dX3_joined_142 : decode cX3_joined 142 = .ok (.iload_n 1, 1) := by decide +kernel
theorem dX3_joined_143 : decode cX3_joined 143 = .ok (.iload_n 2, 1) := by decide +kernel
theorem dX3_joined_144 : decode cX3_joined 144 = .ok (.if_icmp .le 7, 3) := by decide +kernel
theorem dX3_joined_147 : decode cX3_joined 147 = .ok (.iconst 1, 1) := by decide +kernel
theorem dX3_joined_148 : decode cX3_joined 148 = .ok (.goto 4, 3) := by decide +kernel
theorem dX3_joined_151 : decode cX3_joined 151 = .ok (.iconst 0, 1) := by decide +kernel
theorem dX3_joined_152 : decode cX3_joined 152 = .ok (.ireturn, 1) := by decide +kernel
theorem dX3_joined_153 : decode cX3_joined 153 = .ok (.iload_n 1, 1) := by decide +kernel
theorem dX3_joined_154 : decode cX3_joined 154 = .ok (.iload_n 2, 1) := by decide +kernel
theorem dX3_joined_155 : decode cX3_joined 155 = .ok (.iadd, 1) := by decide +kernel
theorem dX3_joined_156 : decode cX3_joined 156 = .ok (.ireturn, 1) := by decide +kernel
theorem dX3_joined_157 : decode cX3_joined 157 = .ok (.iload_n 1, 1) := by decide +kernel
theorem dX3_joined_158 : decode cX3_joined 158 = .ok (.iload_n 2, 1) := by decide +kernel
theorem dX3_joined_159 : decode cX3_joined 159 = .ok (.isub, 1) := by decide +kernel
theorem dX3_joined_160 : decode cX3_joined 160 = .ok (.ireturn, 1) := by decide +kernel
theorem dX3_joined_161 : decode cX3_joined 161 = .ok (.iload_n 1, 1) := by decide +kernel
theorem dX3_joined_162 : decode cX3_joined 162 = .ok (.iload_n 2, 1) := by decide +kernel
theorem dX3_joined_163 : decode cX3_joined 163 = .ok (.imul, 1) := by decide +kernel
theorem dX3_joined_164 : decode cX3_joined 164 = .ok (.ireturn, 1) := by decide +kernel
theorem dX3_joined_165 : decode cX3_joined 165 = .ok (.iload_n 2, 1) := by decide +kernel
theorem dX3_joined_166 : decode cX3_joined 166 = .ok (.ifCond .ne 7, 3) := by decide +kernel
theorem dX3_joined_169 : decode cX3_joined 169 = .ok (.iconst 0, 1) := by decide +kernel
theorem dX3_joined_170 : decode cX3_joined 170 = .ok (.goto 6, 3) := by decide +kernel
theorem dX3_joined_173 : decode cX3_joined 173 = .ok (.iload_n 1, 1) := by decide +kernel
theorem dX3_joined_174 : decode cX3_joined 174 = .ok (.iload_n 2, 1) := by decide +kernel
theorem dX3_joined_175 : decode cX3_joined 175 = .ok (.idiv, 1) := by decide +kernel
theorem dX3_joined_176 : decode cX3_joined 176 = .ok (.ireturn, 1) := by decide +kernel
theorem dX3_joined_177 : decode cX3_joined 177 = .ok (.iload_n 2, 1) := by decide +kernel
theorem dX3_joined_178 : decode cX3_joined 178 = .ok (.ifCond .ne 7, 3) := by decide +kernel
theorem dX3_joined_181 : decode cX3_joined 181 = .ok (.iconst 0, 1) := by decide +kernel
theorem dX3_joined_182 : decode cX3_joined 182 = .ok (.goto 6, 3) := by decide +kernel
theorem dX3_joined_185 : decode cX3_joined 185 = .ok (.iload_n 1, 1) := by decide +kernel
theorem dX3_joined_186 : decode cX3_joined 186 = .ok (.iload_n 2, 1) := by decide +kernel
theorem dX3_joined_187 : decode cX3_joined 187 = .ok (.irem, 1) := by decide +kernel
theorem dX3_joined_188 : decode cX3_joined 188 = .ok (.ireturn, 1) := by decide +kernel
theorem dX3_joined_189 : decode cX3_joined 189 = .ok (.iconst 0, 1) := by decide +kernel
theorem dX3_joined_190 : decode cX3_joined 190 = .ok (.ireturn, 1) := by decide +kernel
theorem dX4_init_0 : decode cX4_init 0 = .ok (.aload_n 0, 1) := by decide +kernel
theorem dX4_init_1 : decode cX4_init 1 = .ok (.invokespecial 1, 3) := by decide +kernel
theorem dX4_init_4 : decode cX4_init 4 = .ok (.aload_n 0, 1) := by decide +kernel
theorem dX4_init_5 : decode cX4_init 5 = .ok (.bipush 120, 2) := by decide +kernel
theorem dX4_init_7 : decode cX4_init 7 = .ok (.newarray .int, 2) := by decide +kernel
theorem dX4_init_9 : decode cX4_init 9 = .ok (.putfield 9, 3) := by decide +kernel
theorem dX4_init_12 : decode cX4_init 12 = .ok (.aload_n 0, 1) := by decide +kernel
theorem dX4_init_13 : decode cX4_init 13 = .ok (.new 13, 3) := by decide +kernel
theorem dX4_init_16 : decode cX4_init 16 = .ok (.dup, 1) := by decide +kernel
theorem dX4_init_17 : decode cX4_init 17 = .ok (.invokespecial 15, 3) := by decide +kernel
theorem dX4_init_20 : decode cX4_init 20 = .ok (.putfield 16, 3) := by decide +kernel
theorem dX4_init_23 : decode cX4_init 23 = .ok (.return_, 1) := by decide +kernel
theorem dX4_takeIn_0 : decode cX4_takeIn 0 = .ok (.aload_n 0, 1) := by decide +kernel
theorem dX4_takeIn_1 : decode cX4_takeIn 1 = .ok (.getfield 20, 3) := by decide +kernel
theorem dX4_takeIn_4 : decode cX4_takeIn 4 = .ok (.bipush 120, 2) := by decide +kernel
theorem dX4_takeIn_6 : decode cX4_takeIn 6 = .ok (.if_icmp .lt 5, 3) := by decide +kernel
theorem dX4_takeIn_9 : decode cX4_takeIn 9 = .ok (.iconst 0, 1) := by decide +kernel
theorem dX4_takeIn_10 : decode cX4_takeIn 10 = .ok (.ireturn, 1) := by decide +kernel
theorem dX4_takeIn_11 : decode cX4_takeIn 11 = .ok (.aload_n 0, 1) := by decide +kernel
theorem dX4_takeIn_12 : decode cX4_takeIn 12 = .ok (.getfield 9, 3) := by decide +kernel
theorem dX4_takeIn_15 : decode cX4_takeIn 15 = .ok (.aload_n 0, 1) := by decide +kernel
theorem dX4_takeIn_16 : decode cX4_takeIn 16 = .ok (.getfield 20, 3) := by decide +kernel
theorem dX4_takeIn_19 : decode cX4_takeIn 19 = .ok (.iload_n 1, 1) := by decide +kernel
theorem dX4_takeIn_20 : decode cX4_takeIn 20 = .ok (.iastore, 1) := by decide +kernel
theorem dX4_takeIn_21 : decode cX4_takeIn 21 = .ok (.aload_n 0, 1) := by decide +kernel
theorem dX4_takeIn_22 : decode cX4_takeIn 22 = .ok (.dup, 1) := by decide +kernel
theorem dX4_takeIn_23 : decode cX4_takeIn 23 = .ok (.getfield 20, 3) := by decide +kernel
theorem dX4_takeIn_26 : decode cX4_takeIn 26 = .ok (.iconst 1, 1) := by decide +kernel
theorem dX4_takeIn_27 : decode cX4_takeIn 27 = .ok (.iadd, 1) := by decide +kernel
theorem dX4_takeIn_28 : decode cX4_takeIn 28 = .ok (.putfield 20, 3) := by decide +kernel
theorem dX4_takeIn_31 : decode cX4_takeIn 31 = .ok (.iconst 1, 1) := by decide +kernel
theorem dX4_takeIn_32 : decode cX4_takeIn 32 = .ok (.ireturn, 1) := by decide +kernel
theorem dX4_readText_0 : decode cX4_readText 0 = .ok (.aload_n 0, 1) := by decide +kernel
theorem dX4_readText_1 : decode cX4_readText 1 = .ok (.iconst 0, 1) := by decide +kernel
theorem dX4_readText_2 : decode cX4_readText 2 = .ok (.putfield 24, 3) := by decide +kernel
theorem dX4_readText_5 : decode cX4_readText 5 = .ok (.aload_n 0, 1) := by decide +kernel
theorem dX4_readText_6 : decode cX4_readText 6 = .ok (.iconst 0, 1) := by decide +kernel
theorem dX4_readText_7 : decode cX4_readText 7 = .ok (.putfield 27, 3) := by decide +kernel
theorem dX4_readText_10 : decode cX4_readText 10 = .ok (.aload_n 0, 1) := by decide +kernel
theorem dX4_readText_11 : decode cX4_readText 11 = .ok (.getfield 16, 3) := by decide +kernel
theorem dX4_readText_14 : decode cX4_readText 14 = .ok (.iconst 0, 1) := by decide +kernel
theorem dX4_readText_15 : decode cX4_readText 15 = .ok (.putfield 31, 3) := by decide +kernel
theorem dX4_readText_18 : decode cX4_readText 18 = .ok (.iconst 1, 1) := by decide +kernel
theorem dX4_readText_19 : decode cX4_readText 19 = .ok (.istore_n 1, 1) := by decide +kernel
theorem dX4_readText_20 : decode cX4_readText 20 = .ok (.iconst 0, 1) := by decide +kernel
theorem dX4_readText_21 : decode cX4_readText 21 = .ok (.istore_n 2, 1) := by decide +kernel
theorem dX4_readText_22 : decode cX4_readText 22 = .ok (.iload_n 1, 1) := by decide +kernel
theorem dX4_readText_23 : decode cX4_readText 23 = .ok (.ifCond .eq 26, 3) := by decide +kernel
theorem dX4_readText_26 : decode cX4_readText 26 = .ok (.iload_n 2, 1) := by decide +kernel
theorem dX4_readText_27 : decode cX4_readText 27 = .ok (.bipush 120, 2) := by decide +kernel
theorem dX4_readText_29 : decode cX4_readText 29 = .ok (.if_icmp .gt 20, 3) := by decide +kernel
theorem dX4_readText_32 : decode cX4_readText 32 = .ok (.aload_n 0, 1) := by decide +kernel
theorem dX4_readText_33 : decode cX4_readText 33 = .ok (.invokevirtual 32, 3) := by decide +kernel
theorem dX4_readText_36 : decode cX4_readText 36 = .ok (.aload_n 0, 1) := by decide +kernel
theorem dX4_readText_37 : decode cX4_readText 37 = .ok (.bipush 59, 2) := by decide +kernel
theorem dX4_readText_39 : decode cX4_readText 39 = .ok (.invokevirtual 35, 3) := by decide +kernel
theorem dX4_readText_42 : decode cX4_readText 42 = .ok (.istore_n 1, 1) := by decide +kernel
theorem dX4_readText_43 : decode cX4_readText 43 = .ok (.iinc 2 1, 3) := by decide +kernel
theorem dX4_readText_46 : decode cX4_readText 46 = .ok (.goto (-24), 3) := by decide +kernel
theorem dX4_readText_49 : decode cX4_readText 49 = .ok (.aload_n 0, 1) := by decide +kernel
theorem dX4_readText_50 : decode cX4_readText 50 = .ok (.getfield 27, 3) := by decide +kernel
theorem dX4_readText_53 : decode cX4_readText 53 = .ok (.ifCond .ne 14, 3) := by decide +kernel
theorem dX4_readText_56 : decode cX4_readText 56 = .ok (.aload_n 0, 1) := by decide +kernel
theorem dX4_readText_57 : decode cX4_readText 57 = .ok (.getfield 24, 3) := by decide +kernel
theorem dX4_readText_60 : decode cX4_readText 60 = .ok (.aload_n 0, 1) := by decide +kernel
theorem dX4_readText_61 : decode cX4_readText 61 = .ok (.getfield 20, 3) := by decide +kernel
theorem dX4_readText_64 : decode cX4_readText 64 = .ok (.if_icmp .ge 10, 3) := by decide +kernel
theorem dX4_readText_67 : decode cX4_readText 67 = .ok (.aload_n 0, 1) := by decide +kernel
theorem dX4_readText_68 : decode cX4_readText 68 = .ok (.getfield 24, 3) := by decide +kernel
theorem dX4_readText_71 : decode cX4_readText 71 = .ok (.goto 4, 3) := by decide +kernel
theorem dX4_readText_74 : decode cX4_readText 74 = .ok (.iconst (-1), 1) := by decide +kernel
theorem dX4_readText_75 : decode cX4_readText 75 = .ok (.ireturn, 1) := by decide +kernel
theorem dX4_readLine_0 : decode cX4_readLine 0 = .ok (.aload_n 0, 1) := by decide +kernel
theorem dX4_readLine_1 : decode cX4_readLine 1 = .ok (.iconst 0, 1) := by decide +kernel
theorem dX4_readLine_2 : decode cX4_readLine 2 = .ok (.iconst 0, 1) := by decide +kernel
theorem dX4_readLine_3 : decode cX4_readLine 3 = .ok (.invokevirtual 39, 3) := by decide +kernel
theorem dX4_readLine_6 : decode cX4_readLine 6 = .ok (.iconst (-1), 1) := by decide +kernel
theorem dX4_readLine_7 : decode cX4_readLine 7 = .ok (.istore_n 1, 1) := by decide +kernel
theorem dX4_readLine_8 : decode cX4_readLine 8 = .ok (.aload_n 0, 1) := by decide +kernel
theorem dX4_readLine_9 : decode cX4_readLine 9 = .ok (.bipush 63, 2) := by decide +kernel
theorem dX4_readLine_11 : decode cX4_readLine 11 = .ok (.invokevirtual 35, 3) := by decide +kernel
theorem dX4_readLine_14 : decode cX4_readLine 14 = .ok (.ifCond .eq 19, 3) := by decide +kernel
theorem dX4_readLine_17 : decode cX4_readLine 17 = .ok (.aload_n 0, 1) := by decide +kernel
theorem dX4_readLine_18 : decode cX4_readLine 18 = .ok (.getfield 16, 3) := by decide +kernel
theorem dX4_readLine_21 : decode cX4_readLine 21 = .ok (.iconst 2, 1) := by decide +kernel
theorem dX4_readLine_22 : decode cX4_readLine 22 = .ok (.iconst 0, 1) := by decide +kernel
theorem dX4_readLine_23 : decode cX4_readLine 23 = .ok (.invokevirtual 43, 3) := by decide +kernel
theorem dX4_readLine_26 : decode cX4_readLine 26 = .ok (.istore_n 1, 1) := by decide +kernel
theorem dX4_readLine_27 : decode cX4_readLine 27 = .ok (.aload_n 0, 1) := by decide +kernel
theorem dX4_readLine_28 : decode cX4_readLine 28 = .ok (.iconst 0, 1) := by decide +kernel
theorem dX4_readLine_29 : decode cX4_readLine 29 = .ok (.iconst 0, 1) := by decide +kernel
theorem dX4_readLine_30 : decode cX4_readLine 30 = .ok (.invokevirtual 39, 3) := by decide +kernel
theorem dX4_readLine_33 : decode cX4_readLine 33 = .ok (.aload_n 0, 1) := by decide +kernel
theorem dX4_readLine_34 : decode cX4_readLine 34 = .ok (.getfield 16, 3) := by decide +kernel
theorem dX4_readLine_37 : decode cX4_readLine 37 = .ok (.iconst 3, 1) := by decide +kernel
theorem dX4_readLine_38 : decode cX4_readLine 38 = .ok (.iconst 0, 1) := by decide +kernel
theorem dX4_readLine_39 : decode cX4_readLine 39 = .ok (.invokevirtual 43, 3) := by decide +kernel
theorem dX4_readLine_42 : decode cX4_readLine 42 = .ok (.istore_n 2, 1) := by decide +kernel
theorem dX4_readLine_43 : decode cX4_readLine 43 = .ok (.iload_n 1, 1) := by decide +kernel
theorem dX4_readLine_44 : decode cX4_readLine 44 = .ok (.ifCond .lt 13, 3) := by decide +kernel
theorem dX4_readLine_47 : decode cX4_readLine 47 = .ok (.aload_n 0, 1) := by decide +kernel
theorem dX4_readLine_48 : decode cX4_readLine 48 = .ok (.getfield 16, 3) := by decide +kernel
theorem dX4_readLine_51 : decode cX4_readLine 51 = .ok (.getfield 47, 3) := by decide +kernel
theorem dX4_readLine_54 : decode cX4_readLine 54 = .ok (.iload_n 1, 1) := by decide +kernel
theorem dX4_readLine_55 : decode cX4_readLine 55 = .ok (.iload_n 2, 1) := by decide +kernel
theorem dX4_readLine_56 : decode cX4_readLine 56 = .ok (.iastore, 1) := by decide +kernel
theorem dX4_readLine_57 : decode cX4_readLine 57 = .ok (.return_, 1) := by decide +kernel
theorem dX4_readChain_0 : decode cX4_readChain 0 = .ok (.iload_n 1, 1) := by decide +kernel
theorem dX4_readChain_1 : decode cX4_readChain 1 = .ok (.iconst 5, 1) := by decide +kernel
theorem dX4_readChain_2 : decode cX4_readChain 2 = .ok (.if_icmp .lt 9, 3) := by decide +kernel
theorem dX4_readChain_5 : decode cX4_readChain 5 = .ok (.aload_n 0, 1) := by decide +kernel
theorem dX4_readChain_6 : decode cX4_readChain 6 = .ok (.iload_n 2, 1) := by decide +kernel
theorem dX4_readChain_7 : decode cX4_readChain 7 = .ok (.invokevirtual 50, 3) := by decide +kernel
theorem dX4_readChain_10 : decode cX4_readChain 10 = .ok (.return_, 1) := by decide +kernel
theorem dX4_readChain_11 : decode cX4_readChain 11 = .ok (.aload_n 0, 1) := by decide +kernel
theorem dX4_readChain_12 : decode cX4_readChain 12 = .ok (.iload_n 1, 1) := by decide +kernel
theorem dX4_readChain_13 : decode cX4_readChain 13 = .ok (.iconst 1, 1) := by decide +kernel
theorem dX4_readChain_14 : decode cX4_readChain 14 = .ok (.iadd, 1) := by decide +kernel
theorem dX4_readChain_15 : decode cX4_readChain 15 = .ok (.iload_n 2, 1) := by decide +kernel
theorem dX4_readChain_16 : decode cX4_readChain 16 = .ok (.invokevirtual 39, 3) := by decide +kernel
theorem dX4_readChain_19 : decode cX4_readChain 19 = .ok (.aload_n 0, 1) := by decide +kernel
theorem dX4_readChain_20 : decode cX4_readChain 20 = .ok (.iload_n 1, 1) := by decide +kernel
theorem dX4_readChain_21 : decode cX4_readChain 21 = .ok (.invokevirtual 54, 3) := by decide +kernel
theorem dX4_readChain_24 : decode cX4_readChain 24 = .ok (.istore_n 3, 1) := by decide +kernel
theorem dX4_readChain_25 : decode cX4_readChain 25 = .ok (.iconst 0, 1) := by decide +kernel
theorem dX4_readChain_26 : decode cX4_readChain 26 = .ok (.istore 4, 2) := by decide +kernel
theorem dX4_readChain_28 : decode cX4_readChain 28 = .ok (.iload_n 3, 1) := by decide +kernel
theorem dX4_readChain_29 : decode cX4_readChain 29 = .ok (.ifCond .eq 70, 3) := by decide +kernel
theorem dX4_readChain_32 : decode cX4_readChain 32 = .ok (.iload 4, 2) := by decide +kernel
theorem dX4_readChain_34 : decode cX4_readChain 34 = .ok (.bipush 120, 2) := by decide +kernel
theorem dX4_readChain_36 : decode cX4_readChain 36 = .ok (.if_icmp .ge 63, 3) := by decide +kernel
theorem dX4_readChain_39 : decode cX4_readChain 39 = .ok (.aload_n 0, 1) := by decide +kernel
theorem dX4_readChain_40 : decode cX4_readChain 40 = .ok (.invokevirtual 57, 3) := by decide +kernel
theorem dX4_readChain_43 : decode cX4_readChain 43 = .ok (.istore 5, 2) := by decide +kernel
theorem dX4_readChain_45 : decode cX4_readChain 45 = .ok (.aload_n 0, 1) := by decide +kernel
theorem dX4_readChain_46 : decode cX4_readChain 46 = .ok (.dup, 1) := by decide +kernel
theorem dX4_readChain_47 : decode cX4_readChain 47 = .ok (.getfield 24, 3) := by decide +kernel
theorem dX4_readChain_50 : decode cX4_readChain 50 = .ok (.iconst 1, 1) := by decide +kernel
theorem dX4_readChain_51 : decode cX4_readChain 51 = .ok (.iadd, 1) := by decide +kernel
theorem dX4_readChain_52 : decode cX4_readChain 52 = .ok (.putfield 24, 3) := by decide +kernel
theorem dX4_readChain_55 : decode cX4_readChain 55 = .ok (.aload_n 0, 1) := by decide +kernel
theorem dX4_readChain_56 : decode cX4_readChain 56 = .ok (.iload_n 1, 1) := by decide +kernel
theorem dX4_readChain_57 : decode cX4_readChain 57 = .ok (.iconst 1, 1) := by decide +kernel
theorem dX4_readChain_58 : decode cX4_readChain 58 = .ok (.iadd, 1) := by decide +kernel
theorem dX4_readChain_59 : decode cX4_readChain 59 = .ok (.iload_n 2, 1) := by decide +kernel
theorem dX4_readChain_60 : decode cX4_readChain 60 = .ok (.invokevirtual 39, 3) := by decide +kernel
theorem dX4_readChain_63 : decode cX4_readChain 63 = .ok (.aload_n 0, 1) := by decide +kernel
theorem dX4_readChain_64 : decode cX4_readChain 64 = .ok (.getfield 16, 3) := by decide +kernel
theorem dX4_readChain_67 : decode cX4_readChain 67 = .ok (.iload 5, 2) := by decide +kernel
theorem dX4_readChain_69 : decode cX4_readChain 69 = .ok (.iconst 0, 1) := by decide +kernel
theorem dX4_readChain_70 : decode cX4_readChain 70 = .ok (.invokevirtual 43, 3) := by decide +kernel
theorem dX4_readChain_73 : decode cX4_readChain 73 = .ok (.pop, 1) := by decide +kernel
theorem dX4_readChain_74 : decode cX4_readChain 74 = .ok (.iload_n 1, 1) := by decide +kernel
theorem dX4_readChain_75 : decode cX4_readChain 75 = .ok (.iconst 2, 1) := by decide +kernel
theorem dX4_readChain_76 : decode cX4_readChain 76 = .ok (.if_icmp .eq 15, 3) := by decide +kernel
theorem dX4_readChain_79 : decode cX4_readChain 79 = .ok (.aload_n 0, 1) := by decide +kernel
theorem dX4_readChain_80 : decode cX4_readChain 80 = .ok (.iload_n 1, 1) := by decide +kernel
theorem dX4_readChain_81 : decode cX4_readChain 81 = .ok (.invokevirtual 54, 3) := by decide +kernel
theorem dX4_readChain_84 : decode cX4_readChain 84 = .ok (.ifCond .eq 7, 3) := by decide +kernel
theorem dX4_readChain_87 : decode cX4_readChain 87 = .ok (.iconst 1, 1) := by decide +kernel
theorem dX4_readChain_88 : decode cX4_readChain 88 = .ok (.goto 4, 3) := by decide +kernel
theorem dX4_readChain_91 : decode cX4_readChain 91 = .ok (.iconst 0, 1) := by decide +kernel
theorem dX4_readChain_92 : decode cX4_readChain 92 = .ok (.istore_n 3, 1) := by decide +kernel
theorem dX4_readChain_93 : decode cX4_readChain 93 = .ok (.iinc 4 1, 3) := by decide +kernel
theorem dX4_readChain_96 : decode cX4_readChain 96 = .ok (.goto (-68), 3) := by decide +kernel
theorem dX4_readChain_99 : decode cX4_readChain 99 = .ok (.return_, 1) := by decide +kernel
theorem dX4_isJoin_0 : decode cX4_isJoin 0 = .ok (.aload_n 0, 1) := by decide +kernel
theorem dX4_isJoin_1 : decode cX4_isJoin 1 = .ok (.getfield 27, 3) := by decide +kernel
theorem dX4_isJoin_4 : decode cX4_isJoin 4 = .ok (.ifCond .eq 7, 3) := by decide +kernel
theorem dX4_isJoin_7 : decode cX4_isJoin 7 = .ok (.iconst (-1), 1) := by decide +kernel
theorem dX4_isJoin_8 : decode cX4_isJoin 8 = .ok (.goto 7, 3) := by decide +kernel
theorem dX4_isJoin_11 : decode cX4_isJoin 11 = .ok (.aload_n 0, 1) := by decide +kernel
theorem dX4_isJoin_12 : decode cX4_isJoin 12 = .ok (.invokevirtual 57, 3) := by decide +kernel
theorem dX4_isJoin_15 : decode cX4_isJoin 15 = .ok (.istore_n 2, 1) := by decide +kernel
theorem dX4_isJoin_16 : decode cX4_isJoin 16 = .ok (.iload_n 1, 1) := by decide +kernel
theorem dX4_isJoin_17 : decode cX4_isJoin 17 = .ok (.tableswitch 125 0 4 #[35, 47, 59, 83, 101], 35) := by decide +kernel
theorem dX4_isJoin_52 : decode cX4_isJoin 52 = .ok (.iload_n 2, 1) := by decide +kernel
theorem dX4_isJoin_53 : decode cX4_isJoin 53 = .ok (.bipush 124, 2) := by decide +kernel
theorem dX4_isJoin_55 : decode cX4_isJoin 55 = .ok (.if_icmp .ne 7, 3) := by decide +kernel
theorem dX4_isJoin_58 : decode cX4_isJoin 58 = .ok (.iconst 1, 1) := by decide +kernel
theorem dX4_isJoin_59 : decode cX4_isJoin 59 = .ok (.goto 4, 3) := by decide +kernel
theorem dX4_isJoin_62 : decode cX4_isJoin 62 = .ok (.iconst 0, 1) := by decide +kernel
theorem dX4_isJoin_63 : decode cX4_isJoin 63 = .ok (.ireturn, 1) := by decide +kernel
theorem dX4_isJoin_64 : decode cX4_isJoin 64 = .ok (.iload_n 2, 1) := by decide +kernel
theorem dX4_isJoin_65 : decode cX4_isJoin 65 = .ok (.bipush 38, 2) := by decide +kernel
theorem dX4_isJoin_67 : decode cX4_isJoin 67 = .ok (.if_icmp .ne 7, 3) := by decide +kernel
theorem dX4_isJoin_70 : decode cX4_isJoin 70 = .ok (.iconst 1, 1) := by decide +kernel
theorem dX4_isJoin_71 : decode cX4_isJoin 71 = .ok (.goto 4, 3) := by decide +kernel
theorem dX4_isJoin_74 : decode cX4_isJoin 74 = .ok (.iconst 0, 1) := by decide +kernel
theorem dX4_isJoin_75 : decode cX4_isJoin 75 = .ok (.ireturn, 1) := by decide +kernel
theorem dX4_isJoin_76 : decode cX4_isJoin 76 = .ok (.iload_n 2, 1) := by decide +kernel
theorem dX4_isJoin_77 : decode cX4_isJoin 77 = .ok (.bipush 60, 2) := by decide +kernel
theorem dX4_isJoin_79 : decode cX4_isJoin 79 = .ok (.if_icmp .eq 15, 3) := by decide +kernel
theorem dX4_isJoin_82 : decode cX4_isJoin 82 = .ok (.iload_n 2, 1) := by decide +kernel
theorem dX4_isJoin_83 : decode cX4_isJoin 83 = .ok (.bipush 61, 2) := by decide +kernel
theorem dX4_isJoin_85 : decode cX4_isJoin 85 = .ok (.if_icmp .eq 9, 3) := by decide +kernel
theorem dX4_isJoin_88 : decode cX4_isJoin 88 = .ok (.iload_n 2, 1) := by decide +kernel
theorem dX4_isJoin_89 : decode cX4_isJoin 89 = .ok (.bipush 62, 2) := by decide +kernel
theorem dX4_isJoin_91 : decode cX4_isJoin 91 = .ok (.if_icmp .ne 7, 3) := by decide +kernel
theorem dX4_isJoin_94 : decode cX4_isJoin 94 = .ok (.iconst 1, 1) := by decide +kernel
theorem dX4_isJoin_95 : decode cX4_isJoin 95 = .ok (.goto 4, 3) := by decide +kernel
theorem dX4_isJoin_98 : decode cX4_isJoin 98 = .ok (.iconst 0, 1) := by decide +kernel
theorem dX4_isJoin_99 : decode cX4_isJoin 99 = .ok (.ireturn, 1) := by decide +kernel
theorem dX4_isJoin_100 : decode cX4_isJoin 100 = .ok (.iload_n 2, 1) := by decide +kernel
theorem dX4_isJoin_101 : decode cX4_isJoin 101 = .ok (.bipush 43, 2) := by decide +kernel
theorem dX4_isJoin_103 : decode cX4_isJoin 103 = .ok (.if_icmp .eq 9, 3) := by decide +kernel
theorem dX4_isJoin_106 : decode cX4_isJoin 106 = .ok (.iload_n 2, 1) := by decide +kernel
theorem dX4_isJoin_107 : decode cX4_isJoin 107 = .ok (.bipush 45, 2) := by decide +kernel
theorem dX4_isJoin_109 : decode cX4_isJoin 109 = .ok (.if_icmp .ne 7, 3) := by decide +kernel
theorem dX4_isJoin_112 : decode cX4_isJoin 112 = .ok (.iconst 1, 1) := by decide +kernel
theorem dX4_isJoin_113 : decode cX4_isJoin 113 = .ok (.goto 4, 3) := by decide +kernel
theorem dX4_isJoin_116 : decode cX4_isJoin 116 = .ok (.iconst 0, 1) := by decide +kernel
theorem dX4_isJoin_117 : decode cX4_isJoin 117 = .ok (.ireturn, 1) := by decide +kernel
theorem dX4_isJoin_118 : decode cX4_isJoin 118 = .ok (.iload_n 2, 1) := by decide +kernel
theorem dX4_isJoin_119 : decode cX4_isJoin 119 = .ok (.bipush 42, 2) := by decide +kernel
theorem dX4_isJoin_121 : decode cX4_isJoin 121 = .ok (.if_icmp .eq 15, 3) := by decide +kernel
theorem dX4_isJoin_124 : decode cX4_isJoin 124 = .ok (.iload_n 2, 1) := by decide +kernel
theorem dX4_isJoin_125 : decode cX4_isJoin 125 = .ok (.bipush 47, 2) := by decide +kernel
theorem dX4_isJoin_127 : decode cX4_isJoin 127 = .ok (.if_icmp .eq 9, 3) := by decide +kernel
theorem dX4_isJoin_130 : decode cX4_isJoin 130 = .ok (.iload_n 2, 1) := by decide +kernel
theorem dX4_isJoin_131 : decode cX4_isJoin 131 = .ok (.bipush 37, 2) := by decide +kernel
theorem dX4_isJoin_133 : decode cX4_isJoin 133 = .ok (.if_icmp .ne 7, 3) := by decide +kernel
theorem dX4_isJoin_136 : decode cX4_isJoin 136 = .ok (.iconst 1, 1) := by decide +kernel
theorem dX4_isJoin_137 : decode cX4_isJoin 137 = .ok (.goto 4, 3) := by decide +kernel
theorem dX4_isJoin_140 : decode cX4_isJoin 140 = .ok (.iconst 0, 1) := by decide +kernel
theorem dX4_isJoin_141 : decode cX4_isJoin 141 = .ok (.ireturn, 1) := by decide +kernel
theorem dX4_isJoin_142 : decode cX4_isJoin 142 = .ok (.iconst 0, 1) := by decide +kernel
theorem dX4_isJoin_143 : decode cX4_isJoin 143 = .ok (.ireturn, 1) := by decide +kernel
theorem dX4_readOperand_0 : decode cX4_readOperand 0 = .ok (.aload_n 0, 1) := by decide +kernel
theorem dX4_readOperand_1 : decode cX4_readOperand 1 = .ok (.invokevirtual 57, 3) := by decide +kernel
theorem dX4_readOperand_4 : decode cX4_readOperand 4 = .ok (.istore_n 2, 1) := by decide +kernel
theorem dX4_readOperand_5 : decode cX4_readOperand 5 = .ok (.iload_n 2, 1) := by decide +kernel
theorem dX4_readOperand_6 : decode cX4_readOperand 6 = .ok (.invokestatic 61, 3) := by decide +kernel
theorem dX4_readOperand_9 : decode cX4_readOperand 9 = .ok (.ifCond .eq 10, 3) := by decide +kernel
theorem dX4_readOperand_12 : decode cX4_readOperand 12 = .ok (.aload_n 0, 1) := by decide +kernel
theorem dX4_readOperand_13 : decode cX4_readOperand 13 = .ok (.invokevirtual 64, 3) := by decide +kernel
theorem dX4_readOperand_16 : decode cX4_readOperand 16 = .ok (.goto 86, 3) := by decide +kernel
theorem dX4_readOperand_19 : decode cX4_readOperand 19 = .ok (.iload_n 2, 1) := by decide +kernel
theorem dX4_readOperand_20 : decode cX4_readOperand 20 = .ok (.invokestatic 67, 3) := by decide +kernel
theorem dX4_readOperand_23 : decode cX4_readOperand 23 = .ok (.ifCond .lt 29, 3) := by decide +kernel
theorem dX4_readOperand_26 : decode cX4_readOperand 26 = .ok (.aload_n 0, 1) := by decide +kernel
theorem dX4_readOperand_27 : decode cX4_readOperand 27 = .ok (.getfield 16, 3) := by decide +kernel
theorem dX4_readOperand_30 : decode cX4_readOperand 30 = .ok (.iconst 1, 1) := by decide +kernel
theorem dX4_readOperand_31 : decode cX4_readOperand 31 = .ok (.iload_n 2, 1) := by decide +kernel
theorem dX4_readOperand_32 : decode cX4_readOperand 32 = .ok (.invokestatic 67, 3) := by decide +kernel
theorem dX4_readOperand_35 : decode cX4_readOperand 35 = .ok (.invokevirtual 43, 3) := by decide +kernel
theorem dX4_readOperand_38 : decode cX4_readOperand 38 = .ok (.pop, 1) := by decide +kernel
theorem dX4_readOperand_39 : decode cX4_readOperand 39 = .ok (.aload_n 0, 1) := by decide +kernel
theorem dX4_readOperand_40 : decode cX4_readOperand 40 = .ok (.dup, 1) := by decide +kernel
theorem dX4_readOperand_41 : decode cX4_readOperand 41 = .ok (.getfield 24, 3) := by decide +kernel
theorem dX4_readOperand_44 : decode cX4_readOperand 44 = .ok (.iconst 1, 1) := by decide +kernel
theorem dX4_readOperand_45 : decode cX4_readOperand 45 = .ok (.iadd, 1) := by decide +kernel
theorem dX4_readOperand_46 : decode cX4_readOperand 46 = .ok (.putfield 24, 3) := by decide +kernel
theorem dX4_readOperand_49 : decode cX4_readOperand 49 = .ok (.goto 53, 3) := by decide +kernel
theorem dX4_readOperand_52 : decode cX4_readOperand 52 = .ok (.iload_n 1, 1) := by decide +kernel
theorem dX4_readOperand_53 : decode cX4_readOperand 53 = .ok (.bipush 6, 2) := by decide +kernel
theorem dX4_readOperand_55 : decode cX4_readOperand 55 = .ok (.if_icmp .ge 42, 3) := by decide +kernel
theorem dX4_readOperand_58 : decode cX4_readOperand 58 = .ok (.iload_n 2, 1) := by decide +kernel
theorem dX4_readOperand_59 : decode cX4_readOperand 59 = .ok (.bipush 40, 2) := by decide +kernel
theorem dX4_readOperand_61 : decode cX4_readOperand 61 = .ok (.if_icmp .eq 15, 3) := by decide +kernel
theorem dX4_readOperand_64 : decode cX4_readOperand 64 = .ok (.iload_n 2, 1) := by decide +kernel
theorem dX4_readOperand_65 : decode cX4_readOperand 65 = .ok (.bipush 33, 2) := by decide +kernel
theorem dX4_readOperand_67 : decode cX4_readOperand 67 = .ok (.if_icmp .eq 9, 3) := by decide +kernel
theorem dX4_readOperand_70 : decode cX4_readOperand 70 = .ok (.iload_n 2, 1) := by decide +kernel
theorem dX4_readOperand_71 : decode cX4_readOperand 71 = .ok (.bipush 45, 2) := by decide +kernel
theorem dX4_readOperand_73 : decode cX4_readOperand 73 = .ok (.if_icmp .ne 24, 3) := by decide +kernel
theorem dX4_readOperand_76 : decode cX4_readOperand 76 = .ok (.aload_n 0, 1) := by decide +kernel
theorem dX4_readOperand_77 : decode cX4_readOperand 77 = .ok (.dup, 1) := by decide +kernel
theorem dX4_readOperand_78 : decode cX4_readOperand 78 = .ok (.getfield 24, 3) := by decide +kernel
theorem dX4_readOperand_81 : decode cX4_readOperand 81 = .ok (.iconst 1, 1) := by decide +kernel
theorem dX4_readOperand_82 : decode cX4_readOperand 82 = .ok (.iadd, 1) := by decide +kernel
theorem dX4_readOperand_83 : decode cX4_readOperand 83 = .ok (.putfield 24, 3) := by decide +kernel
theorem dX4_readOperand_86 : decode cX4_readOperand 86 = .ok (.aload_n 0, 1) := by decide +kernel
theorem dX4_readOperand_87 : decode cX4_readOperand 87 = .ok (.iload_n 2, 1) := by decide +kernel
theorem dX4_readOperand_88 : decode cX4_readOperand 88 = .ok (.iload_n 1, 1) := by decide +kernel
theorem dX4_readOperand_89 : decode cX4_readOperand 89 = .ok (.iconst 1, 1) := by decide +kernel
theorem dX4_readOperand_90 : decode cX4_readOperand 90 = .ok (.iadd, 1) := by decide +kernel
theorem dX4_readOperand_91 : decode cX4_readOperand 91 = .ok (.invokevirtual 71, 3) := by decide +kernel
theorem dX4_readOperand_94 : decode cX4_readOperand 94 = .ok (.goto 8, 3) := by decide +kernel
theorem dX4_readOperand_97 : decode cX4_readOperand 97 = .ok (.aload_n 0, 1) := by decide +kernel
theorem dX4_readOperand_98 : decode cX4_readOperand 98 = .ok (.iconst 1, 1) := by decide +kernel
theorem dX4_readOperand_99 : decode cX4_readOperand 99 = .ok (.putfield 27, 3) := by decide +kernel
theorem dX4_readOperand_102 : decode cX4_readOperand 102 = .ok (.return_, 1) := by decide +kernel
theorem dX4_readOpened_0 : decode cX4_readOpened 0 = .ok (.iload_n 1, 1) := by decide +kernel
theorem dX4_readOpened_1 : decode cX4_readOpened 1 = .ok (.bipush 40, 2) := by decide +kernel
theorem dX4_readOpened_3 : decode cX4_readOpened 3 = .ok (.if_icmp .ne 26, 3) := by decide +kernel
theorem dX4_readOpened_6 : decode cX4_readOpened 6 = .ok (.aload_n 0, 1) := by decide +kernel
theorem dX4_readOpened_7 : decode cX4_readOpened 7 = .ok (.iconst 0, 1) := by decide +kernel
theorem dX4_readOpened_8 : decode cX4_readOpened 8 = .ok (.iload_n 2, 1) := by decide +kernel
theorem dX4_readOpened_9 : decode cX4_readOpened 9 = .ok (.invokevirtual 39, 3) := by decide +kernel
theorem dX4_readOpened_12 : decode cX4_readOpened 12 = .ok (.aload_n 0, 1) := by decide +kernel
theorem dX4_readOpened_13 : decode cX4_readOpened 13 = .ok (.bipush 41, 2) := by decide +kernel
theorem dX4_readOpened_15 : decode cX4_readOpened 15 = .ok (.invokevirtual 35, 3) := by decide +kernel
theorem dX4_readOpened_18 : decode cX4_readOpened 18 = .ok (.ifCond .ne 36, 3) := by decide +kernel
theorem dX4_readOpened_21 : decode cX4_readOpened 21 = .ok (.aload_n 0, 1) := by decide +kernel
theorem dX4_readOpened_22 : decode cX4_readOpened 22 = .ok (.iconst 1, 1) := by decide +kernel
theorem dX4_readOpened_23 : decode cX4_readOpened 23 = .ok (.putfield 27, 3) := by decide +kernel
theorem dX4_readOpened_26 : decode cX4_readOpened 26 = .ok (.goto 28, 3) := by decide +kernel
theorem dX4_readOpened_29 : decode cX4_readOpened 29 = .ok (.aload_n 0, 1) := by decide +kernel
theorem dX4_readOpened_30 : decode cX4_readOpened 30 = .ok (.iload_n 2, 1) := by decide +kernel
theorem dX4_readOpened_31 : decode cX4_readOpened 31 = .ok (.invokevirtual 50, 3) := by decide +kernel
theorem dX4_readOpened_34 : decode cX4_readOpened 34 = .ok (.aload_n 0, 1) := by decide +kernel
theorem dX4_readOpened_35 : decode cX4_readOpened 35 = .ok (.getfield 16, 3) := by decide +kernel
theorem dX4_readOpened_38 : decode cX4_readOpened 38 = .ok (.iload_n 1, 1) := by decide +kernel
theorem dX4_readOpened_39 : decode cX4_readOpened 39 = .ok (.bipush 33, 2) := by decide +kernel
theorem dX4_readOpened_41 : decode cX4_readOpened 41 = .ok (.if_icmp .ne 7, 3) := by decide +kernel
theorem dX4_readOpened_44 : decode cX4_readOpened 44 = .ok (.iconst 4, 1) := by decide +kernel
theorem dX4_readOpened_45 : decode cX4_readOpened 45 = .ok (.goto 4, 3) := by decide +kernel
theorem dX4_readOpened_48 : decode cX4_readOpened 48 = .ok (.iconst 5, 1) := by decide +kernel
theorem dX4_readOpened_49 : decode cX4_readOpened 49 = .ok (.iconst 0, 1) := by decide +kernel
theorem dX4_readOpened_50 : decode cX4_readOpened 50 = .ok (.invokevirtual 43, 3) := by decide +kernel
theorem dX4_readOpened_53 : decode cX4_readOpened 53 = .ok (.pop, 1) := by decide +kernel
theorem dX4_readOpened_54 : decode cX4_readOpened 54 = .ok (.return_, 1) := by decide +kernel
theorem dX4_readNumber_0 : decode cX4_readNumber 0 = .ok (.iconst 0, 1) := by decide +kernel
theorem dX4_readNumber_1 : decode cX4_readNumber 1 = .ok (.istore_n 1, 1) := by decide +kernel
theorem dX4_readNumber_2 : decode cX4_readNumber 2 = .ok (.iconst 0, 1) := by decide +kernel
theorem dX4_readNumber_3 : decode cX4_readNumber 3 = .ok (.istore_n 2, 1) := by decide +kernel
theorem dX4_readNumber_4 : decode cX4_readNumber 4 = .ok (.iload_n 2, 1) := by decide +kernel
theorem dX4_readNumber_5 : decode cX4_readNumber 5 = .ok (.iconst 4, 1) := by decide +kernel
theorem dX4_readNumber_6 : decode cX4_readNumber 6 = .ok (.if_icmp .ge 42, 3) := by decide +kernel
theorem dX4_readNumber_9 : decode cX4_readNumber 9 = .ok (.aload_n 0, 1) := by decide +kernel
theorem dX4_readNumber_10 : decode cX4_readNumber 10 = .ok (.invokevirtual 57, 3) := by decide +kernel
theorem dX4_readNumber_13 : decode cX4_readNumber 13 = .ok (.invokestatic 61, 3) := by decide +kernel
theorem dX4_readNumber_16 : decode cX4_readNumber 16 = .ok (.ifCond .eq 32, 3) := by decide +kernel
theorem dX4_readNumber_19 : decode cX4_readNumber 19 = .ok (.bipush 10, 2) := by decide +kernel
theorem dX4_readNumber_21 : decode cX4_readNumber 21 = .ok (.iload_n 1, 1) := by decide +kernel
theorem dX4_readNumber_22 : decode cX4_readNumber 22 = .ok (.imul, 1) := by decide +kernel
theorem dX4_readNumber_23 : decode cX4_readNumber 23 = .ok (.aload_n 0, 1) := by decide +kernel
theorem dX4_readNumber_24 : decode cX4_readNumber 24 = .ok (.invokevirtual 57, 3) := by decide +kernel
theorem dX4_readNumber_27 : decode cX4_readNumber 27 = .ok (.iadd, 1) := by decide +kernel
theorem dX4_readNumber_28 : decode cX4_readNumber 28 = .ok (.bipush 48, 2) := by decide +kernel
theorem dX4_readNumber_30 : decode cX4_readNumber 30 = .ok (.isub, 1) := by decide +kernel
theorem dX4_readNumber_31 : decode cX4_readNumber 31 = .ok (.istore_n 1, 1) := by decide +kernel
theorem dX4_readNumber_32 : decode cX4_readNumber 32 = .ok (.aload_n 0, 1) := by decide +kernel
theorem dX4_readNumber_33 : decode cX4_readNumber 33 = .ok (.dup, 1) := by decide +kernel
theorem dX4_readNumber_34 : decode cX4_readNumber 34 = .ok (.getfield 24, 3) := by decide +kernel
theorem dX4_readNumber_37 : decode cX4_readNumber 37 = .ok (.iconst 1, 1) := by decide +kernel
theorem dX4_readNumber_38 : decode cX4_readNumber 38 = .ok (.iadd, 1) := by decide +kernel
theorem dX4_readNumber_39 : decode cX4_readNumber 39 = .ok (.putfield 24, 3) := by decide +kernel
theorem dX4_readNumber_42 : decode cX4_readNumber 42 = .ok (.iinc 2 1, 3) := by decide +kernel
theorem dX4_readNumber_45 : decode cX4_readNumber 45 = .ok (.goto (-41), 3) := by decide +kernel
theorem dX4_readNumber_48 : decode cX4_readNumber 48 = .ok (.aload_n 0, 1) := by decide +kernel
theorem dX4_readNumber_49 : decode cX4_readNumber 49 = .ok (.getfield 16, 3) := by decide +kernel
theorem dX4_readNumber_52 : decode cX4_readNumber 52 = .ok (.iconst 0, 1) := by decide +kernel
theorem dX4_readNumber_53 : decode cX4_readNumber 53 = .ok (.iload_n 1, 1) := by decide +kernel
theorem dX4_readNumber_54 : decode cX4_readNumber 54 = .ok (.invokevirtual 43, 3) := by decide +kernel
theorem dX4_readNumber_57 : decode cX4_readNumber 57 = .ok (.pop, 1) := by decide +kernel
theorem dX4_readNumber_58 : decode cX4_readNumber 58 = .ok (.return_, 1) := by decide +kernel
theorem dX4_next_0 : decode cX4_next 0 = .ok (.aload_n 0, 1) := by decide +kernel
theorem dX4_next_1 : decode cX4_next 1 = .ok (.getfield 24, 3) := by decide +kernel
theorem dX4_next_4 : decode cX4_next 4 = .ok (.ifCond .lt 35, 3) := by decide +kernel
theorem dX4_next_7 : decode cX4_next 7 = .ok (.aload_n 0, 1) := by decide +kernel
theorem dX4_next_8 : decode cX4_next 8 = .ok (.getfield 24, 3) := by decide +kernel
theorem dX4_next_11 : decode cX4_next 11 = .ok (.aload_n 0, 1) := by decide +kernel
theorem dX4_next_12 : decode cX4_next 12 = .ok (.getfield 20, 3) := by decide +kernel
theorem dX4_next_15 : decode cX4_next 15 = .ok (.if_icmp .ge 24, 3) := by decide +kernel
theorem dX4_next_18 : decode cX4_next 18 = .ok (.aload_n 0, 1) := by decide +kernel
theorem dX4_next_19 : decode cX4_next 19 = .ok (.getfield 24, 3) := by decide +kernel
theorem dX4_next_22 : decode cX4_next 22 = .ok (.bipush 120, 2) := by decide +kernel
theorem dX4_next_24 : decode cX4_next 24 = .ok (.if_icmp .ge 15, 3) := by decide +kernel
theorem dX4_next_27 : decode cX4_next 27 = .ok (.aload_n 0, 1) := by decide +kernel
theorem dX4_next_28 : decode cX4_next 28 = .ok (.getfield 9, 3) := by decide +kernel
theorem dX4_next_31 : decode cX4_next 31 = .ok (.aload_n 0, 1) := by decide +kernel
theorem dX4_next_32 : decode cX4_next 32 = .ok (.getfield 24, 3) := by decide +kernel
theorem dX4_next_35 : decode cX4_next 35 = .ok (.iaload, 1) := by decide +kernel
theorem dX4_next_36 : decode cX4_next 36 = .ok (.goto 4, 3) := by decide +kernel
theorem dX4_next_39 : decode cX4_next 39 = .ok (.iconst (-1), 1) := by decide +kernel
theorem dX4_next_40 : decode cX4_next 40 = .ok (.ireturn, 1) := by decide +kernel
theorem dX4_takes_0 : decode cX4_takes 0 = .ok (.aload_n 0, 1) := by decide +kernel
theorem dX4_takes_1 : decode cX4_takes 1 = .ok (.getfield 27, 3) := by decide +kernel
theorem dX4_takes_4 : decode cX4_takes 4 = .ok (.ifCond .ne 11, 3) := by decide +kernel
theorem dX4_takes_7 : decode cX4_takes 7 = .ok (.aload_n 0, 1) := by decide +kernel
theorem dX4_takes_8 : decode cX4_takes 8 = .ok (.invokevirtual 57, 3) := by decide +kernel
theorem dX4_takes_11 : decode cX4_takes 11 = .ok (.iload_n 1, 1) := by decide +kernel
theorem dX4_takes_12 : decode cX4_takes 12 = .ok (.if_icmp .eq 5, 3) := by decide +kernel
theorem dX4_takes_15 : decode cX4_takes 15 = .ok (.iconst 0, 1) := by decide +kernel
theorem dX4_takes_16 : decode cX4_takes 16 = .ok (.ireturn, 1) := by decide +kernel
theorem dX4_takes_17 : decode cX4_takes 17 = .ok (.aload_n 0, 1) := by decide +kernel
theorem dX4_takes_18 : decode cX4_takes 18 = .ok (.dup, 1) := by decide +kernel
theorem dX4_takes_19 : decode cX4_takes 19 = .ok (.getfield 24, 3) := by decide +kernel
theorem dX4_takes_22 : decode cX4_takes 22 = .ok (.iconst 1, 1) := by decide +kernel
theorem dX4_takes_23 : decode cX4_takes 23 = .ok (.iadd, 1) := by decide +kernel
theorem dX4_takes_24 : decode cX4_takes 24 = .ok (.putfield 24, 3) := by decide +kernel
theorem dX4_takes_27 : decode cX4_takes 27 = .ok (.iconst 1, 1) := by decide +kernel
theorem dX4_takes_28 : decode cX4_takes 28 = .ok (.ireturn, 1) := by decide +kernel
theorem dX4_isDigit_0 : decode cX4_isDigit 0 = .ok (.iload_n 0, 1) := by decide +kernel
theorem dX4_isDigit_1 : decode cX4_isDigit 1 = .ok (.bipush 48, 2) := by decide +kernel
theorem dX4_isDigit_3 : decode cX4_isDigit 3 = .ok (.if_icmp .lt 13, 3) := by decide +kernel
theorem dX4_isDigit_6 : decode cX4_isDigit 6 = .ok (.iload_n 0, 1) := by decide +kernel
theorem dX4_isDigit_7 : decode cX4_isDigit 7 = .ok (.bipush 57, 2) := by decide +kernel
theorem dX4_isDigit_9 : decode cX4_isDigit 9 = .ok (.if_icmp .gt 7, 3) := by decide +kernel
theorem dX4_isDigit_12 : decode cX4_isDigit 12 = .ok (.iconst 1, 1) := by decide +kernel
theorem dX4_isDigit_13 : decode cX4_isDigit 13 = .ok (.goto 4, 3) := by decide +kernel
theorem dX4_isDigit_16 : decode cX4_isDigit 16 = .ok (.iconst 0, 1) := by decide +kernel
theorem dX4_isDigit_17 : decode cX4_isDigit 17 = .ok (.ireturn, 1) := by decide +kernel
theorem dX4_nameOf_0 : decode cX4_nameOf 0 = .ok (.iload_n 0, 1) := by decide +kernel
theorem dX4_nameOf_1 : decode cX4_nameOf 1 = .ok (.tableswitch 107 102 121 #[103, 107, 101, 107, 107, 107, 107, 107, 95, 107, 107, 107, 107, 99, 107, 107, 97, 107, 107, 105], 95) := by decide +kernel
theorem dX4_nameOf_96 : decode cX4_nameOf 96 = .ok (.iconst 0, 1) := by decide +kernel
theorem dX4_nameOf_97 : decode cX4_nameOf 97 = .ok (.ireturn, 1) := by decide +kernel
theorem dX4_nameOf_98 : decode cX4_nameOf 98 = .ok (.iconst 1, 1) := by decide +kernel
theorem dX4_nameOf_99 : decode cX4_nameOf 99 = .ok (.ireturn, 1) := by decide +kernel
theorem dX4_nameOf_100 : decode cX4_nameOf 100 = .ok (.iconst 2, 1) := by decide +kernel
theorem dX4_nameOf_101 : decode cX4_nameOf 101 = .ok (.ireturn, 1) := by decide +kernel
theorem dX4_nameOf_102 : decode cX4_nameOf 102 = .ok (.iconst 3, 1) := by decide +kernel
theorem dX4_nameOf_103 : decode cX4_nameOf 103 = .ok (.ireturn, 1) := by decide +kernel
theorem dX4_nameOf_104 : decode cX4_nameOf 104 = .ok (.iconst 4, 1) := by decide +kernel
theorem dX4_nameOf_105 : decode cX4_nameOf 105 = .ok (.ireturn, 1) := by decide +kernel
theorem dX4_nameOf_106 : decode cX4_nameOf 106 = .ok (.iconst 5, 1) := by decide +kernel
theorem dX4_nameOf_107 : decode cX4_nameOf 107 = .ok (.ireturn, 1) := by decide +kernel
theorem dX4_nameOf_108 : decode cX4_nameOf 108 = .ok (.iconst (-1), 1) := by decide +kernel
theorem dX4_nameOf_109 : decode cX4_nameOf 109 = .ok (.ireturn, 1) := by decide +kernel
theorem dX5_init_0 : decode cX5_init 0 = .ok (.aload_n 0, 1) := by decide +kernel
theorem dX5_init_1 : decode cX5_init 1 = .ok (.invokespecial 3, 3) := by decide +kernel
theorem dX5_init_4 : decode cX5_init 4 = .ok (.aload_n 0, 1) := by decide +kernel
theorem dX5_init_5 : decode cX5_init 5 = .ok (.aload_n 1, 1) := by decide +kernel
theorem dX5_init_6 : decode cX5_init 6 = .ok (.putfield 9, 3) := by decide +kernel
theorem dX5_init_9 : decode cX5_init 9 = .ok (.aload_n 0, 1) := by decide +kernel
theorem dX5_init_10 : decode cX5_init 10 = .ok (.iconst 5, 1) := by decide +kernel
theorem dX5_init_11 : decode cX5_init 11 = .ok (.anewarray 15, 3) := by decide +kernel
theorem dX5_init_14 : decode cX5_init 14 = .ok (.putfield 17, 3) := by decide +kernel
theorem dX5_init_17 : decode cX5_init 17 = .ok (.iconst 0, 1) := by decide +kernel
theorem dX5_init_18 : decode cX5_init 18 = .ok (.istore_n 2, 1) := by decide +kernel
theorem dX5_init_19 : decode cX5_init 19 = .ok (.iload_n 2, 1) := by decide +kernel
theorem dX5_init_20 : decode cX5_init 20 = .ok (.iconst 5, 1) := by decide +kernel
theorem dX5_init_21 : decode cX5_init 21 = .ok (.if_icmp .ge 22, 3) := by decide +kernel
theorem dX5_init_24 : decode cX5_init 24 = .ok (.aload_n 0, 1) := by decide +kernel
theorem dX5_init_25 : decode cX5_init 25 = .ok (.getfield 17, 3) := by decide +kernel
theorem dX5_init_28 : decode cX5_init 28 = .ok (.iload_n 2, 1) := by decide +kernel
theorem dX5_init_29 : decode cX5_init 29 = .ok (.new 15, 3) := by decide +kernel
theorem dX5_init_32 : decode cX5_init 32 = .ok (.dup, 1) := by decide +kernel
theorem dX5_init_33 : decode cX5_init 33 = .ok (.invokespecial 21, 3) := by decide +kernel
theorem dX5_init_36 : decode cX5_init 36 = .ok (.aastore, 1) := by decide +kernel
theorem dX5_init_37 : decode cX5_init 37 = .ok (.iinc 2 1, 3) := by decide +kernel
theorem dX5_init_40 : decode cX5_init 40 = .ok (.goto (-21), 3) := by decide +kernel
theorem dX5_init_43 : decode cX5_init 43 = .ok (.aload_n 0, 1) := by decide +kernel
theorem dX5_init_44 : decode cX5_init 44 = .ok (.iconst 1, 1) := by decide +kernel
theorem dX5_init_45 : decode cX5_init 45 = .ok (.putfield 22, 3) := by decide +kernel
theorem dX5_init_48 : decode cX5_init 48 = .ok (.aload_n 0, 1) := by decide +kernel
theorem dX5_init_49 : decode cX5_init 49 = .ok (.bipush 6, 2) := by decide +kernel
theorem dX5_init_51 : decode cX5_init 51 = .ok (.putfield 26, 3) := by decide +kernel
theorem dX5_init_54 : decode cX5_init 54 = .ok (.aload_n 0, 1) := by decide +kernel
theorem dX5_init_55 : decode cX5_init 55 = .ok (.iconst 2, 1) := by decide +kernel
theorem dX5_init_56 : decode cX5_init 56 = .ok (.putfield 29, 3) := by decide +kernel
theorem dX5_init_59 : decode cX5_init 59 = .ok (.aload_n 0, 1) := by decide +kernel
theorem dX5_init_60 : decode cX5_init 60 = .ok (.bipush (-2), 2) := by decide +kernel
theorem dX5_init_62 : decode cX5_init 62 = .ok (.putfield 32, 3) := by decide +kernel
theorem dX5_init_65 : decode cX5_init 65 = .ok (.return_, 1) := by decide +kernel
theorem dX5_copy_0 : decode cX5_copy 0 = .ok (.iconst 0, 1) := by decide +kernel
theorem dX5_copy_1 : decode cX5_copy 1 = .ok (.istore_n 2, 1) := by decide +kernel
theorem dX5_copy_2 : decode cX5_copy 2 = .ok (.iload_n 2, 1) := by decide +kernel
theorem dX5_copy_3 : decode cX5_copy 3 = .ok (.aload_n 1, 1) := by decide +kernel
theorem dX5_copy_4 : decode cX5_copy 4 = .ok (.getfield 35, 3) := by decide +kernel
theorem dX5_copy_7 : decode cX5_copy 7 = .ok (.if_icmp .ge 24, 3) := by decide +kernel
theorem dX5_copy_10 : decode cX5_copy 10 = .ok (.aload_n 0, 1) := by decide +kernel
theorem dX5_copy_11 : decode cX5_copy 11 = .ok (.getfield 17, 3) := by decide +kernel
theorem dX5_copy_14 : decode cX5_copy 14 = .ok (.iload_n 2, 1) := by decide +kernel
theorem dX5_copy_15 : decode cX5_copy 15 = .ok (.aaload, 1) := by decide +kernel
theorem dX5_copy_16 : decode cX5_copy 16 = .ok (.aload_n 1, 1) := by decide +kernel
theorem dX5_copy_17 : decode cX5_copy 17 = .ok (.getfield 17, 3) := by decide +kernel
theorem dX5_copy_20 : decode cX5_copy 20 = .ok (.iload_n 2, 1) := by decide +kernel
theorem dX5_copy_21 : decode cX5_copy 21 = .ok (.aaload, 1) := by decide +kernel
theorem dX5_copy_22 : decode cX5_copy 22 = .ok (.invokevirtual 38, 3) := by decide +kernel
theorem dX5_copy_25 : decode cX5_copy 25 = .ok (.iinc 2 1, 3) := by decide +kernel
theorem dX5_copy_28 : decode cX5_copy 28 = .ok (.goto (-26), 3) := by decide +kernel
theorem dX5_copy_31 : decode cX5_copy 31 = .ok (.aload_n 0, 1) := by decide +kernel
theorem dX5_copy_32 : decode cX5_copy 32 = .ok (.aload_n 1, 1) := by decide +kernel
theorem dX5_copy_33 : decode cX5_copy 33 = .ok (.getfield 35, 3) := by decide +kernel
theorem dX5_copy_36 : decode cX5_copy 36 = .ok (.putfield 35, 3) := by decide +kernel
theorem dX5_copy_39 : decode cX5_copy 39 = .ok (.aload_n 0, 1) := by decide +kernel
theorem dX5_copy_40 : decode cX5_copy 40 = .ok (.aload_n 1, 1) := by decide +kernel
theorem dX5_copy_41 : decode cX5_copy 41 = .ok (.getfield 42, 3) := by decide +kernel
theorem dX5_copy_44 : decode cX5_copy 44 = .ok (.putfield 42, 3) := by decide +kernel
theorem dX5_copy_47 : decode cX5_copy 47 = .ok (.aload_n 0, 1) := by decide +kernel
theorem dX5_copy_48 : decode cX5_copy 48 = .ok (.aload_n 1, 1) := by decide +kernel
theorem dX5_copy_49 : decode cX5_copy 49 = .ok (.getfield 22, 3) := by decide +kernel
theorem dX5_copy_52 : decode cX5_copy 52 = .ok (.putfield 22, 3) := by decide +kernel
theorem dX5_copy_55 : decode cX5_copy 55 = .ok (.aload_n 0, 1) := by decide +kernel
theorem dX5_copy_56 : decode cX5_copy 56 = .ok (.aload_n 1, 1) := by decide +kernel
theorem dX5_copy_57 : decode cX5_copy 57 = .ok (.getfield 26, 3) := by decide +kernel
theorem dX5_copy_60 : decode cX5_copy 60 = .ok (.putfield 26, 3) := by decide +kernel
theorem dX5_copy_63 : decode cX5_copy 63 = .ok (.aload_n 0, 1) := by decide +kernel
theorem dX5_copy_64 : decode cX5_copy 64 = .ok (.aload_n 1, 1) := by decide +kernel
theorem dX5_copy_65 : decode cX5_copy 65 = .ok (.getfield 45, 3) := by decide +kernel
theorem dX5_copy_68 : decode cX5_copy 68 = .ok (.putfield 45, 3) := by decide +kernel
theorem dX5_copy_71 : decode cX5_copy 71 = .ok (.aload_n 0, 1) := by decide +kernel
theorem dX5_copy_72 : decode cX5_copy 72 = .ok (.aload_n 1, 1) := by decide +kernel
theorem dX5_copy_73 : decode cX5_copy 73 = .ok (.getfield 29, 3) := by decide +kernel
theorem dX5_copy_76 : decode cX5_copy 76 = .ok (.putfield 29, 3) := by decide +kernel
theorem dX5_copy_79 : decode cX5_copy 79 = .ok (.aload_n 0, 1) := by decide +kernel
theorem dX5_copy_80 : decode cX5_copy 80 = .ok (.aload_n 1, 1) := by decide +kernel
theorem dX5_copy_81 : decode cX5_copy 81 = .ok (.getfield 48, 3) := by decide +kernel
theorem dX5_copy_84 : decode cX5_copy 84 = .ok (.putfield 48, 3) := by decide +kernel
theorem dX5_copy_87 : decode cX5_copy 87 = .ok (.aload_n 0, 1) := by decide +kernel
theorem dX5_copy_88 : decode cX5_copy 88 = .ok (.aload_n 1, 1) := by decide +kernel
theorem dX5_copy_89 : decode cX5_copy 89 = .ok (.getfield 32, 3) := by decide +kernel
theorem dX5_copy_92 : decode cX5_copy 92 = .ok (.putfield 32, 3) := by decide +kernel
theorem dX5_copy_95 : decode cX5_copy 95 = .ok (.return_, 1) := by decide +kernel
theorem dX5_layBack_0 : decode cX5_layBack 0 = .ok (.iconst 0, 1) := by decide +kernel
theorem dX5_layBack_1 : decode cX5_layBack 1 = .ok (.istore_n 2, 1) := by decide +kernel
theorem dX5_layBack_2 : decode cX5_layBack 2 = .ok (.iload_n 2, 1) := by decide +kernel
theorem dX5_layBack_3 : decode cX5_layBack 3 = .ok (.aload_n 1, 1) := by decide +kernel
theorem dX5_layBack_4 : decode cX5_layBack 4 = .ok (.getfield 35, 3) := by decide +kernel
theorem dX5_layBack_7 : decode cX5_layBack 7 = .ok (.if_icmp .ge 32, 3) := by decide +kernel
theorem dX5_layBack_10 : decode cX5_layBack 10 = .ok (.iload_n 2, 1) := by decide +kernel
theorem dX5_layBack_11 : decode cX5_layBack 11 = .ok (.aload_n 0, 1) := by decide +kernel
theorem dX5_layBack_12 : decode cX5_layBack 12 = .ok (.getfield 35, 3) := by decide +kernel
theorem dX5_layBack_15 : decode cX5_layBack 15 = .ok (.if_icmp .ge 24, 3) := by decide +kernel
theorem dX5_layBack_18 : decode cX5_layBack 18 = .ok (.aload_n 0, 1) := by decide +kernel
theorem dX5_layBack_19 : decode cX5_layBack 19 = .ok (.getfield 17, 3) := by decide +kernel
theorem dX5_layBack_22 : decode cX5_layBack 22 = .ok (.iload_n 2, 1) := by decide +kernel
theorem dX5_layBack_23 : decode cX5_layBack 23 = .ok (.aaload, 1) := by decide +kernel
theorem dX5_layBack_24 : decode cX5_layBack 24 = .ok (.aload_n 1, 1) := by decide +kernel
theorem dX5_layBack_25 : decode cX5_layBack 25 = .ok (.getfield 17, 3) := by decide +kernel
theorem dX5_layBack_28 : decode cX5_layBack 28 = .ok (.iload_n 2, 1) := by decide +kernel
theorem dX5_layBack_29 : decode cX5_layBack 29 = .ok (.aaload, 1) := by decide +kernel
theorem dX5_layBack_30 : decode cX5_layBack 30 = .ok (.invokevirtual 51, 3) := by decide +kernel
theorem dX5_layBack_33 : decode cX5_layBack 33 = .ok (.iinc 2 1, 3) := by decide +kernel
theorem dX5_layBack_36 : decode cX5_layBack 36 = .ok (.goto (-34), 3) := by decide +kernel
theorem dX5_layBack_39 : decode cX5_layBack 39 = .ok (.aload_n 0, 1) := by decide +kernel
theorem dX5_layBack_40 : decode cX5_layBack 40 = .ok (.aload_n 1, 1) := by decide +kernel
theorem dX5_layBack_41 : decode cX5_layBack 41 = .ok (.getfield 42, 3) := by decide +kernel
theorem dX5_layBack_44 : decode cX5_layBack 44 = .ok (.putfield 42, 3) := by decide +kernel
theorem dX5_layBack_47 : decode cX5_layBack 47 = .ok (.aload_n 0, 1) := by decide +kernel
theorem dX5_layBack_48 : decode cX5_layBack 48 = .ok (.aload_n 1, 1) := by decide +kernel
theorem dX5_layBack_49 : decode cX5_layBack 49 = .ok (.getfield 48, 3) := by decide +kernel
theorem dX5_layBack_52 : decode cX5_layBack 52 = .ok (.putfield 48, 3) := by decide +kernel
theorem dX5_layBack_55 : decode cX5_layBack 55 = .ok (.aload_n 0, 1) := by decide +kernel
theorem dX5_layBack_56 : decode cX5_layBack 56 = .ok (.aload_n 1, 1) := by decide +kernel
theorem dX5_layBack_57 : decode cX5_layBack 57 = .ok (.getfield 32, 3) := by decide +kernel
theorem dX5_layBack_60 : decode cX5_layBack 60 = .ok (.putfield 32, 3) := by decide +kernel
theorem dX5_layBack_63 : decode cX5_layBack 63 = .ok (.return_, 1) := by decide +kernel
theorem dX5_has_0 : decode cX5_has 0 = .ok (.iload_n 1, 1) := by decide +kernel
theorem dX5_has_1 : decode cX5_has 1 = .ok (.ifCond .lt 15, 3) := by decide +kernel
theorem dX5_has_4 : decode cX5_has 4 = .ok (.iload_n 1, 1) := by decide +kernel
theorem dX5_has_5 : decode cX5_has 5 = .ok (.aload_n 0, 1) := by decide +kernel
theorem dX5_has_6 : decode cX5_has 6 = .ok (.getfield 35, 3) := by decide +kernel
theorem dX5_has_9 : decode cX5_has 9 = .ok (.if_icmp .ge 7, 3) := by decide +kernel
theorem dX5_has_12 : decode cX5_has 12 = .ok (.iconst 1, 1) := by decide +kernel
theorem dX5_has_13 : decode cX5_has 13 = .ok (.goto 4, 3) := by decide +kernel
theorem dX5_has_16 : decode cX5_has 16 = .ok (.iconst 0, 1) := by decide +kernel
theorem dX5_has_17 : decode cX5_has 17 = .ok (.ireturn, 1) := by decide +kernel
theorem dX5_isFull_0 : decode cX5_isFull 0 = .ok (.aload_n 0, 1) := by decide +kernel
theorem dX5_isFull_1 : decode cX5_isFull 1 = .ok (.getfield 35, 3) := by decide +kernel
theorem dX5_isFull_4 : decode cX5_isFull 4 = .ok (.iconst 5, 1) := by decide +kernel
theorem dX5_isFull_5 : decode cX5_isFull 5 = .ok (.if_icmp .lt 7, 3) := by decide +kernel
theorem dX5_isFull_8 : decode cX5_isFull 8 = .ok (.iconst 1, 1) := by decide +kernel
theorem dX5_isFull_9 : decode cX5_isFull 9 = .ok (.goto 4, 3) := by decide +kernel
theorem dX5_isFull_12 : decode cX5_isFull 12 = .ok (.iconst 0, 1) := by decide +kernel
theorem dX5_isFull_13 : decode cX5_isFull 13 = .ok (.ireturn, 1) := by decide +kernel
theorem dX5_addHoop_0 : decode cX5_addHoop 0 = .ok (.aload_n 0, 1) := by decide +kernel
theorem dX5_addHoop_1 : decode cX5_addHoop 1 = .ok (.invokevirtual 54, 3) := by decide +kernel
theorem dX5_addHoop_4 : decode cX5_addHoop 4 = .ok (.ifCond .eq 6, 3) := by decide +kernel
theorem dX5_addHoop_7 : decode cX5_addHoop 7 = .ok (.bipush (-3), 2) := by decide +kernel
theorem dX5_addHoop_9 : decode cX5_addHoop 9 = .ok (.ireturn, 1) := by decide +kernel
theorem dX5_addHoop_10 : decode cX5_addHoop 10 = .ok (.aload_n 0, 1) := by decide +kernel
theorem dX5_addHoop_11 : decode cX5_addHoop 11 = .ok (.getfield 17, 3) := by decide +kernel
theorem dX5_addHoop_14 : decode cX5_addHoop 14 = .ok (.aload_n 0, 1) := by decide +kernel
theorem dX5_addHoop_15 : decode cX5_addHoop 15 = .ok (.getfield 35, 3) := by decide +kernel
theorem dX5_addHoop_18 : decode cX5_addHoop 18 = .ok (.aaload, 1) := by decide +kernel
theorem dX5_addHoop_19 : decode cX5_addHoop 19 = .ok (.astore 4, 2) := by decide +kernel
theorem dX5_addHoop_21 : decode cX5_addHoop 21 = .ok (.aload 4, 2) := by decide +kernel
theorem dX5_addHoop_23 : decode cX5_addHoop 23 = .ok (.iload_n 1, 1) := by decide +kernel
theorem dX5_addHoop_24 : decode cX5_addHoop 24 = .ok (.putfield 58, 3) := by decide +kernel
theorem dX5_addHoop_27 : decode cX5_addHoop 27 = .ok (.aload 4, 2) := by decide +kernel
theorem dX5_addHoop_29 : decode cX5_addHoop 29 = .ok (.iload_n 2, 1) := by decide +kernel
theorem dX5_addHoop_30 : decode cX5_addHoop 30 = .ok (.putfield 61, 3) := by decide +kernel
theorem dX5_addHoop_33 : decode cX5_addHoop 33 = .ok (.aload 4, 2) := by decide +kernel
theorem dX5_addHoop_35 : decode cX5_addHoop 35 = .ok (.invokevirtual 64, 3) := by decide +kernel
theorem dX5_addHoop_38 : decode cX5_addHoop 38 = .ok (.aload 4, 2) := by decide +kernel
theorem dX5_addHoop_40 : decode cX5_addHoop 40 = .ok (.iload_n 3, 1) := by decide +kernel
theorem dX5_addHoop_41 : decode cX5_addHoop 41 = .ok (.putfield 67, 3) := by decide +kernel
theorem dX5_addHoop_44 : decode cX5_addHoop 44 = .ok (.aload_n 0, 1) := by decide +kernel
theorem dX5_addHoop_45 : decode cX5_addHoop 45 = .ok (.dup, 1) := by decide +kernel
theorem dX5_addHoop_46 : decode cX5_addHoop 46 = .ok (.getfield 35, 3) := by decide +kernel
theorem dX5_addHoop_49 : decode cX5_addHoop 49 = .ok (.iconst 1, 1) := by decide +kernel
theorem dX5_addHoop_50 : decode cX5_addHoop 50 = .ok (.iadd, 1) := by decide +kernel
theorem dX5_addHoop_51 : decode cX5_addHoop 51 = .ok (.putfield 35, 3) := by decide +kernel
theorem dX5_addHoop_54 : decode cX5_addHoop 54 = .ok (.aload_n 0, 1) := by decide +kernel
theorem dX5_addHoop_55 : decode cX5_addHoop 55 = .ok (.getfield 35, 3) := by decide +kernel
theorem dX5_addHoop_58 : decode cX5_addHoop 58 = .ok (.iconst 1, 1) := by decide +kernel
theorem dX5_addHoop_59 : decode cX5_addHoop 59 = .ok (.isub, 1) := by decide +kernel
theorem dX5_addHoop_60 : decode cX5_addHoop 60 = .ok (.ireturn, 1) := by decide +kernel
theorem dX5_upright_0 : decode cX5_upright 0 = .ok (.iconst 0, 1) := by decide +kernel
theorem dX5_upright_1 : decode cX5_upright 1 = .ok (.istore_n 1, 1) := by decide +kernel
theorem dX5_upright_2 : decode cX5_upright 2 = .ok (.iconst 0, 1) := by decide +kernel
theorem dX5_upright_3 : decode cX5_upright 3 = .ok (.istore_n 2, 1) := by decide +kernel
theorem dX5_upright_4 : decode cX5_upright 4 = .ok (.iload_n 2, 1) := by decide +kernel
theorem dX5_upright_5 : decode cX5_upright 5 = .ok (.aload_n 0, 1) := by decide +kernel
theorem dX5_upright_6 : decode cX5_upright 6 = .ok (.getfield 35, 3) := by decide +kernel
theorem dX5_upright_9 : decode cX5_upright 9 = .ok (.if_icmp .ge 24, 3) := by decide +kernel
theorem dX5_upright_12 : decode cX5_upright 12 = .ok (.aload_n 0, 1) := by decide +kernel
theorem dX5_upright_13 : decode cX5_upright 13 = .ok (.getfield 17, 3) := by decide +kernel
theorem dX5_upright_16 : decode cX5_upright 16 = .ok (.iload_n 2, 1) := by decide +kernel
theorem dX5_upright_17 : decode cX5_upright 17 = .ok (.aaload, 1) := by decide +kernel
theorem dX5_upright_18 : decode cX5_upright 18 = .ok (.invokevirtual 70, 3) := by decide +kernel
theorem dX5_upright_21 : decode cX5_upright 21 = .ok (.ifCond .ne 6, 3) := by decide +kernel
theorem dX5_upright_24 : decode cX5_upright 24 = .ok (.iinc 1 1, 3) := by decide +kernel
theorem dX5_upright_27 : decode cX5_upright 27 = .ok (.iinc 2 1, 3) := by decide +kernel
theorem dX5_upright_30 : decode cX5_upright 30 = .ok (.goto (-26), 3) := by decide +kernel
theorem dX5_upright_33 : decode cX5_upright 33 = .ok (.iload_n 1, 1) := by decide +kernel
theorem dX5_upright_34 : decode cX5_upright 34 = .ok (.ireturn, 1) := by decide +kernel
theorem dX5_allUp_0 : decode cX5_allUp 0 = .ok (.iconst 0, 1) := by decide +kernel
theorem dX5_allUp_1 : decode cX5_allUp 1 = .ok (.istore_n 2, 1) := by decide +kernel
theorem dX5_allUp_2 : decode cX5_allUp 2 = .ok (.iload_n 2, 1) := by decide +kernel
theorem dX5_allUp_3 : decode cX5_allUp 3 = .ok (.aload_n 0, 1) := by decide +kernel
theorem dX5_allUp_4 : decode cX5_allUp 4 = .ok (.getfield 35, 3) := by decide +kernel
theorem dX5_allUp_7 : decode cX5_allUp 7 = .ok (.if_icmp .ge 32, 3) := by decide +kernel
theorem dX5_allUp_10 : decode cX5_allUp 10 = .ok (.iload_n 1, 1) := by decide +kernel
theorem dX5_allUp_11 : decode cX5_allUp 11 = .ok (.iload_n 2, 1) := by decide +kernel
theorem dX5_allUp_12 : decode cX5_allUp 12 = .ok (.ishr, 1) := by decide +kernel
theorem dX5_allUp_13 : decode cX5_allUp 13 = .ok (.iconst 1, 1) := by decide +kernel
theorem dX5_allUp_14 : decode cX5_allUp 14 = .ok (.iand, 1) := by decide +kernel
theorem dX5_allUp_15 : decode cX5_allUp 15 = .ok (.iconst 1, 1) := by decide +kernel
theorem dX5_allUp_16 : decode cX5_allUp 16 = .ok (.if_icmp .ne 17, 3) := by decide +kernel
theorem dX5_allUp_19 : decode cX5_allUp 19 = .ok (.aload_n 0, 1) := by decide +kernel
theorem dX5_allUp_20 : decode cX5_allUp 20 = .ok (.getfield 17, 3) := by decide +kernel
theorem dX5_allUp_23 : decode cX5_allUp 23 = .ok (.iload_n 2, 1) := by decide +kernel
theorem dX5_allUp_24 : decode cX5_allUp 24 = .ok (.aaload, 1) := by decide +kernel
theorem dX5_allUp_25 : decode cX5_allUp 25 = .ok (.invokevirtual 70, 3) := by decide +kernel
theorem dX5_allUp_28 : decode cX5_allUp 28 = .ok (.ifCond .eq 5, 3) := by decide +kernel
theorem dX5_allUp_31 : decode cX5_allUp 31 = .ok (.iconst 0, 1) := by decide +kernel
theorem dX5_allUp_32 : decode cX5_allUp 32 = .ok (.ireturn, 1) := by decide +kernel
theorem dX5_allUp_33 : decode cX5_allUp 33 = .ok (.iinc 2 1, 3) := by decide +kernel
theorem dX5_allUp_36 : decode cX5_allUp 36 = .ok (.goto (-34), 3) := by decide +kernel
theorem dX5_allUp_39 : decode cX5_allUp 39 = .ok (.iconst 1, 1) := by decide +kernel
theorem dX5_allUp_40 : decode cX5_allUp 40 = .ok (.ireturn, 1) := by decide +kernel
theorem dX5_allHighest_0 : decode cX5_allHighest 0 = .ok (.iconst 0, 1) := by decide +kernel
theorem dX5_allHighest_1 : decode cX5_allHighest 1 = .ok (.istore_n 1, 1) := by decide +kernel
theorem dX5_allHighest_2 : decode cX5_allHighest 2 = .ok (.iload_n 1, 1) := by decide +kernel
theorem dX5_allHighest_3 : decode cX5_allHighest 3 = .ok (.aload_n 0, 1) := by decide +kernel
theorem dX5_allHighest_4 : decode cX5_allHighest 4 = .ok (.getfield 35, 3) := by decide +kernel
theorem dX5_allHighest_7 : decode cX5_allHighest 7 = .ok (.if_icmp .ge 25, 3) := by decide +kernel
theorem dX5_allHighest_10 : decode cX5_allHighest 10 = .ok (.aload_n 0, 1) := by decide +kernel
theorem dX5_allHighest_11 : decode cX5_allHighest 11 = .ok (.getfield 17, 3) := by decide +kernel
theorem dX5_allHighest_14 : decode cX5_allHighest 14 = .ok (.iload_n 1, 1) := by decide +kernel
theorem dX5_allHighest_15 : decode cX5_allHighest 15 = .ok (.aaload, 1) := by decide +kernel
theorem dX5_allHighest_16 : decode cX5_allHighest 16 = .ok (.getfield 73, 3) := by decide +kernel
theorem dX5_allHighest_19 : decode cX5_allHighest 19 = .ok (.bipush 20, 2) := by decide +kernel
theorem dX5_allHighest_21 : decode cX5_allHighest 21 = .ok (.if_icmp .ge 5, 3) := by decide +kernel
theorem dX5_allHighest_24 : decode cX5_allHighest 24 = .ok (.iconst 0, 1) := by decide +kernel
theorem dX5_allHighest_25 : decode cX5_allHighest 25 = .ok (.ireturn, 1) := by decide +kernel
theorem dX5_allHighest_26 : decode cX5_allHighest 26 = .ok (.iinc 1 1, 3) := by decide +kernel
theorem dX5_allHighest_29 : decode cX5_allHighest 29 = .ok (.goto (-27), 3) := by decide +kernel
theorem dX5_allHighest_32 : decode cX5_allHighest 32 = .ok (.iconst 1, 1) := by decide +kernel
theorem dX5_allHighest_33 : decode cX5_allHighest 33 = .ok (.ireturn, 1) := by decide +kernel
theorem dX5_layAllBut_0 : decode cX5_layAllBut 0 = .ok (.iconst 0, 1) := by decide +kernel
theorem dX5_layAllBut_1 : decode cX5_layAllBut 1 = .ok (.istore_n 2, 1) := by decide +kernel
theorem dX5_layAllBut_2 : decode cX5_layAllBut 2 = .ok (.iload_n 2, 1) := by decide +kernel
theorem dX5_layAllBut_3 : decode cX5_layAllBut 3 = .ok (.aload_n 0, 1) := by decide +kernel
theorem dX5_layAllBut_4 : decode cX5_layAllBut 4 = .ok (.getfield 35, 3) := by decide +kernel
theorem dX5_layAllBut_7 : decode cX5_layAllBut 7 = .ok (.if_icmp .ge 26, 3) := by decide +kernel
theorem dX5_layAllBut_10 : decode cX5_layAllBut 10 = .ok (.iload_n 1, 1) := by decide +kernel
theorem dX5_layAllBut_11 : decode cX5_layAllBut 11 = .ok (.iload_n 2, 1) := by decide +kernel
theorem dX5_layAllBut_12 : decode cX5_layAllBut 12 = .ok (.ishr, 1) := by decide +kernel
theorem dX5_layAllBut_13 : decode cX5_layAllBut 13 = .ok (.iconst 1, 1) := by decide +kernel
theorem dX5_layAllBut_14 : decode cX5_layAllBut 14 = .ok (.iand, 1) := by decide +kernel
theorem dX5_layAllBut_15 : decode cX5_layAllBut 15 = .ok (.ifCond .ne 12, 3) := by decide +kernel
theorem dX5_layAllBut_18 : decode cX5_layAllBut 18 = .ok (.aload_n 0, 1) := by decide +kernel
theorem dX5_layAllBut_19 : decode cX5_layAllBut 19 = .ok (.getfield 17, 3) := by decide +kernel
theorem dX5_layAllBut_22 : decode cX5_layAllBut 22 = .ok (.iload_n 2, 1) := by decide +kernel
theorem dX5_layAllBut_23 : decode cX5_layAllBut 23 = .ok (.aaload, 1) := by decide +kernel
theorem dX5_layAllBut_24 : decode cX5_layAllBut 24 = .ok (.invokevirtual 76, 3) := by decide +kernel
theorem dX5_layAllBut_27 : decode cX5_layAllBut 27 = .ok (.iinc 2 1, 3) := by decide +kernel
theorem dX5_layAllBut_30 : decode cX5_layAllBut 30 = .ok (.goto (-28), 3) := by decide +kernel
theorem dX5_layAllBut_33 : decode cX5_layAllBut 33 = .ok (.return_, 1) := by decide +kernel
theorem dX5_isPushDue_0 : decode cX5_isPushDue 0 = .ok (.aload_n 0, 1) := by decide +kernel
theorem dX5_isPushDue_1 : decode cX5_isPushDue 1 = .ok (.getfield 42, 3) := by decide +kernel
theorem dX5_isPushDue_4 : decode cX5_isPushDue 4 = .ok (.aload_n 0, 1) := by decide +kernel
theorem dX5_isPushDue_5 : decode cX5_isPushDue 5 = .ok (.getfield 26, 3) := by decide +kernel
theorem dX5_isPushDue_8 : decode cX5_isPushDue 8 = .ok (.invokestatic 79, 3) := by decide +kernel
theorem dX5_isPushDue_11 : decode cX5_isPushDue 11 = .ok (.aload_n 0, 1) := by decide +kernel
theorem dX5_isPushDue_12 : decode cX5_isPushDue 12 = .ok (.getfield 45, 3) := by decide +kernel
theorem dX5_isPushDue_15 : decode cX5_isPushDue 15 = .ok (.aload_n 0, 1) := by decide +kernel
theorem dX5_isPushDue_16 : decode cX5_isPushDue 16 = .ok (.getfield 26, 3) := by decide +kernel
theorem dX5_isPushDue_19 : decode cX5_isPushDue 19 = .ok (.invokestatic 79, 3) := by decide +kernel
theorem dX5_isPushDue_22 : decode cX5_isPushDue 22 = .ok (.if_icmp .ne 7, 3) := by decide +kernel
theorem dX5_isPushDue_25 : decode cX5_isPushDue 25 = .ok (.iconst 1, 1) := by decide +kernel
theorem dX5_isPushDue_26 : decode cX5_isPushDue 26 = .ok (.goto 4, 3) := by decide +kernel
theorem dX5_isPushDue_29 : decode cX5_isPushDue 29 = .ok (.iconst 0, 1) := by decide +kernel
theorem dX5_isPushDue_30 : decode cX5_isPushDue 30 = .ok (.ireturn, 1) := by decide +kernel
theorem dX5_goalInTurn_0 : decode cX5_goalInTurn 0 = .ok (.aload_n 0, 1) := by decide +kernel
theorem dX5_goalInTurn_1 : decode cX5_goalInTurn 1 = .ok (.getfield 26, 3) := by decide +kernel
theorem dX5_goalInTurn_4 : decode cX5_goalInTurn 4 = .ok (.ifCond .ne 7, 3) := by decide +kernel
theorem dX5_goalInTurn_7 : decode cX5_goalInTurn 7 = .ok (.iconst 0, 1) := by decide +kernel
theorem dX5_goalInTurn_8 : decode cX5_goalInTurn 8 = .ok (.goto 12, 3) := by decide +kernel
theorem dX5_goalInTurn_11 : decode cX5_goalInTurn 11 = .ok (.aload_n 0, 1) := by decide +kernel
theorem dX5_goalInTurn_12 : decode cX5_goalInTurn 12 = .ok (.getfield 42, 3) := by decide +kernel
theorem dX5_goalInTurn_15 : decode cX5_goalInTurn 15 = .ok (.aload_n 0, 1) := by decide +kernel
theorem dX5_goalInTurn_16 : decode cX5_goalInTurn 16 = .ok (.getfield 26, 3) := by decide +kernel
theorem dX5_goalInTurn_19 : decode cX5_goalInTurn 19 = .ok (.idiv, 1) := by decide +kernel
theorem dX5_goalInTurn_20 : decode cX5_goalInTurn 20 = .ok (.invokestatic 83, 3) := by decide +kernel
theorem dX5_goalInTurn_23 : decode cX5_goalInTurn 23 = .ok (.ireturn, 1) := by decide +kernel
theorem dX5_tick_0 : decode cX5_tick 0 = .ok (.aload_n 0, 1) := by decide +kernel
theorem dX5_tick_1 : decode cX5_tick 1 = .ok (.invokevirtual 87, 3) := by decide +kernel
theorem dX5_tick_4 : decode cX5_tick 4 = .ok (.ifCond .eq 25, 3) := by decide +kernel
theorem dX5_tick_7 : decode cX5_tick 7 = .ok (.aload_n 0, 1) := by decide +kernel
theorem dX5_tick_8 : decode cX5_tick 8 = .ok (.aload_n 0, 1) := by decide +kernel
theorem dX5_tick_9 : decode cX5_tick 9 = .ok (.getfield 29, 3) := by decide +kernel
theorem dX5_tick_12 : decode cX5_tick 12 = .ok (.aload_n 0, 1) := by decide +kernel
theorem dX5_tick_13 : decode cX5_tick 13 = .ok (.invokevirtual 90, 3) := by decide +kernel
theorem dX5_tick_16 : decode cX5_tick 16 = .ok (.invokevirtual 94, 3) := by decide +kernel
theorem dX5_tick_19 : decode cX5_tick 19 = .ok (.aload_n 0, 1) := by decide +kernel
theorem dX5_tick_20 : decode cX5_tick 20 = .ok (.dup, 1) := by decide +kernel
theorem dX5_tick_21 : decode cX5_tick 21 = .ok (.getfield 48, 3) := by decide +kernel
theorem dX5_tick_24 : decode cX5_tick 24 = .ok (.iconst 1, 1) := by decide +kernel
theorem dX5_tick_25 : decode cX5_tick 25 = .ok (.iadd, 1) := by decide +kernel
theorem dX5_tick_26 : decode cX5_tick 26 = .ok (.putfield 48, 3) := by decide +kernel
theorem dX5_tick_29 : decode cX5_tick 29 = .ok (.aload_n 0, 1) := by decide +kernel
theorem dX5_tick_30 : decode cX5_tick 30 = .ok (.invokevirtual 98, 3) := by decide +kernel
theorem dX5_tick_33 : decode cX5_tick 33 = .ok (.return_, 1) := by decide +kernel
theorem dX5_push_0 : decode cX5_push 0 = .ok (.iconst 0, 1) := by decide +kernel
theorem dX5_push_1 : decode cX5_push 1 = .ok (.istore_n 3, 1) := by decide +kernel
theorem dX5_push_2 : decode cX5_push 2 = .ok (.iload_n 3, 1) := by decide +kernel
theorem dX5_push_3 : decode cX5_push 3 = .ok (.aload_n 0, 1) := by decide +kernel
theorem dX5_push_4 : decode cX5_push 4 = .ok (.getfield 35, 3) := by decide +kernel
theorem dX5_push_7 : decode cX5_push 7 = .ok (.if_icmp .ge 45, 3) := by decide +kernel
theorem dX5_push_10 : decode cX5_push 10 = .ok (.aload_n 0, 1) := by decide +kernel
theorem dX5_push_11 : decode cX5_push 11 = .ok (.getfield 17, 3) := by decide +kernel
theorem dX5_push_14 : decode cX5_push 14 = .ok (.iload_n 3, 1) := by decide +kernel
theorem dX5_push_15 : decode cX5_push 15 = .ok (.aaload, 1) := by decide +kernel
theorem dX5_push_16 : decode cX5_push 16 = .ok (.invokevirtual 70, 3) := by decide +kernel
theorem dX5_push_19 : decode cX5_push 19 = .ok (.ifCond .ne 27, 3) := by decide +kernel
theorem dX5_push_22 : decode cX5_push 22 = .ok (.aload_n 0, 1) := by decide +kernel
theorem dX5_push_23 : decode cX5_push 23 = .ok (.getfield 17, 3) := by decide +kernel
theorem dX5_push_26 : decode cX5_push 26 = .ok (.iload_n 3, 1) := by decide +kernel
theorem dX5_push_27 : decode cX5_push 27 = .ok (.aaload, 1) := by decide +kernel
theorem dX5_push_28 : decode cX5_push 28 = .ok (.aload_n 0, 1) := by decide +kernel
theorem dX5_push_29 : decode cX5_push 29 = .ok (.getfield 9, 3) := by decide +kernel
theorem dX5_push_32 : decode cX5_push 32 = .ok (.aload_n 0, 1) := by decide +kernel
theorem dX5_push_33 : decode cX5_push 33 = .ok (.getfield 17, 3) := by decide +kernel
theorem dX5_push_36 : decode cX5_push 36 = .ok (.iload_n 3, 1) := by decide +kernel
theorem dX5_push_37 : decode cX5_push 37 = .ok (.aaload, 1) := by decide +kernel
theorem dX5_push_38 : decode cX5_push 38 = .ok (.iload_n 2, 1) := by decide +kernel
theorem dX5_push_39 : decode cX5_push 39 = .ok (.iload_n 1, 1) := by decide +kernel
theorem dX5_push_40 : decode cX5_push 40 = .ok (.invokevirtual 101, 3) := by decide +kernel
theorem dX5_push_43 : decode cX5_push 43 = .ok (.invokevirtual 107, 3) := by decide +kernel
theorem dX5_push_46 : decode cX5_push 46 = .ok (.iinc 3 1, 3) := by decide +kernel
theorem dX5_push_49 : decode cX5_push 49 = .ok (.goto (-47), 3) := by decide +kernel
theorem dX5_push_52 : decode cX5_push 52 = .ok (.return_, 1) := by decide +kernel
theorem dX5_settle_0 : decode cX5_settle 0 = .ok (.iconst 0, 1) := by decide +kernel
theorem dX5_settle_1 : decode cX5_settle 1 = .ok (.istore_n 1, 1) := by decide +kernel
theorem dX5_settle_2 : decode cX5_settle 2 = .ok (.iload_n 1, 1) := by decide +kernel
theorem dX5_settle_3 : decode cX5_settle 3 = .ok (.aload_n 0, 1) := by decide +kernel
theorem dX5_settle_4 : decode cX5_settle 4 = .ok (.getfield 35, 3) := by decide +kernel
theorem dX5_settle_7 : decode cX5_settle 7 = .ok (.if_icmp .ge 53, 3) := by decide +kernel
theorem dX5_settle_10 : decode cX5_settle 10 = .ok (.aload_n 0, 1) := by decide +kernel
theorem dX5_settle_11 : decode cX5_settle 11 = .ok (.getfield 42, 3) := by decide +kernel
theorem dX5_settle_14 : decode cX5_settle 14 = .ok (.iconst 1, 1) := by decide +kernel
theorem dX5_settle_15 : decode cX5_settle 15 = .ok (.iadd, 1) := by decide +kernel
theorem dX5_settle_16 : decode cX5_settle 16 = .ok (.aload_n 0, 1) := by decide +kernel
theorem dX5_settle_17 : decode cX5_settle 17 = .ok (.getfield 17, 3) := by decide +kernel
theorem dX5_settle_20 : decode cX5_settle 20 = .ok (.iload_n 1, 1) := by decide +kernel
theorem dX5_settle_21 : decode cX5_settle 21 = .ok (.aaload, 1) := by decide +kernel
theorem dX5_settle_22 : decode cX5_settle 22 = .ok (.getfield 61, 3) := by decide +kernel
theorem dX5_settle_25 : decode cX5_settle 25 = .ok (.invokestatic 79, 3) := by decide +kernel
theorem dX5_settle_28 : decode cX5_settle 28 = .ok (.ifCond .ne 17, 3) := by decide +kernel
theorem dX5_settle_31 : decode cX5_settle 31 = .ok (.aload_n 0, 1) := by decide +kernel
theorem dX5_settle_32 : decode cX5_settle 32 = .ok (.getfield 17, 3) := by decide +kernel
theorem dX5_settle_35 : decode cX5_settle 35 = .ok (.iload_n 1, 1) := by decide +kernel
theorem dX5_settle_36 : decode cX5_settle 36 = .ok (.aaload, 1) := by decide +kernel
theorem dX5_settle_37 : decode cX5_settle 37 = .ok (.aload_n 0, 1) := by decide +kernel
theorem dX5_settle_38 : decode cX5_settle 38 = .ok (.getfield 22, 3) := by decide +kernel
theorem dX5_settle_41 : decode cX5_settle 41 = .ok (.ineg, 1) := by decide +kernel
theorem dX5_settle_42 : decode cX5_settle 42 = .ok (.invokevirtual 107, 3) := by decide +kernel
theorem dX5_settle_45 : decode cX5_settle 45 = .ok (.aload_n 0, 1) := by decide +kernel
theorem dX5_settle_46 : decode cX5_settle 46 = .ok (.getfield 17, 3) := by decide +kernel
theorem dX5_settle_49 : decode cX5_settle 49 = .ok (.iload_n 1, 1) := by decide +kernel
theorem dX5_settle_50 : decode cX5_settle 50 = .ok (.aaload, 1) := by decide +kernel
theorem dX5_settle_51 : decode cX5_settle 51 = .ok (.invokevirtual 111, 3) := by decide +kernel
theorem dX5_settle_54 : decode cX5_settle 54 = .ok (.iinc 1 1, 3) := by decide +kernel
theorem dX5_settle_57 : decode cX5_settle 57 = .ok (.goto (-55), 3) := by decide +kernel
theorem dX5_settle_60 : decode cX5_settle 60 = .ok (.aload_n 0, 1) := by decide +kernel
theorem dX5_settle_61 : decode cX5_settle 61 = .ok (.invokevirtual 114, 3) := by decide +kernel
theorem dX5_settle_64 : decode cX5_settle 64 = .ok (.iconst 0, 1) := by decide +kernel
theorem dX5_settle_65 : decode cX5_settle 65 = .ok (.istore_n 1, 1) := by decide +kernel
theorem dX5_settle_66 : decode cX5_settle 66 = .ok (.iload_n 1, 1) := by decide +kernel
theorem dX5_settle_67 : decode cX5_settle 67 = .ok (.aload_n 0, 1) := by decide +kernel
theorem dX5_settle_68 : decode cX5_settle 68 = .ok (.getfield 35, 3) := by decide +kernel
theorem dX5_settle_71 : decode cX5_settle 71 = .ok (.if_icmp .ge 29, 3) := by decide +kernel
theorem dX5_settle_74 : decode cX5_settle 74 = .ok (.aload_n 0, 1) := by decide +kernel
theorem dX5_settle_75 : decode cX5_settle 75 = .ok (.getfield 17, 3) := by decide +kernel
theorem dX5_settle_78 : decode cX5_settle 78 = .ok (.iload_n 1, 1) := by decide +kernel
theorem dX5_settle_79 : decode cX5_settle 79 = .ok (.aaload, 1) := by decide +kernel
theorem dX5_settle_80 : decode cX5_settle 80 = .ok (.invokevirtual 117, 3) := by decide +kernel
theorem dX5_settle_83 : decode cX5_settle 83 = .ok (.ifCond .eq 11, 3) := by decide +kernel
theorem dX5_settle_86 : decode cX5_settle 86 = .ok (.aload_n 0, 1) := by decide +kernel
theorem dX5_settle_87 : decode cX5_settle 87 = .ok (.aload_n 0, 1) := by decide +kernel
theorem dX5_settle_88 : decode cX5_settle 88 = .ok (.getfield 42, 3) := by decide +kernel
theorem dX5_settle_91 : decode cX5_settle 91 = .ok (.putfield 32, 3) := by decide +kernel
theorem dX5_settle_94 : decode cX5_settle 94 = .ok (.iinc 1 1, 3) := by decide +kernel
theorem dX5_settle_97 : decode cX5_settle 97 = .ok (.goto (-31), 3) := by decide +kernel
theorem dX5_settle_100 : decode cX5_settle 100 = .ok (.aload_n 0, 1) := by decide +kernel
theorem dX5_settle_101 : decode cX5_settle 101 = .ok (.dup, 1) := by decide +kernel
theorem dX5_settle_102 : decode cX5_settle 102 = .ok (.getfield 42, 3) := by decide +kernel
theorem dX5_settle_105 : decode cX5_settle 105 = .ok (.iconst 1, 1) := by decide +kernel
theorem dX5_settle_106 : decode cX5_settle 106 = .ok (.iadd, 1) := by decide +kernel
theorem dX5_settle_107 : decode cX5_settle 107 = .ok (.putfield 42, 3) := by decide +kernel
theorem dX5_settle_110 : decode cX5_settle 110 = .ok (.return_, 1) := by decide +kernel
theorem dX5_cross_0 : decode cX5_cross 0 = .ok (.iconst 0, 1) := by decide +kernel
theorem dX5_cross_1 : decode cX5_cross 1 = .ok (.istore_n 1, 1) := by decide +kernel
theorem dX5_cross_2 : decode cX5_cross 2 = .ok (.iload_n 1, 1) := by decide +kernel
theorem dX5_cross_3 : decode cX5_cross 3 = .ok (.aload_n 0, 1) := by decide +kernel
theorem dX5_cross_4 : decode cX5_cross 4 = .ok (.getfield 35, 3) := by decide +kernel
theorem dX5_cross_7 : decode cX5_cross 7 = .ok (.if_icmp .ge 65, 3) := by decide +kernel
theorem dX5_cross_10 : decode cX5_cross 10 = .ok (.iload_n 1, 1) := by decide +kernel
theorem dX5_cross_11 : decode cX5_cross 11 = .ok (.iconst 1, 1) := by decide +kernel
theorem dX5_cross_12 : decode cX5_cross 12 = .ok (.iadd, 1) := by decide +kernel
theorem dX5_cross_13 : decode cX5_cross 13 = .ok (.istore_n 2, 1) := by decide +kernel
theorem dX5_cross_14 : decode cX5_cross 14 = .ok (.iload_n 2, 1) := by decide +kernel
theorem dX5_cross_15 : decode cX5_cross 15 = .ok (.aload_n 0, 1) := by decide +kernel
theorem dX5_cross_16 : decode cX5_cross 16 = .ok (.getfield 35, 3) := by decide +kernel
theorem dX5_cross_19 : decode cX5_cross 19 = .ok (.if_icmp .ge 47, 3) := by decide +kernel
theorem dX5_cross_22 : decode cX5_cross 22 = .ok (.aload_n 0, 1) := by decide +kernel
theorem dX5_cross_23 : decode cX5_cross 23 = .ok (.getfield 17, 3) := by decide +kernel
theorem dX5_cross_26 : decode cX5_cross 26 = .ok (.iload_n 1, 1) := by decide +kernel
theorem dX5_cross_27 : decode cX5_cross 27 = .ok (.aaload, 1) := by decide +kernel
theorem dX5_cross_28 : decode cX5_cross 28 = .ok (.aload_n 0, 1) := by decide +kernel
theorem dX5_cross_29 : decode cX5_cross 29 = .ok (.getfield 17, 3) := by decide +kernel
theorem dX5_cross_32 : decode cX5_cross 32 = .ok (.iload_n 2, 1) := by decide +kernel
theorem dX5_cross_33 : decode cX5_cross 33 = .ok (.aaload, 1) := by decide +kernel
theorem dX5_cross_34 : decode cX5_cross 34 = .ok (.invokestatic 120, 3) := by decide +kernel
theorem dX5_cross_37 : decode cX5_cross 37 = .ok (.ifCond .eq 23, 3) := by decide +kernel
theorem dX5_cross_40 : decode cX5_cross 40 = .ok (.aload_n 0, 1) := by decide +kernel
theorem dX5_cross_41 : decode cX5_cross 41 = .ok (.getfield 17, 3) := by decide +kernel
theorem dX5_cross_44 : decode cX5_cross 44 = .ok (.iload_n 1, 1) := by decide +kernel
theorem dX5_cross_45 : decode cX5_cross 45 = .ok (.aaload, 1) := by decide +kernel
theorem dX5_cross_46 : decode cX5_cross 46 = .ok (.iconst (-1), 1) := by decide +kernel
theorem dX5_cross_47 : decode cX5_cross 47 = .ok (.invokevirtual 107, 3) := by decide +kernel
theorem dX5_cross_50 : decode cX5_cross 50 = .ok (.aload_n 0, 1) := by decide +kernel
theorem dX5_cross_51 : decode cX5_cross 51 = .ok (.getfield 17, 3) := by decide +kernel
theorem dX5_cross_54 : decode cX5_cross 54 = .ok (.iload_n 2, 1) := by decide +kernel
theorem dX5_cross_55 : decode cX5_cross 55 = .ok (.aaload, 1) := by decide +kernel
theorem dX5_cross_56 : decode cX5_cross 56 = .ok (.iconst (-1), 1) := by decide +kernel
theorem dX5_cross_57 : decode cX5_cross 57 = .ok (.invokevirtual 107, 3) := by decide +kernel
theorem dX5_cross_60 : decode cX5_cross 60 = .ok (.iinc 2 1, 3) := by decide +kernel
theorem dX5_cross_63 : decode cX5_cross 63 = .ok (.goto (-49), 3) := by decide +kernel
theorem dX5_cross_66 : decode cX5_cross 66 = .ok (.iinc 1 1, 3) := by decide +kernel
theorem dX5_cross_69 : decode cX5_cross 69 = .ok (.goto (-67), 3) := by decide +kernel
theorem dX5_cross_72 : decode cX5_cross 72 = .ok (.return_, 1) := by decide +kernel
theorem dX5_areCrossed_0 : decode cX5_areCrossed 0 = .ok (.aload_n 0, 1) := by decide +kernel
theorem dX5_areCrossed_1 : decode cX5_areCrossed 1 = .ok (.invokevirtual 70, 3) := by decide +kernel
theorem dX5_areCrossed_4 : decode cX5_areCrossed 4 = .ok (.ifCond .ne 25, 3) := by decide +kernel
theorem dX5_areCrossed_7 : decode cX5_areCrossed 7 = .ok (.aload_n 1, 1) := by decide +kernel
theorem dX5_areCrossed_8 : decode cX5_areCrossed 8 = .ok (.invokevirtual 70, 3) := by decide +kernel
theorem dX5_areCrossed_11 : decode cX5_areCrossed 11 = .ok (.ifCond .ne 18, 3) := by decide +kernel
theorem dX5_areCrossed_14 : decode cX5_areCrossed 14 = .ok (.aload_n 0, 1) := by decide +kernel
theorem dX5_areCrossed_15 : decode cX5_areCrossed 15 = .ok (.getfield 124, 3) := by decide +kernel
theorem dX5_areCrossed_18 : decode cX5_areCrossed 18 = .ok (.aload_n 1, 1) := by decide +kernel
theorem dX5_areCrossed_19 : decode cX5_areCrossed 19 = .ok (.getfield 124, 3) := by decide +kernel
theorem dX5_areCrossed_22 : decode cX5_areCrossed 22 = .ok (.if_icmp .ne 7, 3) := by decide +kernel
theorem dX5_areCrossed_25 : decode cX5_areCrossed 25 = .ok (.iconst 1, 1) := by decide +kernel
theorem dX5_areCrossed_26 : decode cX5_areCrossed 26 = .ok (.goto 4, 3) := by decide +kernel
theorem dX5_areCrossed_29 : decode cX5_areCrossed 29 = .ok (.iconst 0, 1) := by decide +kernel
theorem dX5_areCrossed_30 : decode cX5_areCrossed 30 = .ok (.ireturn, 1) := by decide +kernel
theorem dX6_init_0 : decode cX6_init 0 = .ok (.aload_n 0, 1) := by decide +kernel
theorem dX6_init_1 : decode cX6_init 1 = .ok (.invokespecial 3, 3) := by decide +kernel
theorem dX6_init_4 : decode cX6_init 4 = .ok (.aload_n 0, 1) := by decide +kernel
theorem dX6_init_5 : decode cX6_init 5 = .ok (.bipush 60, 2) := by decide +kernel
theorem dX6_init_7 : decode cX6_init 7 = .ok (.newarray .long, 2) := by decide +kernel
theorem dX6_init_9 : decode cX6_init 9 = .ok (.putfield 9, 3) := by decide +kernel
theorem dX6_init_12 : decode cX6_init 12 = .ok (.return_, 1) := by decide +kernel
theorem dX6_isSort_0 : decode cX6_isSort 0 = .ok (.iload_n 0, 1) := by decide +kernel
theorem dX6_isSort_1 : decode cX6_isSort 1 = .ok (.ifCond .lt 12, 3) := by decide +kernel
theorem dX6_isSort_4 : decode cX6_isSort 4 = .ok (.iload_n 0, 1) := by decide +kernel
theorem dX6_isSort_5 : decode cX6_isSort 5 = .ok (.iconst 4, 1) := by decide +kernel
theorem dX6_isSort_6 : decode cX6_isSort 6 = .ok (.if_icmp .gt 7, 3) := by decide +kernel
theorem dX6_isSort_9 : decode cX6_isSort 9 = .ok (.iconst 1, 1) := by decide +kernel
theorem dX6_isSort_10 : decode cX6_isSort 10 = .ok (.goto 4, 3) := by decide +kernel
theorem dX6_isSort_13 : decode cX6_isSort 13 = .ok (.iconst 0, 1) := by decide +kernel
theorem dX6_isSort_14 : decode cX6_isSort 14 = .ok (.ireturn, 1) := by decide +kernel
theorem dX6_isEmpty_0 : decode cX6_isEmpty 0 = .ok (.aload_n 0, 1) := by decide +kernel
theorem dX6_isEmpty_1 : decode cX6_isEmpty 1 = .ok (.getfield 15, 3) := by decide +kernel
theorem dX6_isEmpty_4 : decode cX6_isEmpty 4 = .ok (.ifCond .ne 7, 3) := by decide +kernel
theorem dX6_isEmpty_7 : decode cX6_isEmpty 7 = .ok (.iconst 1, 1) := by decide +kernel
theorem dX6_isEmpty_8 : decode cX6_isEmpty 8 = .ok (.goto 4, 3) := by decide +kernel
theorem dX6_isEmpty_11 : decode cX6_isEmpty 11 = .ok (.iconst 0, 1) := by decide +kernel
theorem dX6_isEmpty_12 : decode cX6_isEmpty 12 = .ok (.ireturn, 1) := by decide +kernel
theorem dX6_isTurn_0 : decode cX6_isTurn 0 = .ok (.aload_n 0, 1) := by decide +kernel
theorem dX6_isTurn_1 : decode cX6_isTurn 1 = .ok (.getfield 15, 3) := by decide +kernel
theorem dX6_isTurn_4 : decode cX6_isTurn 4 = .ok (.iconst 1, 1) := by decide +kernel
theorem dX6_isTurn_5 : decode cX6_isTurn 5 = .ok (.if_icmp .ne 7, 3) := by decide +kernel
theorem dX6_isTurn_8 : decode cX6_isTurn 8 = .ok (.iconst 1, 1) := by decide +kernel
theorem dX6_isTurn_9 : decode cX6_isTurn 9 = .ok (.goto 4, 3) := by decide +kernel
theorem dX6_isTurn_12 : decode cX6_isTurn 12 = .ok (.iconst 0, 1) := by decide +kernel
theorem dX6_isTurn_13 : decode cX6_isTurn 13 = .ok (.ireturn, 1) := by decide +kernel
theorem dX6_isRow_0 : decode cX6_isRow 0 = .ok (.aload_n 0, 1) := by decide +kernel
theorem dX6_isRow_1 : decode cX6_isRow 1 = .ok (.getfield 15, 3) := by decide +kernel
theorem dX6_isRow_4 : decode cX6_isRow 4 = .ok (.iconst 2, 1) := by decide +kernel
theorem dX6_isRow_5 : decode cX6_isRow 5 = .ok (.if_icmp .ne 7, 3) := by decide +kernel
theorem dX6_isRow_8 : decode cX6_isRow 8 = .ok (.iconst 1, 1) := by decide +kernel
theorem dX6_isRow_9 : decode cX6_isRow 9 = .ok (.goto 4, 3) := by decide +kernel
theorem dX6_isRow_12 : decode cX6_isRow 12 = .ok (.iconst 0, 1) := by decide +kernel
theorem dX6_isRow_13 : decode cX6_isRow 13 = .ok (.ireturn, 1) := by decide +kernel
theorem dX6_hasBytes_0 : decode cX6_hasBytes 0 = .ok (.aload_n 0, 1) := by decide +kernel
theorem dX6_hasBytes_1 : decode cX6_hasBytes 1 = .ok (.invokevirtual 19, 3) := by decide +kernel
theorem dX6_hasBytes_4 : decode cX6_hasBytes 4 = .ok (.ifCond .eq 14, 3) := by decide +kernel
theorem dX6_hasBytes_7 : decode cX6_hasBytes 7 = .ok (.aload_n 0, 1) := by decide +kernel
theorem dX6_hasBytes_8 : decode cX6_hasBytes 8 = .ok (.getfield 23, 3) := by decide +kernel
theorem dX6_hasBytes_11 : decode cX6_hasBytes 11 = .ok (.ifCond .ne 7, 3) := by decide +kernel
theorem dX6_hasBytes_14 : decode cX6_hasBytes 14 = .ok (.iconst 1, 1) := by decide +kernel
theorem dX6_hasBytes_15 : decode cX6_hasBytes 15 = .ok (.goto 4, 3) := by decide +kernel
theorem dX6_hasBytes_18 : decode cX6_hasBytes 18 = .ok (.iconst 0, 1) := by decide +kernel
theorem dX6_hasBytes_19 : decode cX6_hasBytes 19 = .ok (.ireturn, 1) := by decide +kernel
theorem dX6_holdNothing_0 : decode cX6_holdNothing 0 = .ok (.aload_n 0, 1) := by decide +kernel
theorem dX6_holdNothing_1 : decode cX6_holdNothing 1 = .ok (.iconst 0, 1) := by decide +kernel
theorem dX6_holdNothing_2 : decode cX6_holdNothing 2 = .ok (.putfield 15, 3) := by decide +kernel
theorem dX6_holdNothing_5 : decode cX6_holdNothing 5 = .ok (.aload_n 0, 1) := by decide +kernel
theorem dX6_holdNothing_6 : decode cX6_holdNothing 6 = .ok (.iconst 0, 1) := by decide +kernel
theorem dX6_holdNothing_7 : decode cX6_holdNothing 7 = .ok (.putfield 26, 3) := by decide +kernel
theorem dX6_holdNothing_10 : decode cX6_holdNothing 10 = .ok (.return_, 1) := by decide +kernel
theorem dX6_holdTurn_0 : decode cX6_holdTurn 0 = .ok (.aload_n 0, 1) := by decide +kernel
theorem dX6_holdTurn_1 : decode cX6_holdTurn 1 = .ok (.iconst 1, 1) := by decide +kernel
theorem dX6_holdTurn_2 : decode cX6_holdTurn 2 = .ok (.putfield 15, 3) := by decide +kernel
theorem dX6_holdTurn_5 : decode cX6_holdTurn 5 = .ok (.aload_n 0, 1) := by decide +kernel
theorem dX6_holdTurn_6 : decode cX6_holdTurn 6 = .ok (.iload_n 1, 1) := by decide +kernel
theorem dX6_holdTurn_7 : decode cX6_holdTurn 7 = .ok (.putfield 29, 3) := by decide +kernel
theorem dX6_holdTurn_10 : decode cX6_holdTurn 10 = .ok (.aload_n 0, 1) := by decide +kernel
theorem dX6_holdTurn_11 : decode cX6_holdTurn 11 = .ok (.iconst 0, 1) := by decide +kernel
theorem dX6_holdTurn_12 : decode cX6_holdTurn 12 = .ok (.putfield 26, 3) := by decide +kernel
theorem dX6_holdTurn_15 : decode cX6_holdTurn 15 = .ok (.return_, 1) := by decide +kernel
theorem dX6_holdRow_0 : decode cX6_holdRow 0 = .ok (.aload_n 0, 1) := by decide +kernel
theorem dX6_holdRow_1 : decode cX6_holdRow 1 = .ok (.iconst 2, 1) := by decide +kernel
theorem dX6_holdRow_2 : decode cX6_holdRow 2 = .ok (.putfield 15, 3) := by decide +kernel
theorem dX6_holdRow_5 : decode cX6_holdRow 5 = .ok (.aload_n 0, 1) := by decide +kernel
theorem dX6_holdRow_6 : decode cX6_holdRow 6 = .ok (.iload_n 1, 1) := by decide +kernel
theorem dX6_holdRow_7 : decode cX6_holdRow 7 = .ok (.putfield 23, 3) := by decide +kernel
theorem dX6_holdRow_10 : decode cX6_holdRow 10 = .ok (.aload_n 0, 1) := by decide +kernel
theorem dX6_holdRow_11 : decode cX6_holdRow 11 = .ok (.iload_n 2, 1) := by decide +kernel
theorem dX6_holdRow_12 : decode cX6_holdRow 12 = .ok (.putfield 26, 3) := by decide +kernel
theorem dX6_holdRow_15 : decode cX6_holdRow 15 = .ok (.iconst 0, 1) := by decide +kernel
theorem dX6_holdRow_16 : decode cX6_holdRow 16 = .ok (.istore_n 3, 1) := by decide +kernel
theorem dX6_holdRow_17 : decode cX6_holdRow 17 = .ok (.iload_n 3, 1) := by decide +kernel
theorem dX6_holdRow_18 : decode cX6_holdRow 18 = .ok (.bipush 60, 2) := by decide +kernel
theorem dX6_holdRow_20 : decode cX6_holdRow 20 = .ok (.if_icmp .ge 16, 3) := by decide +kernel
theorem dX6_holdRow_23 : decode cX6_holdRow 23 = .ok (.aload_n 0, 1) := by decide +kernel
theorem dX6_holdRow_24 : decode cX6_holdRow 24 = .ok (.getfield 9, 3) := by decide +kernel
theorem dX6_holdRow_27 : decode cX6_holdRow 27 = .ok (.iload_n 3, 1) := by decide +kernel
theorem dX6_holdRow_28 : decode cX6_holdRow 28 = .ok (.lconst 0, 1) := by decide +kernel
theorem dX6_holdRow_29 : decode cX6_holdRow 29 = .ok (.lastore, 1) := by decide +kernel
theorem dX6_holdRow_30 : decode cX6_holdRow 30 = .ok (.iinc 3 1, 3) := by decide +kernel
theorem dX6_holdRow_33 : decode cX6_holdRow 33 = .ok (.goto (-16), 3) := by decide +kernel
theorem dX6_holdRow_36 : decode cX6_holdRow 36 = .ok (.return_, 1) := by decide +kernel
theorem dX6_bytesRefusal_0 : decode cX6_bytesRefusal 0 = .ok (.aload_n 0, 1) := by decide +kernel
theorem dX6_bytesRefusal_1 : decode cX6_bytesRefusal 1 = .ok (.invokevirtual 32, 3) := by decide +kernel
theorem dX6_bytesRefusal_4 : decode cX6_bytesRefusal 4 = .ok (.ifCond .eq 6, 3) := by decide +kernel
theorem dX6_bytesRefusal_7 : decode cX6_bytesRefusal 7 = .ok (.bipush (-11), 2) := by decide +kernel
theorem dX6_bytesRefusal_9 : decode cX6_bytesRefusal 9 = .ok (.ireturn, 1) := by decide +kernel
theorem dX6_bytesRefusal_10 : decode cX6_bytesRefusal 10 = .ok (.aload_n 0, 1) := by decide +kernel
theorem dX6_bytesRefusal_11 : decode cX6_bytesRefusal 11 = .ok (.invokevirtual 35, 3) := by decide +kernel
theorem dX6_bytesRefusal_14 : decode cX6_bytesRefusal 14 = .ok (.ifCond .eq 7, 3) := by decide +kernel
theorem dX6_bytesRefusal_17 : decode cX6_bytesRefusal 17 = .ok (.iconst 0, 1) := by decide +kernel
theorem dX6_bytesRefusal_18 : decode cX6_bytesRefusal 18 = .ok (.goto 5, 3) := by decide +kernel
theorem dX6_bytesRefusal_21 : decode cX6_bytesRefusal 21 = .ok (.bipush (-12), 2) := by decide +kernel
theorem dX6_bytesRefusal_23 : decode cX6_bytesRefusal 23 = .ok (.ireturn, 1) := by decide +kernel
theorem dX6_placeRefusal_0 : decode cX6_placeRefusal 0 = .ok (.aload_n 0, 1) := by decide +kernel
theorem dX6_placeRefusal_1 : decode cX6_placeRefusal 1 = .ok (.invokevirtual 32, 3) := by decide +kernel
theorem dX6_placeRefusal_4 : decode cX6_placeRefusal 4 = .ok (.ifCond .eq 6, 3) := by decide +kernel
theorem dX6_placeRefusal_7 : decode cX6_placeRefusal 7 = .ok (.bipush (-11), 2) := by decide +kernel
theorem dX6_placeRefusal_9 : decode cX6_placeRefusal 9 = .ok (.ireturn, 1) := by decide +kernel
theorem dX6_placeRefusal_10 : decode cX6_placeRefusal 10 = .ok (.aload_n 0, 1) := by decide +kernel
theorem dX6_placeRefusal_11 : decode cX6_placeRefusal 11 = .ok (.invokevirtual 19, 3) := by decide +kernel
theorem dX6_placeRefusal_14 : decode cX6_placeRefusal 14 = .ok (.ifCond .ne 6, 3) := by decide +kernel
theorem dX6_placeRefusal_17 : decode cX6_placeRefusal 17 = .ok (.bipush (-12), 2) := by decide +kernel
theorem dX6_placeRefusal_19 : decode cX6_placeRefusal 19 = .ok (.ireturn, 1) := by decide +kernel
theorem dX6_placeRefusal_20 : decode cX6_placeRefusal 20 = .ok (.iload_n 1, 1) := by decide +kernel
theorem dX6_placeRefusal_21 : decode cX6_placeRefusal 21 = .ok (.ifCond .lt 15, 3) := by decide +kernel
theorem dX6_placeRefusal_24 : decode cX6_placeRefusal 24 = .ok (.iload_n 1, 1) := by decide +kernel
theorem dX6_placeRefusal_25 : decode cX6_placeRefusal 25 = .ok (.aload_n 0, 1) := by decide +kernel
theorem dX6_placeRefusal_26 : decode cX6_placeRefusal 26 = .ok (.getfield 26, 3) := by decide +kernel
theorem dX6_placeRefusal_29 : decode cX6_placeRefusal 29 = .ok (.if_icmp .ge 7, 3) := by decide +kernel
theorem dX6_placeRefusal_32 : decode cX6_placeRefusal 32 = .ok (.iconst 0, 1) := by decide +kernel
theorem dX6_placeRefusal_33 : decode cX6_placeRefusal 33 = .ok (.goto 5, 3) := by decide +kernel
theorem dX6_placeRefusal_36 : decode cX6_placeRefusal 36 = .ok (.bipush (-13), 2) := by decide +kernel
theorem dX6_placeRefusal_38 : decode cX6_placeRefusal 38 = .ok (.ireturn, 1) := by decide +kernel
theorem dX6_hasStretch_0 : decode cX6_hasStretch 0 = .ok (.iload_n 1, 1) := by decide +kernel
theorem dX6_hasStretch_1 : decode cX6_hasStretch 1 = .ok (.ifCond .lt 29, 3) := by decide +kernel
theorem dX6_hasStretch_4 : decode cX6_hasStretch 4 = .ok (.iload_n 2, 1) := by decide +kernel
theorem dX6_hasStretch_5 : decode cX6_hasStretch 5 = .ok (.ifCond .lt 25, 3) := by decide +kernel
theorem dX6_hasStretch_8 : decode cX6_hasStretch 8 = .ok (.iload_n 1, 1) := by decide +kernel
theorem dX6_hasStretch_9 : decode cX6_hasStretch 9 = .ok (.aload_n 0, 1) := by decide +kernel
theorem dX6_hasStretch_10 : decode cX6_hasStretch 10 = .ok (.getfield 26, 3) := by decide +kernel
theorem dX6_hasStretch_13 : decode cX6_hasStretch 13 = .ok (.if_icmp .gt 17, 3) := by decide +kernel
theorem dX6_hasStretch_16 : decode cX6_hasStretch 16 = .ok (.iload_n 2, 1) := by decide +kernel
theorem dX6_hasStretch_17 : decode cX6_hasStretch 17 = .ok (.aload_n 0, 1) := by decide +kernel
theorem dX6_hasStretch_18 : decode cX6_hasStretch 18 = .ok (.getfield 26, 3) := by decide +kernel
theorem dX6_hasStretch_21 : decode cX6_hasStretch 21 = .ok (.iload_n 1, 1) := by decide +kernel
theorem dX6_hasStretch_22 : decode cX6_hasStretch 22 = .ok (.isub, 1) := by decide +kernel
theorem dX6_hasStretch_23 : decode cX6_hasStretch 23 = .ok (.if_icmp .gt 7, 3) := by decide +kernel
theorem dX6_hasStretch_26 : decode cX6_hasStretch 26 = .ok (.iconst 1, 1) := by decide +kernel
theorem dX6_hasStretch_27 : decode cX6_hasStretch 27 = .ok (.goto 4, 3) := by decide +kernel
theorem dX6_hasStretch_30 : decode cX6_hasStretch 30 = .ok (.iconst 0, 1) := by decide +kernel
theorem dX6_hasStretch_31 : decode cX6_hasStretch 31 = .ok (.ireturn, 1) := by decide +kernel
theorem dX6_lay_0 : decode cX6_lay 0 = .ok (.aload_n 0, 1) := by decide +kernel
theorem dX6_lay_1 : decode cX6_lay 1 = .ok (.getfield 23, 3) := by decide +kernel
theorem dX6_lay_4 : decode cX6_lay 4 = .ok (.tableswitch 94 0 4 #[36, 49, 62, 94, 74], 36) := by decide +kernel
theorem dX6_lay_40 : decode cX6_lay 40 = .ok (.aload_n 0, 1) := by decide +kernel
theorem dX6_lay_41 : decode cX6_lay 41 = .ok (.getfield 9, 3) := by decide +kernel
theorem dX6_lay_44 : decode cX6_lay 44 = .ok (.iload_n 1, 1) := by decide +kernel
theorem dX6_lay_45 : decode cX6_lay 45 = .ok (.lload_n 2, 1) := by decide +kernel
theorem dX6_lay_46 : decode cX6_lay 46 = .ok (.l2i, 1) := by decide +kernel
theorem dX6_lay_47 : decode cX6_lay 47 = .ok (.i2b, 1) := by decide +kernel
theorem dX6_lay_48 : decode cX6_lay 48 = .ok (.i2l, 1) := by decide +kernel
theorem dX6_lay_49 : decode cX6_lay 49 = .ok (.lastore, 1) := by decide +kernel
theorem dX6_lay_50 : decode cX6_lay 50 = .ok (.goto 55, 3) := by decide +kernel
theorem dX6_lay_53 : decode cX6_lay 53 = .ok (.aload_n 0, 1) := by decide +kernel
theorem dX6_lay_54 : decode cX6_lay 54 = .ok (.getfield 9, 3) := by decide +kernel
theorem dX6_lay_57 : decode cX6_lay 57 = .ok (.iload_n 1, 1) := by decide +kernel
theorem dX6_lay_58 : decode cX6_lay 58 = .ok (.lload_n 2, 1) := by decide +kernel
theorem dX6_lay_59 : decode cX6_lay 59 = .ok (.l2i, 1) := by decide +kernel
theorem dX6_lay_60 : decode cX6_lay 60 = .ok (.i2s, 1) := by decide +kernel
theorem dX6_lay_61 : decode cX6_lay 61 = .ok (.i2l, 1) := by decide +kernel
theorem dX6_lay_62 : decode cX6_lay 62 = .ok (.lastore, 1) := by decide +kernel
theorem dX6_lay_63 : decode cX6_lay 63 = .ok (.goto 42, 3) := by decide +kernel
theorem dX6_lay_66 : decode cX6_lay 66 = .ok (.aload_n 0, 1) := by decide +kernel
theorem dX6_lay_67 : decode cX6_lay 67 = .ok (.getfield 9, 3) := by decide +kernel
theorem dX6_lay_70 : decode cX6_lay 70 = .ok (.iload_n 1, 1) := by decide +kernel
theorem dX6_lay_71 : decode cX6_lay 71 = .ok (.lload_n 2, 1) := by decide +kernel
theorem dX6_lay_72 : decode cX6_lay 72 = .ok (.l2i, 1) := by decide +kernel
theorem dX6_lay_73 : decode cX6_lay 73 = .ok (.i2l, 1) := by decide +kernel
theorem dX6_lay_74 : decode cX6_lay 74 = .ok (.lastore, 1) := by decide +kernel
theorem dX6_lay_75 : decode cX6_lay 75 = .ok (.goto 30, 3) := by decide +kernel
theorem dX6_lay_78 : decode cX6_lay 78 = .ok (.aload_n 0, 1) := by decide +kernel
theorem dX6_lay_79 : decode cX6_lay 79 = .ok (.getfield 9, 3) := by decide +kernel
theorem dX6_lay_82 : decode cX6_lay 82 = .ok (.iload_n 1, 1) := by decide +kernel
theorem dX6_lay_83 : decode cX6_lay 83 = .ok (.lload_n 2, 1) := by decide +kernel
theorem dX6_lay_84 : decode cX6_lay 84 = .ok (.lconst 0, 1) := by decide +kernel
theorem dX6_lay_85 : decode cX6_lay 85 = .ok (.lcmp, 1) := by decide +kernel
theorem dX6_lay_86 : decode cX6_lay 86 = .ok (.ifCond .eq 7, 3) := by decide +kernel
theorem dX6_lay_89 : decode cX6_lay 89 = .ok (.lconst 1, 1) := by decide +kernel
theorem dX6_lay_90 : decode cX6_lay 90 = .ok (.goto 4, 3) := by decide +kernel
theorem dX6_lay_93 : decode cX6_lay 93 = .ok (.lconst 0, 1) := by decide +kernel
theorem dX6_lay_94 : decode cX6_lay 94 = .ok (.lastore, 1) := by decide +kernel
theorem dX6_lay_95 : decode cX6_lay 95 = .ok (.goto 10, 3) := by decide +kernel
theorem dX6_lay_98 : decode cX6_lay 98 = .ok (.aload_n 0, 1) := by decide +kernel
theorem dX6_lay_99 : decode cX6_lay 99 = .ok (.getfield 9, 3) := by decide +kernel
theorem dX6_lay_102 : decode cX6_lay 102 = .ok (.iload_n 1, 1) := by decide +kernel
theorem dX6_lay_103 : decode cX6_lay 103 = .ok (.lload_n 2, 1) := by decide +kernel
theorem dX6_lay_104 : decode cX6_lay 104 = .ok (.lastore, 1) := by decide +kernel
theorem dX6_lay_105 : decode cX6_lay 105 = .ok (.return_, 1) := by decide +kernel
theorem dX6_gapAt_0 : decode cX6_gapAt 0 = .ok (.iload_n 1, 1) := by decide +kernel
theorem dX6_gapAt_1 : decode cX6_gapAt 1 = .ok (.ifCond .lt 28, 3) := by decide +kernel
theorem dX6_gapAt_4 : decode cX6_gapAt 4 = .ok (.iload_n 1, 1) := by decide +kernel
theorem dX6_gapAt_5 : decode cX6_gapAt 5 = .ok (.aload_n 0, 1) := by decide +kernel
theorem dX6_gapAt_6 : decode cX6_gapAt 6 = .ok (.getfield 26, 3) := by decide +kernel
theorem dX6_gapAt_9 : decode cX6_gapAt 9 = .ok (.if_icmp .ge 20, 3) := by decide +kernel
theorem dX6_gapAt_12 : decode cX6_gapAt 12 = .ok (.iload_n 1, 1) := by decide +kernel
theorem dX6_gapAt_13 : decode cX6_gapAt 13 = .ok (.bipush 60, 2) := by decide +kernel
theorem dX6_gapAt_15 : decode cX6_gapAt 15 = .ok (.if_icmp .ge 14, 3) := by decide +kernel
theorem dX6_gapAt_18 : decode cX6_gapAt 18 = .ok (.aload_n 0, 1) := by decide +kernel
theorem dX6_gapAt_19 : decode cX6_gapAt 19 = .ok (.getfield 9, 3) := by decide +kernel
theorem dX6_gapAt_22 : decode cX6_gapAt 22 = .ok (.iload_n 1, 1) := by decide +kernel
theorem dX6_gapAt_23 : decode cX6_gapAt 23 = .ok (.laload, 1) := by decide +kernel
theorem dX6_gapAt_24 : decode cX6_gapAt 24 = .ok (.lconst 1, 1) := by decide +kernel
theorem dX6_gapAt_25 : decode cX6_gapAt 25 = .ok (.lcmp, 1) := by decide +kernel
theorem dX6_gapAt_26 : decode cX6_gapAt 26 = .ok (.ifCond .ge 5, 3) := by decide +kernel
theorem dX6_gapAt_29 : decode cX6_gapAt 29 = .ok (.iconst (-1), 1) := by decide +kernel
theorem dX6_gapAt_30 : decode cX6_gapAt 30 = .ok (.ireturn, 1) := by decide +kernel
theorem dX6_gapAt_31 : decode cX6_gapAt 31 = .ok (.aload_n 0, 1) := by decide +kernel
theorem dX6_gapAt_32 : decode cX6_gapAt 32 = .ok (.getfield 9, 3) := by decide +kernel
theorem dX6_gapAt_35 : decode cX6_gapAt 35 = .ok (.iload_n 1, 1) := by decide +kernel
theorem dX6_gapAt_36 : decode cX6_gapAt 36 = .ok (.laload, 1) := by decide +kernel
theorem dX6_gapAt_37 : decode cX6_gapAt 37 = .ok (.l2i, 1) := by decide +kernel
theorem dX6_gapAt_38 : decode cX6_gapAt 38 = .ok (.ireturn, 1) := by decide +kernel
theorem dX7_init_0 : decode cX7_init 0 = .ok (.aload_n 0, 1) := by decide +kernel
theorem dX7_init_1 : decode cX7_init 1 = .ok (.invokespecial 3, 3) := by decide +kernel
theorem dX7_init_4 : decode cX7_init 4 = .ok (.aload_n 0, 1) := by decide +kernel
theorem dX7_init_5 : decode cX7_init 5 = .ok (.aload_n 1, 1) := by decide +kernel
theorem dX7_init_6 : decode cX7_init 6 = .ok (.putfield 9, 3) := by decide +kernel
theorem dX7_init_9 : decode cX7_init 9 = .ok (.aload_n 0, 1) := by decide +kernel
theorem dX7_init_10 : decode cX7_init 10 = .ok (.aload_n 2, 1) := by decide +kernel
theorem dX7_init_11 : decode cX7_init 11 = .ok (.putfield 15, 3) := by decide +kernel
theorem dX7_init_14 : decode cX7_init 14 = .ok (.return_, 1) := by decide +kernel
theorem dX7_begin_0 : decode cX7_begin 0 = .ok (.aload_n 0, 1) := by decide +kernel
theorem dX7_begin_1 : decode cX7_begin 1 = .ok (.getfield 15, 3) := by decide +kernel
theorem dX7_begin_4 : decode cX7_begin 4 = .ok (.aload_n 0, 1) := by decide +kernel
theorem dX7_begin_5 : decode cX7_begin 5 = .ok (.getfield 9, 3) := by decide +kernel
theorem dX7_begin_8 : decode cX7_begin 8 = .ok (.invokevirtual 18, 3) := by decide +kernel
theorem dX7_begin_11 : decode cX7_begin 11 = .ok (.aload_n 0, 1) := by decide +kernel
theorem dX7_begin_12 : decode cX7_begin 12 = .ok (.iconst 0, 1) := by decide +kernel
theorem dX7_begin_13 : decode cX7_begin 13 = .ok (.putfield 24, 3) := by decide +kernel
theorem dX7_begin_16 : decode cX7_begin 16 = .ok (.aload_n 0, 1) := by decide +kernel
theorem dX7_begin_17 : decode cX7_begin 17 = .ok (.iconst 0, 1) := by decide +kernel
theorem dX7_begin_18 : decode cX7_begin 18 = .ok (.putfield 28, 3) := by decide +kernel
theorem dX7_begin_21 : decode cX7_begin 21 = .ok (.aload_n 0, 1) := by decide +kernel
theorem dX7_begin_22 : decode cX7_begin 22 = .ok (.iconst (-1), 1) := by decide +kernel
theorem dX7_begin_23 : decode cX7_begin 23 = .ok (.putfield 31, 3) := by decide +kernel
theorem dX7_begin_26 : decode cX7_begin 26 = .ok (.aload_n 0, 1) := by decide +kernel
theorem dX7_begin_27 : decode cX7_begin 27 = .ok (.iconst (-1), 1) := by decide +kernel
theorem dX7_begin_28 : decode cX7_begin 28 = .ok (.putfield 34, 3) := by decide +kernel
theorem dX7_begin_31 : decode cX7_begin 31 = .ok (.return_, 1) := by decide +kernel
theorem dX7_leaveOut_0 : decode cX7_leaveOut 0 = .ok (.aload_n 0, 1) := by decide +kernel
theorem dX7_leaveOut_1 : decode cX7_leaveOut 1 = .ok (.iload_n 1, 1) := by decide +kernel
theorem dX7_leaveOut_2 : decode cX7_leaveOut 2 = .ok (.putfield 31, 3) := by decide +kernel
theorem dX7_leaveOut_5 : decode cX7_leaveOut 5 = .ok (.return_, 1) := by decide +kernel
theorem dX7_addPush_0 : decode cX7_addPush 0 = .ok (.aload_n 0, 1) := by decide +kernel
theorem dX7_addPush_1 : decode cX7_addPush 1 = .ok (.iload_n 1, 1) := by decide +kernel
theorem dX7_addPush_2 : decode cX7_addPush 2 = .ok (.putfield 34, 3) := by decide +kernel
theorem dX7_addPush_5 : decode cX7_addPush 5 = .ok (.aload_n 0, 1) := by decide +kernel
theorem dX7_addPush_6 : decode cX7_addPush 6 = .ok (.iload_n 2, 1) := by decide +kernel
theorem dX7_addPush_7 : decode cX7_addPush 7 = .ok (.putfield 37, 3) := by decide +kernel
theorem dX7_addPush_10 : decode cX7_addPush 10 = .ok (.aload_n 0, 1) := by decide +kernel
theorem dX7_addPush_11 : decode cX7_addPush 11 = .ok (.iload_n 3, 1) := by decide +kernel
theorem dX7_addPush_12 : decode cX7_addPush 12 = .ok (.putfield 40, 3) := by decide +kernel
theorem dX7_addPush_15 : decode cX7_addPush 15 = .ok (.return_, 1) := by decide +kernel
theorem dX7_step_0 : decode cX7_step 0 = .ok (.aload_n 0, 1) := by decide +kernel
theorem dX7_step_1 : decode cX7_step 1 = .ok (.getfield 15, 3) := by decide +kernel
theorem dX7_step_4 : decode cX7_step 4 = .ok (.invokevirtual 43, 3) := by decide +kernel
theorem dX7_step_7 : decode cX7_step 7 = .ok (.ifCond .eq 45, 3) := by decide +kernel
theorem dX7_step_10 : decode cX7_step 10 = .ok (.aload_n 0, 1) := by decide +kernel
theorem dX7_step_11 : decode cX7_step 11 = .ok (.getfield 28, 3) := by decide +kernel
theorem dX7_step_14 : decode cX7_step 14 = .ok (.aload_n 0, 1) := by decide +kernel
theorem dX7_step_15 : decode cX7_step 15 = .ok (.getfield 31, 3) := by decide +kernel
theorem dX7_step_18 : decode cX7_step 18 = .ok (.if_icmp .eq 24, 3) := by decide +kernel
theorem dX7_step_21 : decode cX7_step 21 = .ok (.aload_n 0, 1) := by decide +kernel
theorem dX7_step_22 : decode cX7_step 22 = .ok (.getfield 15, 3) := by decide +kernel
theorem dX7_step_25 : decode cX7_step 25 = .ok (.aload_n 0, 1) := by decide +kernel
theorem dX7_step_26 : decode cX7_step 26 = .ok (.getfield 15, 3) := by decide +kernel
theorem dX7_step_29 : decode cX7_step 29 = .ok (.getfield 47, 3) := by decide +kernel
theorem dX7_step_32 : decode cX7_step 32 = .ok (.aload_n 0, 1) := by decide +kernel
theorem dX7_step_33 : decode cX7_step 33 = .ok (.getfield 15, 3) := by decide +kernel
theorem dX7_step_36 : decode cX7_step 36 = .ok (.invokevirtual 50, 3) := by decide +kernel
theorem dX7_step_39 : decode cX7_step 39 = .ok (.invokevirtual 54, 3) := by decide +kernel
theorem dX7_step_42 : decode cX7_step 42 = .ok (.aload_n 0, 1) := by decide +kernel
theorem dX7_step_43 : decode cX7_step 43 = .ok (.dup, 1) := by decide +kernel
theorem dX7_step_44 : decode cX7_step 44 = .ok (.getfield 28, 3) := by decide +kernel
theorem dX7_step_47 : decode cX7_step 47 = .ok (.iconst 1, 1) := by decide +kernel
theorem dX7_step_48 : decode cX7_step 48 = .ok (.iadd, 1) := by decide +kernel
theorem dX7_step_49 : decode cX7_step 49 = .ok (.putfield 28, 3) := by decide +kernel
theorem dX7_step_52 : decode cX7_step 52 = .ok (.aload_n 0, 1) := by decide +kernel
theorem dX7_step_53 : decode cX7_step 53 = .ok (.getfield 24, 3) := by decide +kernel
theorem dX7_step_56 : decode cX7_step 56 = .ok (.aload_n 0, 1) := by decide +kernel
theorem dX7_step_57 : decode cX7_step 57 = .ok (.getfield 34, 3) := by decide +kernel
theorem dX7_step_60 : decode cX7_step 60 = .ok (.if_icmp .ne 18, 3) := by decide +kernel
theorem dX7_step_63 : decode cX7_step 63 = .ok (.aload_n 0, 1) := by decide +kernel
theorem dX7_step_64 : decode cX7_step 64 = .ok (.getfield 15, 3) := by decide +kernel
theorem dX7_step_67 : decode cX7_step 67 = .ok (.aload_n 0, 1) := by decide +kernel
theorem dX7_step_68 : decode cX7_step 68 = .ok (.getfield 37, 3) := by decide +kernel
theorem dX7_step_71 : decode cX7_step 71 = .ok (.aload_n 0, 1) := by decide +kernel
theorem dX7_step_72 : decode cX7_step 72 = .ok (.getfield 40, 3) := by decide +kernel
theorem dX7_step_75 : decode cX7_step 75 = .ok (.invokevirtual 54, 3) := by decide +kernel
theorem dX7_step_78 : decode cX7_step 78 = .ok (.aload_n 0, 1) := by decide +kernel
theorem dX7_step_79 : decode cX7_step 79 = .ok (.getfield 15, 3) := by decide +kernel
theorem dX7_step_82 : decode cX7_step 82 = .ok (.invokevirtual 58, 3) := by decide +kernel
theorem dX7_step_85 : decode cX7_step 85 = .ok (.aload_n 0, 1) := by decide +kernel
theorem dX7_step_86 : decode cX7_step 86 = .ok (.dup, 1) := by decide +kernel
theorem dX7_step_87 : decode cX7_step 87 = .ok (.getfield 24, 3) := by decide +kernel
theorem dX7_step_90 : decode cX7_step 90 = .ok (.iconst 1, 1) := by decide +kernel
theorem dX7_step_91 : decode cX7_step 91 = .ok (.iadd, 1) := by decide +kernel
theorem dX7_step_92 : decode cX7_step 92 = .ok (.putfield 24, 3) := by decide +kernel
theorem dX7_step_95 : decode cX7_step 95 = .ok (.return_, 1) := by decide +kernel
theorem dX7_behind_0 : decode cX7_behind 0 = .ok (.aload_n 0, 1) := by decide +kernel
theorem dX7_behind_1 : decode cX7_behind 1 = .ok (.invokevirtual 61, 3) := by decide +kernel
theorem dX7_behind_4 : decode cX7_behind 4 = .ok (.iconst 0, 1) := by decide +kernel
theorem dX7_behind_5 : decode cX7_behind 5 = .ok (.istore_n 3, 1) := by decide +kernel
theorem dX7_behind_6 : decode cX7_behind 6 = .ok (.iload_n 3, 1) := by decide +kernel
theorem dX7_behind_7 : decode cX7_behind 7 = .ok (.iload_n 2, 1) := by decide +kernel
theorem dX7_behind_8 : decode cX7_behind 8 = .ok (.if_icmp .ge 13, 3) := by decide +kernel
theorem dX7_behind_11 : decode cX7_behind 11 = .ok (.aload_n 0, 1) := by decide +kernel
theorem dX7_behind_12 : decode cX7_behind 12 = .ok (.invokevirtual 64, 3) := by decide +kernel
theorem dX7_behind_15 : decode cX7_behind 15 = .ok (.iinc 3 1, 3) := by decide +kernel
theorem dX7_behind_18 : decode cX7_behind 18 = .ok (.goto (-12), 3) := by decide +kernel
theorem dX7_behind_21 : decode cX7_behind 21 = .ok (.aload_n 0, 1) := by decide +kernel
theorem dX7_behind_22 : decode cX7_behind 22 = .ok (.getfield 15, 3) := by decide +kernel
theorem dX7_behind_25 : decode cX7_behind 25 = .ok (.getfield 67, 3) := by decide +kernel
theorem dX7_behind_28 : decode cX7_behind 28 = .ok (.iload_n 1, 1) := by decide +kernel
theorem dX7_behind_29 : decode cX7_behind 29 = .ok (.aaload, 1) := by decide +kernel
theorem dX7_behind_30 : decode cX7_behind 30 = .ok (.areturn, 1) := by decide +kernel
theorem dX7_fallOf_0 : decode cX7_fallOf 0 = .ok (.iconst 0, 1) := by decide +kernel
theorem dX7_fallOf_1 : decode cX7_fallOf 1 = .ok (.istore_n 2, 1) := by decide +kernel
theorem dX7_fallOf_2 : decode cX7_fallOf 2 = .ok (.iload_n 2, 1) := by decide +kernel
theorem dX7_fallOf_3 : decode cX7_fallOf 3 = .ok (.sipush 200, 3) := by decide +kernel
theorem dX7_fallOf_6 : decode cX7_fallOf 6 = .ok (.if_icmp .gt 30, 3) := by decide +kernel
theorem dX7_fallOf_9 : decode cX7_fallOf 9 = .ok (.aload_n 0, 1) := by decide +kernel
theorem dX7_fallOf_10 : decode cX7_fallOf 10 = .ok (.getfield 15, 3) := by decide +kernel
theorem dX7_fallOf_13 : decode cX7_fallOf 13 = .ok (.getfield 67, 3) := by decide +kernel
theorem dX7_fallOf_16 : decode cX7_fallOf 16 = .ok (.iload_n 1, 1) := by decide +kernel
theorem dX7_fallOf_17 : decode cX7_fallOf 17 = .ok (.aaload, 1) := by decide +kernel
theorem dX7_fallOf_18 : decode cX7_fallOf 18 = .ok (.invokevirtual 71, 3) := by decide +kernel
theorem dX7_fallOf_21 : decode cX7_fallOf 21 = .ok (.ifCond .eq 5, 3) := by decide +kernel
theorem dX7_fallOf_24 : decode cX7_fallOf 24 = .ok (.iload_n 2, 1) := by decide +kernel
theorem dX7_fallOf_25 : decode cX7_fallOf 25 = .ok (.ireturn, 1) := by decide +kernel
theorem dX7_fallOf_26 : decode cX7_fallOf 26 = .ok (.aload_n 0, 1) := by decide +kernel
theorem dX7_fallOf_27 : decode cX7_fallOf 27 = .ok (.invokevirtual 64, 3) := by decide +kernel
theorem dX7_fallOf_30 : decode cX7_fallOf 30 = .ok (.iinc 2 1, 3) := by decide +kernel
theorem dX7_fallOf_33 : decode cX7_fallOf 33 = .ok (.goto (-31), 3) := by decide +kernel
theorem dX7_fallOf_36 : decode cX7_fallOf 36 = .ok (.bipush (-2), 2) := by decide +kernel
theorem dX7_fallOf_38 : decode cX7_fallOf 38 = .ok (.ireturn, 1) := by decide +kernel
theorem dX7_isUpBehind_0 : decode cX7_isUpBehind 0 = .ok (.iconst 0, 1) := by decide +kernel
theorem dX7_isUpBehind_1 : decode cX7_isUpBehind 1 = .ok (.istore_n 3, 1) := by decide +kernel
theorem dX7_isUpBehind_2 : decode cX7_isUpBehind 2 = .ok (.iload_n 3, 1) := by decide +kernel
theorem dX7_isUpBehind_3 : decode cX7_isUpBehind 3 = .ok (.iload_n 2, 1) := by decide +kernel
theorem dX7_isUpBehind_4 : decode cX7_isUpBehind 4 = .ok (.if_icmp .ge 28, 3) := by decide +kernel
theorem dX7_isUpBehind_7 : decode cX7_isUpBehind 7 = .ok (.aload_n 0, 1) := by decide +kernel
theorem dX7_isUpBehind_8 : decode cX7_isUpBehind 8 = .ok (.getfield 15, 3) := by decide +kernel
theorem dX7_isUpBehind_11 : decode cX7_isUpBehind 11 = .ok (.getfield 67, 3) := by decide +kernel
theorem dX7_isUpBehind_14 : decode cX7_isUpBehind 14 = .ok (.iload_n 1, 1) := by decide +kernel
theorem dX7_isUpBehind_15 : decode cX7_isUpBehind 15 = .ok (.aaload, 1) := by decide +kernel
theorem dX7_isUpBehind_16 : decode cX7_isUpBehind 16 = .ok (.invokevirtual 71, 3) := by decide +kernel
theorem dX7_isUpBehind_19 : decode cX7_isUpBehind 19 = .ok (.ifCond .ne 13, 3) := by decide +kernel
theorem dX7_isUpBehind_22 : decode cX7_isUpBehind 22 = .ok (.aload_n 0, 1) := by decide +kernel
theorem dX7_isUpBehind_23 : decode cX7_isUpBehind 23 = .ok (.invokevirtual 64, 3) := by decide +kernel
theorem dX7_isUpBehind_26 : decode cX7_isUpBehind 26 = .ok (.iinc 3 1, 3) := by decide +kernel
theorem dX7_isUpBehind_29 : decode cX7_isUpBehind 29 = .ok (.goto (-27), 3) := by decide +kernel
theorem dX7_isUpBehind_32 : decode cX7_isUpBehind 32 = .ok (.aload_n 0, 1) := by decide +kernel
theorem dX7_isUpBehind_33 : decode cX7_isUpBehind 33 = .ok (.getfield 15, 3) := by decide +kernel
theorem dX7_isUpBehind_36 : decode cX7_isUpBehind 36 = .ok (.getfield 67, 3) := by decide +kernel
theorem dX7_isUpBehind_39 : decode cX7_isUpBehind 39 = .ok (.iload_n 1, 1) := by decide +kernel
theorem dX7_isUpBehind_40 : decode cX7_isUpBehind 40 = .ok (.aaload, 1) := by decide +kernel
theorem dX7_isUpBehind_41 : decode cX7_isUpBehind 41 = .ok (.invokevirtual 71, 3) := by decide +kernel
theorem dX7_isUpBehind_44 : decode cX7_isUpBehind 44 = .ok (.ifCond .ne 7, 3) := by decide +kernel
theorem dX7_isUpBehind_47 : decode cX7_isUpBehind 47 = .ok (.iconst 1, 1) := by decide +kernel
theorem dX7_isUpBehind_48 : decode cX7_isUpBehind 48 = .ok (.goto 4, 3) := by decide +kernel
theorem dX7_isUpBehind_51 : decode cX7_isUpBehind 51 = .ok (.iconst 0, 1) := by decide +kernel
theorem dX7_isUpBehind_52 : decode cX7_isUpBehind 52 = .ok (.ireturn, 1) := by decide +kernel
theorem dX7_lasting_0 : decode cX7_lasting 0 = .ok (.aload_n 0, 1) := by decide +kernel
theorem dX7_lasting_1 : decode cX7_lasting 1 = .ok (.getfield 15, 3) := by decide +kernel
theorem dX7_lasting_4 : decode cX7_lasting 4 = .ok (.invokevirtual 76, 3) := by decide +kernel
theorem dX7_lasting_7 : decode cX7_lasting 7 = .ok (.istore_n 1, 1) := by decide +kernel
theorem dX7_lasting_8 : decode cX7_lasting 8 = .ok (.iconst 0, 1) := by decide +kernel
theorem dX7_lasting_9 : decode cX7_lasting 9 = .ok (.istore_n 2, 1) := by decide +kernel
theorem dX7_lasting_10 : decode cX7_lasting 10 = .ok (.iload_n 2, 1) := by decide +kernel
theorem dX7_lasting_11 : decode cX7_lasting 11 = .ok (.sipush 200, 3) := by decide +kernel
theorem dX7_lasting_14 : decode cX7_lasting 14 = .ok (.if_icmp .ge 26, 3) := by decide +kernel
theorem dX7_lasting_17 : decode cX7_lasting 17 = .ok (.aload_n 0, 1) := by decide +kernel
theorem dX7_lasting_18 : decode cX7_lasting 18 = .ok (.invokevirtual 64, 3) := by decide +kernel
theorem dX7_lasting_21 : decode cX7_lasting 21 = .ok (.aload_n 0, 1) := by decide +kernel
theorem dX7_lasting_22 : decode cX7_lasting 22 = .ok (.getfield 15, 3) := by decide +kernel
theorem dX7_lasting_25 : decode cX7_lasting 25 = .ok (.invokevirtual 76, 3) := by decide +kernel
theorem dX7_lasting_28 : decode cX7_lasting 28 = .ok (.iload_n 1, 1) := by decide +kernel
theorem dX7_lasting_29 : decode cX7_lasting 29 = .ok (.if_icmp .ge 5, 3) := by decide +kernel
theorem dX7_lasting_32 : decode cX7_lasting 32 = .ok (.iload_n 2, 1) := by decide +kernel
theorem dX7_lasting_33 : decode cX7_lasting 33 = .ok (.ireturn, 1) := by decide +kernel
theorem dX7_lasting_34 : decode cX7_lasting 34 = .ok (.iinc 2 1, 3) := by decide +kernel
theorem dX7_lasting_37 : decode cX7_lasting 37 = .ok (.goto (-27), 3) := by decide +kernel
theorem dX7_lasting_40 : decode cX7_lasting 40 = .ok (.sipush 200, 3) := by decide +kernel
theorem dX7_lasting_43 : decode cX7_lasting 43 = .ok (.ireturn, 1) := by decide +kernel
theorem dX7_caughtAgain_0 : decode cX7_caughtAgain 0 = .ok (.iconst 0, 1) := by decide +kernel
theorem dX7_caughtAgain_1 : decode cX7_caughtAgain 1 = .ok (.istore_n 1, 1) := by decide +kernel
theorem dX7_caughtAgain_2 : decode cX7_caughtAgain 2 = .ok (.iconst 0, 1) := by decide +kernel
theorem dX7_caughtAgain_3 : decode cX7_caughtAgain 3 = .ok (.istore_n 2, 1) := by decide +kernel
theorem dX7_caughtAgain_4 : decode cX7_caughtAgain 4 = .ok (.iload_n 2, 1) := by decide +kernel
theorem dX7_caughtAgain_5 : decode cX7_caughtAgain 5 = .ok (.sipush 200, 3) := by decide +kernel
theorem dX7_caughtAgain_8 : decode cX7_caughtAgain 8 = .ok (.if_icmp .gt 45, 3) := by decide +kernel
theorem dX7_caughtAgain_11 : decode cX7_caughtAgain 11 = .ok (.aload_n 0, 1) := by decide +kernel
theorem dX7_caughtAgain_12 : decode cX7_caughtAgain 12 = .ok (.getfield 15, 3) := by decide +kernel
theorem dX7_caughtAgain_15 : decode cX7_caughtAgain 15 = .ok (.invokevirtual 79, 3) := by decide +kernel
theorem dX7_caughtAgain_18 : decode cX7_caughtAgain 18 = .ok (.istore_n 3, 1) := by decide +kernel
theorem dX7_caughtAgain_19 : decode cX7_caughtAgain 19 = .ok (.iload_n 3, 1) := by decide +kernel
theorem dX7_caughtAgain_20 : decode cX7_caughtAgain 20 = .ok (.ifCond .eq 9, 3) := by decide +kernel
theorem dX7_caughtAgain_23 : decode cX7_caughtAgain 23 = .ok (.iload_n 1, 1) := by decide +kernel
theorem dX7_caughtAgain_24 : decode cX7_caughtAgain 24 = .ok (.ifCond .eq 5, 3) := by decide +kernel
theorem dX7_caughtAgain_27 : decode cX7_caughtAgain 27 = .ok (.iload_n 2, 1) := by decide +kernel
theorem dX7_caughtAgain_28 : decode cX7_caughtAgain 28 = .ok (.ireturn, 1) := by decide +kernel
theorem dX7_caughtAgain_29 : decode cX7_caughtAgain 29 = .ok (.iload_n 3, 1) := by decide +kernel
theorem dX7_caughtAgain_30 : decode cX7_caughtAgain 30 = .ok (.ifCond .eq 7, 3) := by decide +kernel
theorem dX7_caughtAgain_33 : decode cX7_caughtAgain 33 = .ok (.iload_n 1, 1) := by decide +kernel
theorem dX7_caughtAgain_34 : decode cX7_caughtAgain 34 = .ok (.ifCond .eq 7, 3) := by decide +kernel
theorem dX7_caughtAgain_37 : decode cX7_caughtAgain 37 = .ok (.iconst 1, 1) := by decide +kernel
theorem dX7_caughtAgain_38 : decode cX7_caughtAgain 38 = .ok (.goto 4, 3) := by decide +kernel
theorem dX7_caughtAgain_41 : decode cX7_caughtAgain 41 = .ok (.iconst 0, 1) := by decide +kernel
theorem dX7_caughtAgain_42 : decode cX7_caughtAgain 42 = .ok (.istore_n 1, 1) := by decide +kernel
theorem dX7_caughtAgain_43 : decode cX7_caughtAgain 43 = .ok (.aload_n 0, 1) := by decide +kernel
theorem dX7_caughtAgain_44 : decode cX7_caughtAgain 44 = .ok (.invokevirtual 64, 3) := by decide +kernel
theorem dX7_caughtAgain_47 : decode cX7_caughtAgain 47 = .ok (.iinc 2 1, 3) := by decide +kernel
theorem dX7_caughtAgain_50 : decode cX7_caughtAgain 50 = .ok (.goto (-46), 3) := by decide +kernel
theorem dX7_caughtAgain_53 : decode cX7_caughtAgain 53 = .ok (.iload_n 1, 1) := by decide +kernel
theorem dX7_caughtAgain_54 : decode cX7_caughtAgain 54 = .ok (.ifCond .eq 8, 3) := by decide +kernel
theorem dX7_caughtAgain_57 : decode cX7_caughtAgain 57 = .ok (.bipush (-2), 2) := by decide +kernel
theorem dX7_caughtAgain_59 : decode cX7_caughtAgain 59 = .ok (.goto 4, 3) := by decide +kernel
theorem dX7_caughtAgain_62 : decode cX7_caughtAgain 62 = .ok (.iconst 0, 1) := by decide +kernel
theorem dX7_caughtAgain_63 : decode cX7_caughtAgain 63 = .ok (.ireturn, 1) := by decide +kernel
theorem dX7_lastingBy_0 : decode cX7_lastingBy 0 = .ok (.aload_n 0, 1) := by decide +kernel
theorem dX7_lastingBy_1 : decode cX7_lastingBy 1 = .ok (.getfield 15, 3) := by decide +kernel
theorem dX7_lastingBy_4 : decode cX7_lastingBy 4 = .ok (.invokevirtual 76, 3) := by decide +kernel
theorem dX7_lastingBy_7 : decode cX7_lastingBy 7 = .ok (.istore_n 2, 1) := by decide +kernel
theorem dX7_lastingBy_8 : decode cX7_lastingBy 8 = .ok (.iconst 0, 1) := by decide +kernel
theorem dX7_lastingBy_9 : decode cX7_lastingBy 9 = .ok (.istore_n 3, 1) := by decide +kernel
theorem dX7_lastingBy_10 : decode cX7_lastingBy 10 = .ok (.aload_n 1, 1) := by decide +kernel
theorem dX7_lastingBy_11 : decode cX7_lastingBy 11 = .ok (.iconst 0, 1) := by decide +kernel
theorem dX7_lastingBy_12 : decode cX7_lastingBy 12 = .ok (.invokevirtual 82, 3) := by decide +kernel
theorem dX7_lastingBy_15 : decode cX7_lastingBy 15 = .ok (.istore 4, 2) := by decide +kernel
theorem dX7_lastingBy_17 : decode cX7_lastingBy 17 = .ok (.iconst 0, 1) := by decide +kernel
theorem dX7_lastingBy_18 : decode cX7_lastingBy 18 = .ok (.istore 5, 2) := by decide +kernel
theorem dX7_lastingBy_20 : decode cX7_lastingBy 20 = .ok (.iload 5, 2) := by decide +kernel
theorem dX7_lastingBy_22 : decode cX7_lastingBy 22 = .ok (.sipush 200, 3) := by decide +kernel
theorem dX7_lastingBy_25 : decode cX7_lastingBy 25 = .ok (.if_icmp .ge 80, 3) := by decide +kernel
theorem dX7_lastingBy_28 : decode cX7_lastingBy 28 = .ok (.iload 5, 2) := by decide +kernel
theorem dX7_lastingBy_30 : decode cX7_lastingBy 30 = .ok (.iload 4, 2) := by decide +kernel
theorem dX7_lastingBy_32 : decode cX7_lastingBy 32 = .ok (.if_icmp .ne 46, 3) := by decide +kernel
theorem dX7_lastingBy_35 : decode cX7_lastingBy 35 = .ok (.aload_n 0, 1) := by decide +kernel
theorem dX7_lastingBy_36 : decode cX7_lastingBy 36 = .ok (.getfield 15, 3) := by decide +kernel
theorem dX7_lastingBy_39 : decode cX7_lastingBy 39 = .ok (.aload_n 0, 1) := by decide +kernel
theorem dX7_lastingBy_40 : decode cX7_lastingBy 40 = .ok (.getfield 15, 3) := by decide +kernel
theorem dX7_lastingBy_43 : decode cX7_lastingBy 43 = .ok (.getfield 47, 3) := by decide +kernel
theorem dX7_lastingBy_46 : decode cX7_lastingBy 46 = .ok (.iload_n 3, 1) := by decide +kernel
theorem dX7_lastingBy_47 : decode cX7_lastingBy 47 = .ok (.invokestatic 88, 3) := by decide +kernel
theorem dX7_lastingBy_50 : decode cX7_lastingBy 50 = .ok (.invokevirtual 54, 3) := by decide +kernel
theorem dX7_lastingBy_53 : decode cX7_lastingBy 53 = .ok (.iinc 3 1, 3) := by decide +kernel
theorem dX7_lastingBy_56 : decode cX7_lastingBy 56 = .ok (.aload_n 1, 1) := by decide +kernel
theorem dX7_lastingBy_57 : decode cX7_lastingBy 57 = .ok (.iload_n 3, 1) := by decide +kernel
theorem dX7_lastingBy_58 : decode cX7_lastingBy 58 = .ok (.invokevirtual 82, 3) := by decide +kernel
theorem dX7_lastingBy_61 : decode cX7_lastingBy 61 = .ok (.ifCond .ge 7, 3) := by decide +kernel
theorem dX7_lastingBy_64 : decode cX7_lastingBy 64 = .ok (.iconst (-1), 1) := by decide +kernel
theorem dX7_lastingBy_65 : decode cX7_lastingBy 65 = .ok (.goto 11, 3) := by decide +kernel
theorem dX7_lastingBy_68 : decode cX7_lastingBy 68 = .ok (.iload 5, 2) := by decide +kernel
theorem dX7_lastingBy_70 : decode cX7_lastingBy 70 = .ok (.aload_n 1, 1) := by decide +kernel
theorem dX7_lastingBy_71 : decode cX7_lastingBy 71 = .ok (.iload_n 3, 1) := by decide +kernel
theorem dX7_lastingBy_72 : decode cX7_lastingBy 72 = .ok (.invokevirtual 82, 3) := by decide +kernel
theorem dX7_lastingBy_75 : decode cX7_lastingBy 75 = .ok (.iadd, 1) := by decide +kernel
theorem dX7_lastingBy_76 : decode cX7_lastingBy 76 = .ok (.istore 4, 2) := by decide +kernel
theorem dX7_lastingBy_78 : decode cX7_lastingBy 78 = .ok (.aload_n 0, 1) := by decide +kernel
theorem dX7_lastingBy_79 : decode cX7_lastingBy 79 = .ok (.getfield 15, 3) := by decide +kernel
theorem dX7_lastingBy_82 : decode cX7_lastingBy 82 = .ok (.invokevirtual 58, 3) := by decide +kernel
theorem dX7_lastingBy_85 : decode cX7_lastingBy 85 = .ok (.aload_n 0, 1) := by decide +kernel
theorem dX7_lastingBy_86 : decode cX7_lastingBy 86 = .ok (.getfield 15, 3) := by decide +kernel
theorem dX7_lastingBy_89 : decode cX7_lastingBy 89 = .ok (.invokevirtual 76, 3) := by decide +kernel
theorem dX7_lastingBy_92 : decode cX7_lastingBy 92 = .ok (.iload_n 2, 1) := by decide +kernel
theorem dX7_lastingBy_93 : decode cX7_lastingBy 93 = .ok (.if_icmp .ge 6, 3) := by decide +kernel
theorem dX7_lastingBy_96 : decode cX7_lastingBy 96 = .ok (.iload 5, 2) := by decide +kernel
theorem dX7_lastingBy_98 : decode cX7_lastingBy 98 = .ok (.ireturn, 1) := by decide +kernel
theorem dX7_lastingBy_99 : decode cX7_lastingBy 99 = .ok (.iinc 5 1, 3) := by decide +kernel
theorem dX7_lastingBy_102 : decode cX7_lastingBy 102 = .ok (.goto (-82), 3) := by decide +kernel
theorem dX7_lastingBy_105 : decode cX7_lastingBy 105 = .ok (.sipush 200, 3) := by decide +kernel
theorem dX7_lastingBy_108 : decode cX7_lastingBy 108 = .ok (.ireturn, 1) := by decide +kernel
theorem dX7_firstUnlike_0 : decode cX7_firstUnlike 0 = .ok (.iconst 0, 1) := by decide +kernel
theorem dX7_firstUnlike_1 : decode cX7_firstUnlike 1 = .ok (.istore_n 3, 1) := by decide +kernel
theorem dX7_firstUnlike_2 : decode cX7_firstUnlike 2 = .ok (.iload_n 3, 1) := by decide +kernel
theorem dX7_firstUnlike_3 : decode cX7_firstUnlike 3 = .ok (.aload_n 1, 1) := by decide +kernel
theorem dX7_firstUnlike_4 : decode cX7_firstUnlike 4 = .ok (.getfield 91, 3) := by decide +kernel
theorem dX7_firstUnlike_7 : decode cX7_firstUnlike 7 = .ok (.if_icmp .ge 44, 3) := by decide +kernel
theorem dX7_firstUnlike_10 : decode cX7_firstUnlike 10 = .ok (.iload_n 3, 1) := by decide +kernel
theorem dX7_firstUnlike_11 : decode cX7_firstUnlike 11 = .ok (.bipush 60, 2) := by decide +kernel
theorem dX7_firstUnlike_13 : decode cX7_firstUnlike 13 = .ok (.if_icmp .ge 38, 3) := by decide +kernel
theorem dX7_firstUnlike_16 : decode cX7_firstUnlike 16 = .ok (.aload_n 0, 1) := by decide +kernel
theorem dX7_firstUnlike_17 : decode cX7_firstUnlike 17 = .ok (.invokevirtual 64, 3) := by decide +kernel
theorem dX7_firstUnlike_20 : decode cX7_firstUnlike 20 = .ok (.aload_n 0, 1) := by decide +kernel
theorem dX7_firstUnlike_21 : decode cX7_firstUnlike 21 = .ok (.getfield 15, 3) := by decide +kernel
theorem dX7_firstUnlike_24 : decode cX7_firstUnlike 24 = .ok (.getfield 67, 3) := by decide +kernel
theorem dX7_firstUnlike_27 : decode cX7_firstUnlike 27 = .ok (.iload_n 2, 1) := by decide +kernel
theorem dX7_firstUnlike_28 : decode cX7_firstUnlike 28 = .ok (.aaload, 1) := by decide +kernel
theorem dX7_firstUnlike_29 : decode cX7_firstUnlike 29 = .ok (.getfield 94, 3) := by decide +kernel
theorem dX7_firstUnlike_32 : decode cX7_firstUnlike 32 = .ok (.i2l, 1) := by decide +kernel
theorem dX7_firstUnlike_33 : decode cX7_firstUnlike 33 = .ok (.aload_n 1, 1) := by decide +kernel
theorem dX7_firstUnlike_34 : decode cX7_firstUnlike 34 = .ok (.getfield 97, 3) := by decide +kernel
theorem dX7_firstUnlike_37 : decode cX7_firstUnlike 37 = .ok (.iload_n 3, 1) := by decide +kernel
theorem dX7_firstUnlike_38 : decode cX7_firstUnlike 38 = .ok (.laload, 1) := by decide +kernel
theorem dX7_firstUnlike_39 : decode cX7_firstUnlike 39 = .ok (.lcmp, 1) := by decide +kernel
theorem dX7_firstUnlike_40 : decode cX7_firstUnlike 40 = .ok (.ifCond .eq 5, 3) := by decide +kernel
theorem dX7_firstUnlike_43 : decode cX7_firstUnlike 43 = .ok (.iload_n 3, 1) := by decide +kernel
theorem dX7_firstUnlike_44 : decode cX7_firstUnlike 44 = .ok (.ireturn, 1) := by decide +kernel
theorem dX7_firstUnlike_45 : decode cX7_firstUnlike 45 = .ok (.iinc 3 1, 3) := by decide +kernel
theorem dX7_firstUnlike_48 : decode cX7_firstUnlike 48 = .ok (.goto (-46), 3) := by decide +kernel
theorem dX7_firstUnlike_51 : decode cX7_firstUnlike 51 = .ok (.bipush (-2), 2) := by decide +kernel
theorem dX7_firstUnlike_53 : decode cX7_firstUnlike 53 = .ok (.ireturn, 1) := by decide +kernel
theorem dX8_init_0 : decode cX8_init 0 = .ok (.aload_n 0, 1) := by decide +kernel
theorem dX8_init_1 : decode cX8_init 1 = .ok (.invokespecial 3, 3) := by decide +kernel
theorem dX8_init_4 : decode cX8_init 4 = .ok (.aload_n 0, 1) := by decide +kernel
theorem dX8_init_5 : decode cX8_init 5 = .ok (.bipush 50, 2) := by decide +kernel
theorem dX8_init_7 : decode cX8_init 7 = .ok (.newarray .int, 2) := by decide +kernel
theorem dX8_init_9 : decode cX8_init 9 = .ok (.putfield 9, 3) := by decide +kernel
theorem dX8_init_12 : decode cX8_init 12 = .ok (.aload_n 0, 1) := by decide +kernel
theorem dX8_init_13 : decode cX8_init 13 = .ok (.bipush 24, 2) := by decide +kernel
theorem dX8_init_15 : decode cX8_init 15 = .ok (.newarray .int, 2) := by decide +kernel
theorem dX8_init_17 : decode cX8_init 17 = .ok (.putfield 15, 3) := by decide +kernel
theorem dX8_init_20 : decode cX8_init 20 = .ok (.return_, 1) := by decide +kernel
theorem dX8_has_0 : decode cX8_has 0 = .ok (.iload_n 1, 1) := by decide +kernel
theorem dX8_has_1 : decode cX8_has 1 = .ok (.ifCond .lt 15, 3) := by decide +kernel
theorem dX8_has_4 : decode cX8_has 4 = .ok (.iload_n 1, 1) := by decide +kernel
theorem dX8_has_5 : decode cX8_has 5 = .ok (.aload_n 0, 1) := by decide +kernel
theorem dX8_has_6 : decode cX8_has 6 = .ok (.getfield 18, 3) := by decide +kernel
theorem dX8_has_9 : decode cX8_has 9 = .ok (.if_icmp .ge 7, 3) := by decide +kernel
theorem dX8_has_12 : decode cX8_has 12 = .ok (.iconst 1, 1) := by decide +kernel
theorem dX8_has_13 : decode cX8_has 13 = .ok (.goto 4, 3) := by decide +kernel
theorem dX8_has_16 : decode cX8_has 16 = .ok (.iconst 0, 1) := by decide +kernel
theorem dX8_has_17 : decode cX8_has 17 = .ok (.ireturn, 1) := by decide +kernel
theorem dX8_isFull_0 : decode cX8_isFull 0 = .ok (.aload_n 0, 1) := by decide +kernel
theorem dX8_isFull_1 : decode cX8_isFull 1 = .ok (.getfield 18, 3) := by decide +kernel
theorem dX8_isFull_4 : decode cX8_isFull 4 = .ok (.bipush 50, 2) := by decide +kernel
theorem dX8_isFull_6 : decode cX8_isFull 6 = .ok (.if_icmp .lt 7, 3) := by decide +kernel
theorem dX8_isFull_9 : decode cX8_isFull 9 = .ok (.iconst 1, 1) := by decide +kernel
theorem dX8_isFull_10 : decode cX8_isFull 10 = .ok (.goto 4, 3) := by decide +kernel
theorem dX8_isFull_13 : decode cX8_isFull 13 = .ok (.iconst 0, 1) := by decide +kernel
theorem dX8_isFull_14 : decode cX8_isFull 14 = .ok (.ireturn, 1) := by decide +kernel
theorem dX8_addBody_0 : decode cX8_addBody 0 = .ok (.aload_n 0, 1) := by decide +kernel
theorem dX8_addBody_1 : decode cX8_addBody 1 = .ok (.invokevirtual 22, 3) := by decide +kernel
theorem dX8_addBody_4 : decode cX8_addBody 4 = .ok (.ifCond .eq 6, 3) := by decide +kernel
theorem dX8_addBody_7 : decode cX8_addBody 7 = .ok (.bipush (-3), 2) := by decide +kernel
theorem dX8_addBody_9 : decode cX8_addBody 9 = .ok (.ireturn, 1) := by decide +kernel
theorem dX8_addBody_10 : decode cX8_addBody 10 = .ok (.aload_n 0, 1) := by decide +kernel
theorem dX8_addBody_11 : decode cX8_addBody 11 = .ok (.getfield 9, 3) := by decide +kernel
theorem dX8_addBody_14 : decode cX8_addBody 14 = .ok (.aload_n 0, 1) := by decide +kernel
theorem dX8_addBody_15 : decode cX8_addBody 15 = .ok (.getfield 18, 3) := by decide +kernel
theorem dX8_addBody_18 : decode cX8_addBody 18 = .ok (.iload_n 1, 1) := by decide +kernel
theorem dX8_addBody_19 : decode cX8_addBody 19 = .ok (.iastore, 1) := by decide +kernel
theorem dX8_addBody_20 : decode cX8_addBody 20 = .ok (.aload_n 0, 1) := by decide +kernel
theorem dX8_addBody_21 : decode cX8_addBody 21 = .ok (.dup, 1) := by decide +kernel
theorem dX8_addBody_22 : decode cX8_addBody 22 = .ok (.getfield 18, 3) := by decide +kernel
theorem dX8_addBody_25 : decode cX8_addBody 25 = .ok (.iconst 1, 1) := by decide +kernel
theorem dX8_addBody_26 : decode cX8_addBody 26 = .ok (.iadd, 1) := by decide +kernel
theorem dX8_addBody_27 : decode cX8_addBody 27 = .ok (.putfield 18, 3) := by decide +kernel
theorem dX8_addBody_30 : decode cX8_addBody 30 = .ok (.aload_n 0, 1) := by decide +kernel
theorem dX8_addBody_31 : decode cX8_addBody 31 = .ok (.getfield 18, 3) := by decide +kernel
theorem dX8_addBody_34 : decode cX8_addBody 34 = .ok (.iconst 1, 1) := by decide +kernel
theorem dX8_addBody_35 : decode cX8_addBody 35 = .ok (.isub, 1) := by decide +kernel
theorem dX8_addBody_36 : decode cX8_addBody 36 = .ok (.ireturn, 1) := by decide +kernel
theorem dX8_isUnder_0 : decode cX8_isUnder 0 = .ok (.iload_n 0, 1) := by decide +kernel
theorem dX8_isUnder_1 : decode cX8_isUnder 1 = .ok (.istore_n 2, 1) := by decide +kernel
theorem dX8_isUnder_2 : decode cX8_isUnder 2 = .ok (.iconst 0, 1) := by decide +kernel
theorem dX8_isUnder_3 : decode cX8_isUnder 3 = .ok (.istore_n 3, 1) := by decide +kernel
theorem dX8_isUnder_4 : decode cX8_isUnder 4 = .ok (.iload_n 3, 1) := by decide +kernel
theorem dX8_isUnder_5 : decode cX8_isUnder 5 = .ok (.bipush 8, 2) := by decide +kernel
theorem dX8_isUnder_7 : decode cX8_isUnder 7 = .ok (.if_icmp .ge 29, 3) := by decide +kernel
theorem dX8_isUnder_10 : decode cX8_isUnder 10 = .ok (.iload_n 2, 1) := by decide +kernel
theorem dX8_isUnder_11 : decode cX8_isUnder 11 = .ok (.invokestatic 26, 3) := by decide +kernel
theorem dX8_isUnder_14 : decode cX8_isUnder 14 = .ok (.ifCond .eq 22, 3) := by decide +kernel
theorem dX8_isUnder_17 : decode cX8_isUnder 17 = .ok (.iload_n 2, 1) := by decide +kernel
theorem dX8_isUnder_18 : decode cX8_isUnder 18 = .ok (.iload_n 1, 1) := by decide +kernel
theorem dX8_isUnder_19 : decode cX8_isUnder 19 = .ok (.if_icmp .ne 5, 3) := by decide +kernel
theorem dX8_isUnder_22 : decode cX8_isUnder 22 = .ok (.iconst 1, 1) := by decide +kernel
theorem dX8_isUnder_23 : decode cX8_isUnder 23 = .ok (.ireturn, 1) := by decide +kernel
theorem dX8_isUnder_24 : decode cX8_isUnder 24 = .ok (.getstatic 30, 3) := by decide +kernel
theorem dX8_isUnder_27 : decode cX8_isUnder 27 = .ok (.iload_n 2, 1) := by decide +kernel
theorem dX8_isUnder_28 : decode cX8_isUnder 28 = .ok (.iaload, 1) := by decide +kernel
theorem dX8_isUnder_29 : decode cX8_isUnder 29 = .ok (.istore_n 2, 1) := by decide +kernel
theorem dX8_isUnder_30 : decode cX8_isUnder 30 = .ok (.iinc 3 1, 3) := by decide +kernel
theorem dX8_isUnder_33 : decode cX8_isUnder 33 = .ok (.goto (-29), 3) := by decide +kernel
theorem dX8_isUnder_36 : decode cX8_isUnder 36 = .ok (.iconst 0, 1) := by decide +kernel
theorem dX8_isUnder_37 : decode cX8_isUnder 37 = .ok (.ireturn, 1) := by decide +kernel
theorem dX8_perform_0 : decode cX8_perform 0 = .ok (.aload_n 0, 1) := by decide +kernel
theorem dX8_perform_1 : decode cX8_perform 1 = .ok (.iconst 0, 1) := by decide +kernel
theorem dX8_perform_2 : decode cX8_perform 2 = .ok (.putfield 33, 3) := by decide +kernel
theorem dX8_perform_5 : decode cX8_perform 5 = .ok (.aload_n 0, 1) := by decide +kernel
theorem dX8_perform_6 : decode cX8_perform 6 = .ok (.iload_n 1, 1) := by decide +kernel
theorem dX8_perform_7 : decode cX8_perform 7 = .ok (.putfield 36, 3) := by decide +kernel
theorem dX8_perform_10 : decode cX8_perform 10 = .ok (.aload_n 0, 1) := by decide +kernel
theorem dX8_perform_11 : decode cX8_perform 11 = .ok (.iload_n 2, 1) := by decide +kernel
theorem dX8_perform_12 : decode cX8_perform 12 = .ok (.iload_n 3, 1) := by decide +kernel
theorem dX8_perform_13 : decode cX8_perform 13 = .ok (.iconst 0, 1) := by decide +kernel
theorem dX8_perform_14 : decode cX8_perform 14 = .ok (.invokevirtual 39, 3) := by decide +kernel
theorem dX8_perform_17 : decode cX8_perform 17 = .ok (.ireturn, 1) := by decide +kernel
theorem dX8_own_0 : decode cX8_own 0 = .ok (.aload_n 0, 1) := by decide +kernel
theorem dX8_own_1 : decode cX8_own 1 = .ok (.aload_n 0, 1) := by decide +kernel
theorem dX8_own_2 : decode cX8_own 2 = .ok (.getfield 36, 3) := by decide +kernel
theorem dX8_own_5 : decode cX8_own 5 = .ok (.invokevirtual 43, 3) := by decide +kernel
theorem dX8_own_8 : decode cX8_own 8 = .ok (.ifCond .eq 22, 3) := by decide +kernel
theorem dX8_own_11 : decode cX8_own 11 = .ok (.aload_n 0, 1) := by decide +kernel
theorem dX8_own_12 : decode cX8_own 12 = .ok (.aload_n 0, 1) := by decide +kernel
theorem dX8_own_13 : decode cX8_own 13 = .ok (.getfield 9, 3) := by decide +kernel
theorem dX8_own_16 : decode cX8_own 16 = .ok (.aload_n 0, 1) := by decide +kernel
theorem dX8_own_17 : decode cX8_own 17 = .ok (.getfield 36, 3) := by decide +kernel
theorem dX8_own_20 : decode cX8_own 20 = .ok (.iaload, 1) := by decide +kernel
theorem dX8_own_21 : decode cX8_own 21 = .ok (.iload_n 1, 1) := by decide +kernel
theorem dX8_own_22 : decode cX8_own 22 = .ok (.iload_n 2, 1) := by decide +kernel
theorem dX8_own_23 : decode cX8_own 23 = .ok (.iload_n 3, 1) := by decide +kernel
theorem dX8_own_24 : decode cX8_own 24 = .ok (.invokevirtual 46, 3) := by decide +kernel
theorem dX8_own_27 : decode cX8_own 27 = .ok (.goto 4, 3) := by decide +kernel
theorem dX8_own_30 : decode cX8_own 30 = .ok (.iconst 0, 1) := by decide +kernel
theorem dX8_own_31 : decode cX8_own 31 = .ok (.ireturn, 1) := by decide +kernel
theorem dX8_above_0 : decode cX8_above 0 = .ok (.iload_n 1, 1) := by decide +kernel
theorem dX8_above_1 : decode cX8_above 1 = .ok (.invokestatic 26, 3) := by decide +kernel
theorem dX8_above_4 : decode cX8_above 4 = .ok (.ifCond .eq 19, 3) := by decide +kernel
theorem dX8_above_7 : decode cX8_above 7 = .ok (.aload_n 0, 1) := by decide +kernel
theorem dX8_above_8 : decode cX8_above 8 = .ok (.getstatic 30, 3) := by decide +kernel
theorem dX8_above_11 : decode cX8_above 11 = .ok (.iload_n 1, 1) := by decide +kernel
theorem dX8_above_12 : decode cX8_above 12 = .ok (.iaload, 1) := by decide +kernel
theorem dX8_above_13 : decode cX8_above 13 = .ok (.iload_n 2, 1) := by decide +kernel
theorem dX8_above_14 : decode cX8_above 14 = .ok (.iload_n 3, 1) := by decide +kernel
theorem dX8_above_15 : decode cX8_above 15 = .ok (.iload 4, 2) := by decide +kernel
theorem dX8_above_17 : decode cX8_above 17 = .ok (.invokevirtual 46, 3) := by decide +kernel
theorem dX8_above_20 : decode cX8_above 20 = .ok (.goto 4, 3) := by decide +kernel
theorem dX8_above_23 : decode cX8_above 23 = .ok (.iconst 0, 1) := by decide +kernel
theorem dX8_above_24 : decode cX8_above 24 = .ok (.ireturn, 1) := by decide +kernel
theorem dX8_runFrom_0 : decode cX8_runFrom 0 = .ok (.iload_n 1, 1) := by decide +kernel
theorem dX8_runFrom_1 : decode cX8_runFrom 1 = .ok (.istore 5, 2) := by decide +kernel
theorem dX8_runFrom_3 : decode cX8_runFrom 3 = .ok (.iconst 0, 1) := by decide +kernel
theorem dX8_runFrom_4 : decode cX8_runFrom 4 = .ok (.istore 6, 2) := by decide +kernel
theorem dX8_runFrom_6 : decode cX8_runFrom 6 = .ok (.iload 6, 2) := by decide +kernel
theorem dX8_runFrom_8 : decode cX8_runFrom 8 = .ok (.bipush 8, 2) := by decide +kernel
theorem dX8_runFrom_10 : decode cX8_runFrom 10 = .ok (.if_icmp .ge 71, 3) := by decide +kernel
theorem dX8_runFrom_13 : decode cX8_runFrom 13 = .ok (.iload 5, 2) := by decide +kernel
theorem dX8_runFrom_15 : decode cX8_runFrom 15 = .ok (.invokestatic 26, 3) := by decide +kernel
theorem dX8_runFrom_18 : decode cX8_runFrom 18 = .ok (.ifCond .eq 63, 3) := by decide +kernel
theorem dX8_runFrom_21 : decode cX8_runFrom 21 = .ok (.getstatic 50, 3) := by decide +kernel
theorem dX8_runFrom_24 : decode cX8_runFrom 24 = .ok (.iload 5, 2) := by decide +kernel
theorem dX8_runFrom_26 : decode cX8_runFrom 26 = .ok (.iconst 4, 1) := by decide +kernel
theorem dX8_runFrom_27 : decode cX8_runFrom 27 = .ok (.imul, 1) := by decide +kernel
theorem dX8_runFrom_28 : decode cX8_runFrom 28 = .ok (.iload_n 2, 1) := by decide +kernel
theorem dX8_runFrom_29 : decode cX8_runFrom 29 = .ok (.iadd, 1) := by decide +kernel
theorem dX8_runFrom_30 : decode cX8_runFrom 30 = .ok (.iaload, 1) := by decide +kernel
theorem dX8_runFrom_31 : decode cX8_runFrom 31 = .ok (.ifCond .eq 36, 3) := by decide +kernel
theorem dX8_runFrom_34 : decode cX8_runFrom 34 = .ok (.iload 4, 2) := by decide +kernel
theorem dX8_runFrom_36 : decode cX8_runFrom 36 = .ok (.bipush 30, 2) := by decide +kernel
theorem dX8_runFrom_38 : decode cX8_runFrom 38 = .ok (.if_icmp .ge 27, 3) := by decide +kernel
theorem dX8_runFrom_41 : decode cX8_runFrom 41 = .ok (.aload_n 0, 1) := by decide +kernel
theorem dX8_runFrom_42 : decode cX8_runFrom 42 = .ok (.getstatic 50, 3) := by decide +kernel
theorem dX8_runFrom_45 : decode cX8_runFrom 45 = .ok (.iload 5, 2) := by decide +kernel
theorem dX8_runFrom_47 : decode cX8_runFrom 47 = .ok (.iconst 4, 1) := by decide +kernel
theorem dX8_runFrom_48 : decode cX8_runFrom 48 = .ok (.imul, 1) := by decide +kernel
theorem dX8_runFrom_49 : decode cX8_runFrom 49 = .ok (.iload_n 2, 1) := by decide +kernel
theorem dX8_runFrom_50 : decode cX8_runFrom 50 = .ok (.iadd, 1) := by decide +kernel
theorem dX8_runFrom_51 : decode cX8_runFrom 51 = .ok (.iaload, 1) := by decide +kernel
theorem dX8_runFrom_52 : decode cX8_runFrom 52 = .ok (.iload 5, 2) := by decide +kernel
theorem dX8_runFrom_54 : decode cX8_runFrom 54 = .ok (.iload_n 3, 1) := by decide +kernel
theorem dX8_runFrom_55 : decode cX8_runFrom 55 = .ok (.iload 4, 2) := by decide +kernel
theorem dX8_runFrom_57 : decode cX8_runFrom 57 = .ok (.iconst 1, 1) := by decide +kernel
theorem dX8_runFrom_58 : decode cX8_runFrom 58 = .ok (.iadd, 1) := by decide +kernel
theorem dX8_runFrom_59 : decode cX8_runFrom 59 = .ok (.invokevirtual 53, 3) := by decide +kernel
theorem dX8_runFrom_62 : decode cX8_runFrom 62 = .ok (.goto 4, 3) := by decide +kernel
theorem dX8_runFrom_65 : decode cX8_runFrom 65 = .ok (.iconst 0, 1) := by decide +kernel
theorem dX8_runFrom_66 : decode cX8_runFrom 66 = .ok (.ireturn, 1) := by decide +kernel
theorem dX8_runFrom_67 : decode cX8_runFrom 67 = .ok (.getstatic 30, 3) := by decide +kernel
theorem dX8_runFrom_70 : decode cX8_runFrom 70 = .ok (.iload 5, 2) := by decide +kernel
theorem dX8_runFrom_72 : decode cX8_runFrom 72 = .ok (.iaload, 1) := by decide +kernel
theorem dX8_runFrom_73 : decode cX8_runFrom 73 = .ok (.istore 5, 2) := by decide +kernel
theorem dX8_runFrom_75 : decode cX8_runFrom 75 = .ok (.iinc 6 1, 3) := by decide +kernel
theorem dX8_runFrom_78 : decode cX8_runFrom 78 = .ok (.goto (-72), 3) := by decide +kernel
theorem dX8_runFrom_81 : decode cX8_runFrom 81 = .ok (.iconst 0, 1) := by decide +kernel
theorem dX8_runFrom_82 : decode cX8_runFrom 82 = .ok (.ireturn, 1) := by decide +kernel
theorem dX8_run_0 : decode cX8_run 0 = .ok (.aload_n 0, 1) := by decide +kernel
theorem dX8_run_1 : decode cX8_run 1 = .ok (.iload_n 1, 1) := by decide +kernel
theorem dX8_run_2 : decode cX8_run 2 = .ok (.invokevirtual 56, 3) := by decide +kernel
theorem dX8_run_5 : decode cX8_run 5 = .ok (.iload_n 1, 1) := by decide +kernel
theorem dX8_run_6 : decode cX8_run 6 = .ok (.lookupswitch 278 #[(1, 114), (2, 121), (10, 139), (11, 150), (20, 157), (30, 169), (40, 180), (41, 192), (50, 204), (60, 223), (70, 235), (80, 247), (81, 266)], 114) := by decide +kernel
theorem dX8_run_120 : decode cX8_run 120 = .ok (.iload_n 3, 1) := by decide +kernel
theorem dX8_run_121 : decode cX8_run 121 = .ok (.aload_n 0, 1) := by decide +kernel
theorem dX8_run_122 : decode cX8_run 122 = .ok (.getfield 36, 3) := by decide +kernel
theorem dX8_run_125 : decode cX8_run 125 = .ok (.iadd, 1) := by decide +kernel
theorem dX8_run_126 : decode cX8_run 126 = .ok (.ireturn, 1) := by decide +kernel
theorem dX8_run_127 : decode cX8_run 127 = .ok (.aload_n 0, 1) := by decide +kernel
theorem dX8_run_128 : decode cX8_run 128 = .ok (.iconst 1, 1) := by decide +kernel
theorem dX8_run_129 : decode cX8_run 129 = .ok (.iload_n 3, 1) := by decide +kernel
theorem dX8_run_130 : decode cX8_run 130 = .ok (.iload 4, 2) := by decide +kernel
theorem dX8_run_132 : decode cX8_run 132 = .ok (.invokevirtual 39, 3) := by decide +kernel
theorem dX8_run_135 : decode cX8_run 135 = .ok (.aload_n 0, 1) := by decide +kernel
theorem dX8_run_136 : decode cX8_run 136 = .ok (.iconst 2, 1) := by decide +kernel
theorem dX8_run_137 : decode cX8_run 137 = .ok (.iconst 1, 1) := by decide +kernel
theorem dX8_run_138 : decode cX8_run 138 = .ok (.iload 4, 2) := by decide +kernel
theorem dX8_run_140 : decode cX8_run 140 = .ok (.invokevirtual 39, 3) := by decide +kernel
theorem dX8_run_143 : decode cX8_run 143 = .ok (.isub, 1) := by decide +kernel
theorem dX8_run_144 : decode cX8_run 144 = .ok (.ireturn, 1) := by decide +kernel
theorem dX8_run_145 : decode cX8_run 145 = .ok (.aload_n 0, 1) := by decide +kernel
theorem dX8_run_146 : decode cX8_run 146 = .ok (.iconst 0, 1) := by decide +kernel
theorem dX8_run_147 : decode cX8_run 147 = .ok (.iload_n 3, 1) := by decide +kernel
theorem dX8_run_148 : decode cX8_run 148 = .ok (.iload 4, 2) := by decide +kernel
theorem dX8_run_150 : decode cX8_run 150 = .ok (.invokevirtual 39, 3) := by decide +kernel
theorem dX8_run_153 : decode cX8_run 153 = .ok (.iconst 2, 1) := by decide +kernel
theorem dX8_run_154 : decode cX8_run 154 = .ok (.imul, 1) := by decide +kernel
theorem dX8_run_155 : decode cX8_run 155 = .ok (.ireturn, 1) := by decide +kernel
theorem dX8_run_156 : decode cX8_run 156 = .ok (.iload_n 3, 1) := by decide +kernel
theorem dX8_run_157 : decode cX8_run 157 = .ok (.aload_n 0, 1) := by decide +kernel
theorem dX8_run_158 : decode cX8_run 158 = .ok (.getfield 36, 3) := by decide +kernel
theorem dX8_run_161 : decode cX8_run 161 = .ok (.ixor, 1) := by decide +kernel
theorem dX8_run_162 : decode cX8_run 162 = .ok (.ireturn, 1) := by decide +kernel
theorem dX8_run_163 : decode cX8_run 163 = .ok (.aload_n 0, 1) := by decide +kernel
theorem dX8_run_164 : decode cX8_run 164 = .ok (.iload_n 2, 1) := by decide +kernel
theorem dX8_run_165 : decode cX8_run 165 = .ok (.iconst 0, 1) := by decide +kernel
theorem dX8_run_166 : decode cX8_run 166 = .ok (.iload_n 3, 1) := by decide +kernel
theorem dX8_run_167 : decode cX8_run 167 = .ok (.iload 4, 2) := by decide +kernel
theorem dX8_run_169 : decode cX8_run 169 = .ok (.invokevirtual 60, 3) := by decide +kernel
theorem dX8_run_172 : decode cX8_run 172 = .ok (.iconst 3, 1) := by decide +kernel
theorem dX8_run_173 : decode cX8_run 173 = .ok (.iadd, 1) := by decide +kernel
theorem dX8_run_174 : decode cX8_run 174 = .ok (.ireturn, 1) := by decide +kernel
theorem dX8_run_175 : decode cX8_run 175 = .ok (.aload_n 0, 1) := by decide +kernel
theorem dX8_run_176 : decode cX8_run 176 = .ok (.iload_n 2, 1) := by decide +kernel
theorem dX8_run_177 : decode cX8_run 177 = .ok (.iconst 1, 1) := by decide +kernel
theorem dX8_run_178 : decode cX8_run 178 = .ok (.iload_n 3, 1) := by decide +kernel
theorem dX8_run_179 : decode cX8_run 179 = .ok (.iload 4, 2) := by decide +kernel
theorem dX8_run_181 : decode cX8_run 181 = .ok (.invokevirtual 60, 3) := by decide +kernel
theorem dX8_run_184 : decode cX8_run 184 = .ok (.ineg, 1) := by decide +kernel
theorem dX8_run_185 : decode cX8_run 185 = .ok (.ireturn, 1) := by decide +kernel
theorem dX8_run_186 : decode cX8_run 186 = .ok (.aload_n 0, 1) := by decide +kernel
theorem dX8_run_187 : decode cX8_run 187 = .ok (.iload_n 2, 1) := by decide +kernel
theorem dX8_run_188 : decode cX8_run 188 = .ok (.iconst 2, 1) := by decide +kernel
theorem dX8_run_189 : decode cX8_run 189 = .ok (.iload_n 3, 1) := by decide +kernel
theorem dX8_run_190 : decode cX8_run 190 = .ok (.iload 4, 2) := by decide +kernel
theorem dX8_run_192 : decode cX8_run 192 = .ok (.invokevirtual 60, 3) := by decide +kernel
theorem dX8_run_195 : decode cX8_run 195 = .ok (.iconst 3, 1) := by decide +kernel
theorem dX8_run_196 : decode cX8_run 196 = .ok (.imul, 1) := by decide +kernel
theorem dX8_run_197 : decode cX8_run 197 = .ok (.ireturn, 1) := by decide +kernel
theorem dX8_run_198 : decode cX8_run 198 = .ok (.aload_n 0, 1) := by decide +kernel
theorem dX8_run_199 : decode cX8_run 199 = .ok (.iload_n 2, 1) := by decide +kernel
theorem dX8_run_200 : decode cX8_run 200 = .ok (.iconst 1, 1) := by decide +kernel
theorem dX8_run_201 : decode cX8_run 201 = .ok (.iload_n 3, 1) := by decide +kernel
theorem dX8_run_202 : decode cX8_run 202 = .ok (.iconst 1, 1) := by decide +kernel
theorem dX8_run_203 : decode cX8_run 203 = .ok (.iadd, 1) := by decide +kernel
theorem dX8_run_204 : decode cX8_run 204 = .ok (.iload 4, 2) := by decide +kernel
theorem dX8_run_206 : decode cX8_run 206 = .ok (.invokevirtual 60, 3) := by decide +kernel
theorem dX8_run_209 : decode cX8_run 209 = .ok (.ireturn, 1) := by decide +kernel
theorem dX8_run_210 : decode cX8_run 210 = .ok (.aload_n 0, 1) := by decide +kernel
theorem dX8_run_211 : decode cX8_run 211 = .ok (.iload_n 2, 1) := by decide +kernel
theorem dX8_run_212 : decode cX8_run 212 = .ok (.iconst 2, 1) := by decide +kernel
theorem dX8_run_213 : decode cX8_run 213 = .ok (.iload_n 3, 1) := by decide +kernel
theorem dX8_run_214 : decode cX8_run 214 = .ok (.iload 4, 2) := by decide +kernel
theorem dX8_run_216 : decode cX8_run 216 = .ok (.invokevirtual 60, 3) := by decide +kernel
theorem dX8_run_219 : decode cX8_run 219 = .ok (.aload_n 0, 1) := by decide +kernel
theorem dX8_run_220 : decode cX8_run 220 = .ok (.iconst 0, 1) := by decide +kernel
theorem dX8_run_221 : decode cX8_run 221 = .ok (.iconst 2, 1) := by decide +kernel
theorem dX8_run_222 : decode cX8_run 222 = .ok (.iload 4, 2) := by decide +kernel
theorem dX8_run_224 : decode cX8_run 224 = .ok (.invokevirtual 39, 3) := by decide +kernel
theorem dX8_run_227 : decode cX8_run 227 = .ok (.isub, 1) := by decide +kernel
theorem dX8_run_228 : decode cX8_run 228 = .ok (.ireturn, 1) := by decide +kernel
theorem dX8_run_229 : decode cX8_run 229 = .ok (.aload_n 0, 1) := by decide +kernel
theorem dX8_run_230 : decode cX8_run 230 = .ok (.iload_n 2, 1) := by decide +kernel
theorem dX8_run_231 : decode cX8_run 231 = .ok (.iconst 3, 1) := by decide +kernel
theorem dX8_run_232 : decode cX8_run 232 = .ok (.iload_n 3, 1) := by decide +kernel
theorem dX8_run_233 : decode cX8_run 233 = .ok (.iload 4, 2) := by decide +kernel
theorem dX8_run_235 : decode cX8_run 235 = .ok (.invokevirtual 60, 3) := by decide +kernel
theorem dX8_run_238 : decode cX8_run 238 = .ok (.iconst 5, 1) := by decide +kernel
theorem dX8_run_239 : decode cX8_run 239 = .ok (.ixor, 1) := by decide +kernel
theorem dX8_run_240 : decode cX8_run 240 = .ok (.ireturn, 1) := by decide +kernel
theorem dX8_run_241 : decode cX8_run 241 = .ok (.aload_n 0, 1) := by decide +kernel
theorem dX8_run_242 : decode cX8_run 242 = .ok (.iload_n 2, 1) := by decide +kernel
theorem dX8_run_243 : decode cX8_run 243 = .ok (.iconst 0, 1) := by decide +kernel
theorem dX8_run_244 : decode cX8_run 244 = .ok (.iload_n 3, 1) := by decide +kernel
theorem dX8_run_245 : decode cX8_run 245 = .ok (.iload 4, 2) := by decide +kernel
theorem dX8_run_247 : decode cX8_run 247 = .ok (.invokevirtual 60, 3) := by decide +kernel
theorem dX8_run_250 : decode cX8_run 250 = .ok (.iconst 2, 1) := by decide +kernel
theorem dX8_run_251 : decode cX8_run 251 = .ok (.imul, 1) := by decide +kernel
theorem dX8_run_252 : decode cX8_run 252 = .ok (.ireturn, 1) := by decide +kernel
theorem dX8_run_253 : decode cX8_run 253 = .ok (.aload_n 0, 1) := by decide +kernel
theorem dX8_run_254 : decode cX8_run 254 = .ok (.iload_n 2, 1) := by decide +kernel
theorem dX8_run_255 : decode cX8_run 255 = .ok (.iconst 1, 1) := by decide +kernel
theorem dX8_run_256 : decode cX8_run 256 = .ok (.iload_n 3, 1) := by decide +kernel
theorem dX8_run_257 : decode cX8_run 257 = .ok (.iload 4, 2) := by decide +kernel
theorem dX8_run_259 : decode cX8_run 259 = .ok (.invokevirtual 60, 3) := by decide +kernel
theorem dX8_run_262 : decode cX8_run 262 = .ok (.aload_n 0, 1) := by decide +kernel
theorem dX8_run_263 : decode cX8_run 263 = .ok (.iconst 2, 1) := by decide +kernel
theorem dX8_run_264 : decode cX8_run 264 = .ok (.iconst 2, 1) := by decide +kernel
theorem dX8_run_265 : decode cX8_run 265 = .ok (.iload 4, 2) := by decide +kernel
theorem dX8_run_267 : decode cX8_run 267 = .ok (.invokevirtual 39, 3) := by decide +kernel
theorem dX8_run_270 : decode cX8_run 270 = .ok (.iadd, 1) := by decide +kernel
theorem dX8_run_271 : decode cX8_run 271 = .ok (.ireturn, 1) := by decide +kernel
theorem dX8_run_272 : decode cX8_run 272 = .ok (.aload_n 0, 1) := by decide +kernel
theorem dX8_run_273 : decode cX8_run 273 = .ok (.iload_n 2, 1) := by decide +kernel
theorem dX8_run_274 : decode cX8_run 274 = .ok (.iconst 3, 1) := by decide +kernel
theorem dX8_run_275 : decode cX8_run 275 = .ok (.iload_n 3, 1) := by decide +kernel
theorem dX8_run_276 : decode cX8_run 276 = .ok (.iload 4, 2) := by decide +kernel
theorem dX8_run_278 : decode cX8_run 278 = .ok (.invokevirtual 60, 3) := by decide +kernel
theorem dX8_run_281 : decode cX8_run 281 = .ok (.iconst 1, 1) := by decide +kernel
theorem dX8_run_282 : decode cX8_run 282 = .ok (.isub, 1) := by decide +kernel
theorem dX8_run_283 : decode cX8_run 283 = .ok (.ireturn, 1) := by decide +kernel
theorem dX8_run_284 : decode cX8_run 284 = .ok (.iconst 0, 1) := by decide +kernel
theorem dX8_run_285 : decode cX8_run 285 = .ok (.ireturn, 1) := by decide +kernel
theorem dX8_note_0 : decode cX8_note 0 = .ok (.aload_n 0, 1) := by decide +kernel
theorem dX8_note_1 : decode cX8_note 1 = .ok (.getfield 33, 3) := by decide +kernel
theorem dX8_note_4 : decode cX8_note 4 = .ok (.bipush 24, 2) := by decide +kernel
theorem dX8_note_6 : decode cX8_note 6 = .ok (.if_icmp .ge 13, 3) := by decide +kernel
theorem dX8_note_9 : decode cX8_note 9 = .ok (.aload_n 0, 1) := by decide +kernel
theorem dX8_note_10 : decode cX8_note 10 = .ok (.getfield 15, 3) := by decide +kernel
theorem dX8_note_13 : decode cX8_note 13 = .ok (.aload_n 0, 1) := by decide +kernel
theorem dX8_note_14 : decode cX8_note 14 = .ok (.getfield 33, 3) := by decide +kernel
theorem dX8_note_17 : decode cX8_note 17 = .ok (.iload_n 1, 1) := by decide +kernel
theorem dX8_note_18 : decode cX8_note 18 = .ok (.iastore, 1) := by decide +kernel
theorem dX8_note_19 : decode cX8_note 19 = .ok (.aload_n 0, 1) := by decide +kernel
theorem dX8_note_20 : decode cX8_note 20 = .ok (.dup, 1) := by decide +kernel
theorem dX8_note_21 : decode cX8_note 21 = .ok (.getfield 33, 3) := by decide +kernel
theorem dX8_note_24 : decode cX8_note 24 = .ok (.iconst 1, 1) := by decide +kernel
theorem dX8_note_25 : decode cX8_note 25 = .ok (.iadd, 1) := by decide +kernel
theorem dX8_note_26 : decode cX8_note 26 = .ok (.putfield 33, 3) := by decide +kernel
theorem dX8_note_29 : decode cX8_note 29 = .ok (.return_, 1) := by decide +kernel
theorem dX9_init_0 : decode cX9_init 0 = .ok (.aload_n 0, 1) := by decide +kernel
theorem dX9_init_1 : decode cX9_init 1 = .ok (.invokespecial 1, 3) := by decide +kernel
theorem dX9_init_4 : decode cX9_init 4 = .ok (.aload_n 0, 1) := by decide +kernel
theorem dX9_init_5 : decode cX9_init 5 = .ok (.new 7, 3) := by decide +kernel
theorem dX9_init_8 : decode cX9_init 8 = .ok (.dup, 1) := by decide +kernel
theorem dX9_init_9 : decode cX9_init 9 = .ok (.invokespecial 9, 3) := by decide +kernel
theorem dX9_init_12 : decode cX9_init 12 = .ok (.putfield 10, 3) := by decide +kernel
theorem dX9_init_15 : decode cX9_init 15 = .ok (.aload_n 0, 1) := by decide +kernel
theorem dX9_init_16 : decode cX9_init 16 = .ok (.new 16, 3) := by decide +kernel
theorem dX9_init_19 : decode cX9_init 19 = .ok (.dup, 1) := by decide +kernel
theorem dX9_init_20 : decode cX9_init 20 = .ok (.invokespecial 18, 3) := by decide +kernel
theorem dX9_init_23 : decode cX9_init 23 = .ok (.putfield 19, 3) := by decide +kernel
theorem dX9_init_26 : decode cX9_init 26 = .ok (.aload_n 0, 1) := by decide +kernel
theorem dX9_init_27 : decode cX9_init 27 = .ok (.new 23, 3) := by decide +kernel
theorem dX9_init_30 : decode cX9_init 30 = .ok (.dup, 1) := by decide +kernel
theorem dX9_init_31 : decode cX9_init 31 = .ok (.aload_n 0, 1) := by decide +kernel
theorem dX9_init_32 : decode cX9_init 32 = .ok (.getfield 10, 3) := by decide +kernel
theorem dX9_init_35 : decode cX9_init 35 = .ok (.invokespecial 25, 3) := by decide +kernel
theorem dX9_init_38 : decode cX9_init 38 = .ok (.putfield 28, 3) := by decide +kernel
theorem dX9_init_41 : decode cX9_init 41 = .ok (.aload_n 0, 1) := by decide +kernel
theorem dX9_init_42 : decode cX9_init 42 = .ok (.new 23, 3) := by decide +kernel
theorem dX9_init_45 : decode cX9_init 45 = .ok (.dup, 1) := by decide +kernel
theorem dX9_init_46 : decode cX9_init 46 = .ok (.aload_n 0, 1) := by decide +kernel
theorem dX9_init_47 : decode cX9_init 47 = .ok (.getfield 10, 3) := by decide +kernel
theorem dX9_init_50 : decode cX9_init 50 = .ok (.invokespecial 25, 3) := by decide +kernel
theorem dX9_init_53 : decode cX9_init 53 = .ok (.putfield 32, 3) := by decide +kernel
theorem dX9_init_56 : decode cX9_init 56 = .ok (.aload_n 0, 1) := by decide +kernel
theorem dX9_init_57 : decode cX9_init 57 = .ok (.new 35, 3) := by decide +kernel
theorem dX9_init_60 : decode cX9_init 60 = .ok (.dup, 1) := by decide +kernel
theorem dX9_init_61 : decode cX9_init 61 = .ok (.aload_n 0, 1) := by decide +kernel
theorem dX9_init_62 : decode cX9_init 62 = .ok (.getfield 28, 3) := by decide +kernel
theorem dX9_init_65 : decode cX9_init 65 = .ok (.new 23, 3) := by decide +kernel
theorem dX9_init_68 : decode cX9_init 68 = .ok (.dup, 1) := by decide +kernel
theorem dX9_init_69 : decode cX9_init 69 = .ok (.aload_n 0, 1) := by decide +kernel
theorem dX9_init_70 : decode cX9_init 70 = .ok (.getfield 10, 3) := by decide +kernel
theorem dX9_init_73 : decode cX9_init 73 = .ok (.invokespecial 25, 3) := by decide +kernel
theorem dX9_init_76 : decode cX9_init 76 = .ok (.invokespecial 37, 3) := by decide +kernel
theorem dX9_init_79 : decode cX9_init 79 = .ok (.putfield 40, 3) := by decide +kernel
theorem dX9_init_82 : decode cX9_init 82 = .ok (.aload_n 0, 1) := by decide +kernel
theorem dX9_init_83 : decode cX9_init 83 = .ok (.new 44, 3) := by decide +kernel
theorem dX9_init_86 : decode cX9_init 86 = .ok (.dup, 1) := by decide +kernel
theorem dX9_init_87 : decode cX9_init 87 = .ok (.invokespecial 46, 3) := by decide +kernel
theorem dX9_init_90 : decode cX9_init 90 = .ok (.putfield 47, 3) := by decide +kernel
theorem dX9_init_93 : decode cX9_init 93 = .ok (.aload_n 0, 1) := by decide +kernel
theorem dX9_init_94 : decode cX9_init 94 = .ok (.new 51, 3) := by decide +kernel
theorem dX9_init_97 : decode cX9_init 97 = .ok (.dup, 1) := by decide +kernel
theorem dX9_init_98 : decode cX9_init 98 = .ok (.invokespecial 53, 3) := by decide +kernel
theorem dX9_init_101 : decode cX9_init 101 = .ok (.putfield 54, 3) := by decide +kernel
theorem dX9_init_104 : decode cX9_init 104 = .ok (.aload_n 0, 1) := by decide +kernel
theorem dX9_init_105 : decode cX9_init 105 = .ok (.new 58, 3) := by decide +kernel
theorem dX9_init_108 : decode cX9_init 108 = .ok (.dup, 1) := by decide +kernel
theorem dX9_init_109 : decode cX9_init 109 = .ok (.invokespecial 60, 3) := by decide +kernel
theorem dX9_init_112 : decode cX9_init 112 = .ok (.putfield 61, 3) := by decide +kernel
theorem dX9_init_115 : decode cX9_init 115 = .ok (.aload_n 0, 1) := by decide +kernel
theorem dX9_init_116 : decode cX9_init 116 = .ok (.bipush 6, 2) := by decide +kernel
theorem dX9_init_118 : decode cX9_init 118 = .ok (.anewarray 65, 3) := by decide +kernel
theorem dX9_init_121 : decode cX9_init 121 = .ok (.putfield 67, 3) := by decide +kernel
theorem dX9_init_124 : decode cX9_init 124 = .ok (.iconst 0, 1) := by decide +kernel
theorem dX9_init_125 : decode cX9_init 125 = .ok (.istore_n 1, 1) := by decide +kernel
theorem dX9_init_126 : decode cX9_init 126 = .ok (.iload_n 1, 1) := by decide +kernel
theorem dX9_init_127 : decode cX9_init 127 = .ok (.bipush 6, 2) := by decide +kernel
theorem dX9_init_129 : decode cX9_init 129 = .ok (.if_icmp .ge 22, 3) := by decide +kernel
theorem dX9_init_132 : decode cX9_init 132 = .ok (.aload_n 0, 1) := by decide +kernel
theorem dX9_init_133 : decode cX9_init 133 = .ok (.getfield 67, 3) := by decide +kernel
theorem dX9_init_136 : decode cX9_init 136 = .ok (.iload_n 1, 1) := by decide +kernel
theorem dX9_init_137 : decode cX9_init 137 = .ok (.new 65, 3) := by decide +kernel
theorem dX9_init_140 : decode cX9_init 140 = .ok (.dup, 1) := by decide +kernel
theorem dX9_init_141 : decode cX9_init 141 = .ok (.invokespecial 71, 3) := by decide +kernel
theorem dX9_init_144 : decode cX9_init 144 = .ok (.aastore, 1) := by decide +kernel
theorem dX9_init_145 : decode cX9_init 145 = .ok (.iinc 1 1, 3) := by decide +kernel
theorem dX9_init_148 : decode cX9_init 148 = .ok (.goto (-22), 3) := by decide +kernel
theorem dX9_init_151 : decode cX9_init 151 = .ok (.aload_n 0, 1) := by decide +kernel
theorem dX9_init_152 : decode cX9_init 152 = .ok (.iconst 0, 1) := by decide +kernel
theorem dX9_init_153 : decode cX9_init 153 = .ok (.putfield 72, 3) := by decide +kernel
theorem dX9_init_156 : decode cX9_init 156 = .ok (.return_, 1) := by decide +kernel
theorem dX9_hoop_0 : decode cX9_hoop 0 = .ok (.iload_n 1, 1) := by decide +kernel
theorem dX9_hoop_1 : decode cX9_hoop 1 = .ok (.ifCond .lt 23, 3) := by decide +kernel
theorem dX9_hoop_4 : decode cX9_hoop 4 = .ok (.iload_n 1, 1) := by decide +kernel
theorem dX9_hoop_5 : decode cX9_hoop 5 = .ok (.bipush 10, 2) := by decide +kernel
theorem dX9_hoop_7 : decode cX9_hoop 7 = .ok (.idiv, 1) := by decide +kernel
theorem dX9_hoop_8 : decode cX9_hoop 8 = .ok (.invokestatic 76, 3) := by decide +kernel
theorem dX9_hoop_11 : decode cX9_hoop 11 = .ok (.ifCond .eq 13, 3) := by decide +kernel
theorem dX9_hoop_14 : decode cX9_hoop 14 = .ok (.iload_n 1, 1) := by decide +kernel
theorem dX9_hoop_15 : decode cX9_hoop 15 = .ok (.bipush 10, 2) := by decide +kernel
theorem dX9_hoop_17 : decode cX9_hoop 17 = .ok (.irem, 1) := by decide +kernel
theorem dX9_hoop_18 : decode cX9_hoop 18 = .ok (.invokestatic 76, 3) := by decide +kernel
theorem dX9_hoop_21 : decode cX9_hoop 21 = .ok (.ifCond .ne 5, 3) := by decide +kernel
theorem dX9_hoop_24 : decode cX9_hoop 24 = .ok (.iconst (-1), 1) := by decide +kernel
theorem dX9_hoop_25 : decode cX9_hoop 25 = .ok (.ireturn, 1) := by decide +kernel
theorem dX9_hoop_26 : decode cX9_hoop 26 = .ok (.aload_n 0, 1) := by decide +kernel
theorem dX9_hoop_27 : decode cX9_hoop 27 = .ok (.getfield 28, 3) := by decide +kernel
theorem dX9_hoop_30 : decode cX9_hoop 30 = .ok (.invokevirtual 80, 3) := by decide +kernel
theorem dX9_hoop_33 : decode cX9_hoop 33 = .ok (.ifCond .eq 6, 3) := by decide +kernel
theorem dX9_hoop_36 : decode cX9_hoop 36 = .ok (.bipush (-3), 2) := by decide +kernel
theorem dX9_hoop_38 : decode cX9_hoop 38 = .ok (.ireturn, 1) := by decide +kernel
theorem dX9_hoop_39 : decode cX9_hoop 39 = .ok (.aload_n 0, 1) := by decide +kernel
theorem dX9_hoop_40 : decode cX9_hoop 40 = .ok (.getfield 28, 3) := by decide +kernel
theorem dX9_hoop_43 : decode cX9_hoop 43 = .ok (.iload_n 1, 1) := by decide +kernel
theorem dX9_hoop_44 : decode cX9_hoop 44 = .ok (.bipush 10, 2) := by decide +kernel
theorem dX9_hoop_46 : decode cX9_hoop 46 = .ok (.idiv, 1) := by decide +kernel
theorem dX9_hoop_47 : decode cX9_hoop 47 = .ok (.iload_n 1, 1) := by decide +kernel
theorem dX9_hoop_48 : decode cX9_hoop 48 = .ok (.bipush 10, 2) := by decide +kernel
theorem dX9_hoop_50 : decode cX9_hoop 50 = .ok (.irem, 1) := by decide +kernel
theorem dX9_hoop_51 : decode cX9_hoop 51 = .ok (.iconst 4, 1) := by decide +kernel
theorem dX9_hoop_52 : decode cX9_hoop 52 = .ok (.invokevirtual 84, 3) := by decide +kernel
theorem dX9_hoop_55 : decode cX9_hoop 55 = .ok (.ireturn, 1) := by decide +kernel
theorem dX9_hoops_0 : decode cX9_hoops 0 = .ok (.iload_n 1, 1) := by decide +kernel
theorem dX9_hoops_1 : decode cX9_hoops 1 = .ok (.invokestatic 88, 3) := by decide +kernel
theorem dX9_hoops_4 : decode cX9_hoops 4 = .ok (.ifCond .eq 13, 3) := by decide +kernel
theorem dX9_hoops_7 : decode cX9_hoops 7 = .ok (.iload_n 3, 1) := by decide +kernel
theorem dX9_hoops_8 : decode cX9_hoops 8 = .ok (.iconst 1, 1) := by decide +kernel
theorem dX9_hoops_9 : decode cX9_hoops 9 = .ok (.if_icmp .lt 8, 3) := by decide +kernel
theorem dX9_hoops_12 : decode cX9_hoops 12 = .ok (.iload_n 3, 1) := by decide +kernel
theorem dX9_hoops_13 : decode cX9_hoops 13 = .ok (.iconst 5, 1) := by decide +kernel
theorem dX9_hoops_14 : decode cX9_hoops 14 = .ok (.if_icmp .le 5, 3) := by decide +kernel
theorem dX9_hoops_17 : decode cX9_hoops 17 = .ok (.iconst (-1), 1) := by decide +kernel
theorem dX9_hoops_18 : decode cX9_hoops 18 = .ok (.ireturn, 1) := by decide +kernel
theorem dX9_hoops_19 : decode cX9_hoops 19 = .ok (.aload_n 0, 1) := by decide +kernel
theorem dX9_hoops_20 : decode cX9_hoops 20 = .ok (.getfield 67, 3) := by decide +kernel
theorem dX9_hoops_23 : decode cX9_hoops 23 = .ok (.iload_n 1, 1) := by decide +kernel
theorem dX9_hoops_24 : decode cX9_hoops 24 = .ok (.aaload, 1) := by decide +kernel
theorem dX9_hoops_25 : decode cX9_hoops 25 = .ok (.astore 4, 2) := by decide +kernel
theorem dX9_hoops_27 : decode cX9_hoops 27 = .ok (.aload 4, 2) := by decide +kernel
theorem dX9_hoops_29 : decode cX9_hoops 29 = .ok (.invokevirtual 91, 3) := by decide +kernel
theorem dX9_hoops_32 : decode cX9_hoops 32 = .ok (.ifCond .ne 14, 3) := by decide +kernel
theorem dX9_hoops_35 : decode cX9_hoops 35 = .ok (.aload 4, 2) := by decide +kernel
theorem dX9_hoops_37 : decode cX9_hoops 37 = .ok (.invokevirtual 94, 3) := by decide +kernel
theorem dX9_hoops_40 : decode cX9_hoops 40 = .ok (.ifCond .ne 6, 3) := by decide +kernel
theorem dX9_hoops_43 : decode cX9_hoops 43 = .ok (.bipush (-12), 2) := by decide +kernel
theorem dX9_hoops_45 : decode cX9_hoops 45 = .ok (.ireturn, 1) := by decide +kernel
theorem dX9_hoops_46 : decode cX9_hoops 46 = .ok (.iconst 0, 1) := by decide +kernel
theorem dX9_hoops_47 : decode cX9_hoops 47 = .ok (.istore 5, 2) := by decide +kernel
theorem dX9_hoops_49 : decode cX9_hoops 49 = .ok (.iload 5, 2) := by decide +kernel
theorem dX9_hoops_51 : decode cX9_hoops 51 = .ok (.iload_n 3, 1) := by decide +kernel
theorem dX9_hoops_52 : decode cX9_hoops 52 = .ok (.if_icmp .ge 24, 3) := by decide +kernel
theorem dX9_hoops_55 : decode cX9_hoops 55 = .ok (.aload_n 0, 1) := by decide +kernel
theorem dX9_hoops_56 : decode cX9_hoops 56 = .ok (.aload 4, 2) := by decide +kernel
theorem dX9_hoops_58 : decode cX9_hoops 58 = .ok (.iload_n 2, 1) := by decide +kernel
theorem dX9_hoops_59 : decode cX9_hoops 59 = .ok (.iconst 3, 1) := by decide +kernel
theorem dX9_hoops_60 : decode cX9_hoops 60 = .ok (.iload 5, 2) := by decide +kernel
theorem dX9_hoops_62 : decode cX9_hoops 62 = .ok (.imul, 1) := by decide +kernel
theorem dX9_hoops_63 : decode cX9_hoops 63 = .ok (.iadd, 1) := by decide +kernel
theorem dX9_hoops_64 : decode cX9_hoops 64 = .ok (.invokevirtual 97, 3) := by decide +kernel
theorem dX9_hoops_67 : decode cX9_hoops 67 = .ok (.ifCond .eq 9, 3) := by decide +kernel
theorem dX9_hoops_70 : decode cX9_hoops 70 = .ok (.iinc 5 1, 3) := by decide +kernel
theorem dX9_hoops_73 : decode cX9_hoops 73 = .ok (.goto (-24), 3) := by decide +kernel
theorem dX9_hoops_76 : decode cX9_hoops 76 = .ok (.iload 5, 2) := by decide +kernel
theorem dX9_hoops_78 : decode cX9_hoops 78 = .ok (.ireturn, 1) := by decide +kernel
theorem dX9_mend_0 : decode cX9_mend 0 = .ok (.aload_n 0, 1) := by decide +kernel
theorem dX9_mend_1 : decode cX9_mend 1 = .ok (.iload_n 1, 1) := by decide +kernel
theorem dX9_mend_2 : decode cX9_mend 2 = .ok (.iload_n 2, 1) := by decide +kernel
theorem dX9_mend_3 : decode cX9_mend 3 = .ok (.iload_n 3, 1) := by decide +kernel
theorem dX9_mend_4 : decode cX9_mend 4 = .ok (.invokevirtual 101, 3) := by decide +kernel
theorem dX9_mend_7 : decode cX9_mend 7 = .ok (.ifCond .ne 6, 3) := by decide +kernel
theorem dX9_mend_10 : decode cX9_mend 10 = .ok (.ldc 105, 2) := by decide +kernel
theorem dX9_mend_12 : decode cX9_mend 12 = .ok (.ireturn, 1) := by decide +kernel
theorem dX9_mend_13 : decode cX9_mend 13 = .ok (.aload_n 0, 1) := by decide +kernel
theorem dX9_mend_14 : decode cX9_mend 14 = .ok (.iload_n 1, 1) := by decide +kernel
theorem dX9_mend_15 : decode cX9_mend 15 = .ok (.iload_n 2, 1) := by decide +kernel
theorem dX9_mend_16 : decode cX9_mend 16 = .ok (.invokevirtual 106, 3) := by decide +kernel
theorem dX9_mend_19 : decode cX9_mend 19 = .ok (.istore 4, 2) := by decide +kernel
theorem dX9_mend_21 : decode cX9_mend 21 = .ok (.iload 4, 2) := by decide +kernel
theorem dX9_mend_23 : decode cX9_mend 23 = .ok (.iload_n 3, 1) := by decide +kernel
theorem dX9_mend_24 : decode cX9_mend 24 = .ok (.if_icmp .eq 22, 3) := by decide +kernel
theorem dX9_mend_27 : decode cX9_mend 27 = .ok (.aload_n 0, 1) := by decide +kernel
theorem dX9_mend_28 : decode cX9_mend 28 = .ok (.iload_n 1, 1) := by decide +kernel
theorem dX9_mend_29 : decode cX9_mend 29 = .ok (.iload_n 2, 1) := by decide +kernel
theorem dX9_mend_30 : decode cX9_mend 30 = .ok (.iload_n 3, 1) := by decide +kernel
theorem dX9_mend_31 : decode cX9_mend 31 = .ok (.invokevirtual 110, 3) := by decide +kernel
theorem dX9_mend_34 : decode cX9_mend 34 = .ok (.aload_n 0, 1) := by decide +kernel
theorem dX9_mend_35 : decode cX9_mend 35 = .ok (.getfield 54, 3) := by decide +kernel
theorem dX9_mend_38 : decode cX9_mend 38 = .ok (.iload_n 1, 1) := by decide +kernel
theorem dX9_mend_39 : decode cX9_mend 39 = .ok (.iload_n 2, 1) := by decide +kernel
theorem dX9_mend_40 : decode cX9_mend 40 = .ok (.iload 4, 2) := by decide +kernel
theorem dX9_mend_42 : decode cX9_mend 42 = .ok (.iload_n 3, 1) := by decide +kernel
theorem dX9_mend_43 : decode cX9_mend 43 = .ok (.invokevirtual 114, 3) := by decide +kernel
theorem dX9_mend_46 : decode cX9_mend 46 = .ok (.iload 4, 2) := by decide +kernel
theorem dX9_mend_48 : decode cX9_mend 48 = .ok (.ireturn, 1) := by decide +kernel
theorem dX9_of_0 : decode cX9_of 0 = .ok (.iload_n 2, 1) := by decide +kernel
theorem dX9_of_1 : decode cX9_of 1 = .ok (.ifCond .lt 38, 3) := by decide +kernel
theorem dX9_of_4 : decode cX9_of 4 = .ok (.iload_n 2, 1) := by decide +kernel
theorem dX9_of_5 : decode cX9_of 5 = .ok (.iconst 5, 1) := by decide +kernel
theorem dX9_of_6 : decode cX9_of 6 = .ok (.if_icmp .gt 33, 3) := by decide +kernel
theorem dX9_of_9 : decode cX9_of 9 = .ok (.aload_n 0, 1) := by decide +kernel
theorem dX9_of_10 : decode cX9_of 10 = .ok (.getfield 28, 3) := by decide +kernel
theorem dX9_of_13 : decode cX9_of 13 = .ok (.iload_n 1, 1) := by decide +kernel
theorem dX9_of_14 : decode cX9_of 14 = .ok (.invokevirtual 118, 3) := by decide +kernel
theorem dX9_of_17 : decode cX9_of 17 = .ok (.ifCond .eq 19, 3) := by decide +kernel
theorem dX9_of_20 : decode cX9_of 20 = .ok (.aload_n 0, 1) := by decide +kernel
theorem dX9_of_21 : decode cX9_of 21 = .ok (.getfield 28, 3) := by decide +kernel
theorem dX9_of_24 : decode cX9_of 24 = .ok (.getfield 121, 3) := by decide +kernel
theorem dX9_of_27 : decode cX9_of 27 = .ok (.iload_n 1, 1) := by decide +kernel
theorem dX9_of_28 : decode cX9_of 28 = .ok (.aaload, 1) := by decide +kernel
theorem dX9_of_29 : decode cX9_of 29 = .ok (.iload_n 2, 1) := by decide +kernel
theorem dX9_of_30 : decode cX9_of 30 = .ok (.invokevirtual 125, 3) := by decide +kernel
theorem dX9_of_33 : decode cX9_of 33 = .ok (.goto 5, 3) := by decide +kernel
theorem dX9_of_36 : decode cX9_of 36 = .ok (.ldc 105, 2) := by decide +kernel
theorem dX9_of_38 : decode cX9_of 38 = .ok (.ireturn, 1) := by decide +kernel
theorem dX9_of_39 : decode cX9_of 39 = .ok (.iload_n 2, 1) := by decide +kernel
theorem dX9_of_40 : decode cX9_of 40 = .ok (.bipush 10, 2) := by decide +kernel
theorem dX9_of_42 : decode cX9_of 42 = .ok (.if_icmp .lt 24, 3) := by decide +kernel
theorem dX9_of_45 : decode cX9_of 45 = .ok (.iload_n 2, 1) := by decide +kernel
theorem dX9_of_46 : decode cX9_of 46 = .ok (.bipush 15, 2) := by decide +kernel
theorem dX9_of_48 : decode cX9_of 48 = .ok (.if_icmp .gt 18, 3) := by decide +kernel
theorem dX9_of_51 : decode cX9_of 51 = .ok (.iload_n 1, 1) := by decide +kernel
theorem dX9_of_52 : decode cX9_of 52 = .ok (.ifCond .ne 11, 3) := by decide +kernel
theorem dX9_of_55 : decode cX9_of 55 = .ok (.aload_n 0, 1) := by decide +kernel
theorem dX9_of_56 : decode cX9_of 56 = .ok (.iload_n 2, 1) := by decide +kernel
theorem dX9_of_57 : decode cX9_of 57 = .ok (.invokevirtual 131, 3) := by decide +kernel
theorem dX9_of_60 : decode cX9_of 60 = .ok (.goto 5, 3) := by decide +kernel
theorem dX9_of_63 : decode cX9_of 63 = .ok (.ldc 105, 2) := by decide +kernel
theorem dX9_of_65 : decode cX9_of 65 = .ok (.ireturn, 1) := by decide +kernel
theorem dX9_of_66 : decode cX9_of 66 = .ok (.iload_n 2, 1) := by decide +kernel
theorem dX9_of_67 : decode cX9_of 67 = .ok (.bipush 20, 2) := by decide +kernel
theorem dX9_of_69 : decode cX9_of 69 = .ok (.if_icmp .eq 9, 3) := by decide +kernel
theorem dX9_of_72 : decode cX9_of 72 = .ok (.iload_n 2, 1) := by decide +kernel
theorem dX9_of_73 : decode cX9_of 73 = .ok (.bipush 21, 2) := by decide +kernel
theorem dX9_of_75 : decode cX9_of 75 = .ok (.if_icmp .ne 38, 3) := by decide +kernel
theorem dX9_of_78 : decode cX9_of 78 = .ok (.iload_n 1, 1) := by decide +kernel
theorem dX9_of_79 : decode cX9_of 79 = .ok (.invokestatic 134, 3) := by decide +kernel
theorem dX9_of_82 : decode cX9_of 82 = .ok (.ifCond .eq 31, 3) := by decide +kernel
theorem dX9_of_85 : decode cX9_of 85 = .ok (.iload_n 2, 1) := by decide +kernel
theorem dX9_of_86 : decode cX9_of 86 = .ok (.bipush 20, 2) := by decide +kernel
theorem dX9_of_88 : decode cX9_of 88 = .ok (.if_icmp .ne 15, 3) := by decide +kernel
theorem dX9_of_91 : decode cX9_of 91 = .ok (.aload_n 0, 1) := by decide +kernel
theorem dX9_of_92 : decode cX9_of 92 = .ok (.getfield 47, 3) := by decide +kernel
theorem dX9_of_95 : decode cX9_of 95 = .ok (.getfield 137, 3) := by decide +kernel
theorem dX9_of_98 : decode cX9_of 98 = .ok (.iload_n 1, 1) := by decide +kernel
theorem dX9_of_99 : decode cX9_of 99 = .ok (.iaload, 1) := by decide +kernel
theorem dX9_of_100 : decode cX9_of 100 = .ok (.goto 12, 3) := by decide +kernel
theorem dX9_of_103 : decode cX9_of 103 = .ok (.aload_n 0, 1) := by decide +kernel
theorem dX9_of_104 : decode cX9_of 104 = .ok (.getfield 47, 3) := by decide +kernel
theorem dX9_of_107 : decode cX9_of 107 = .ok (.getfield 141, 3) := by decide +kernel
theorem dX9_of_110 : decode cX9_of 110 = .ok (.iload_n 1, 1) := by decide +kernel
theorem dX9_of_111 : decode cX9_of 111 = .ok (.iaload, 1) := by decide +kernel
theorem dX9_of_112 : decode cX9_of 112 = .ok (.ireturn, 1) := by decide +kernel
theorem dX9_of_113 : decode cX9_of 113 = .ok (.ldc 105, 2) := by decide +kernel
theorem dX9_of_115 : decode cX9_of 115 = .ok (.ireturn, 1) := by decide +kernel
theorem dX9_feed_0 : decode cX9_feed 0 = .ok (.iload_n 1, 1) := by decide +kernel
theorem dX9_feed_1 : decode cX9_feed 1 = .ok (.ifCond .lt 10, 3) := by decide +kernel
theorem dX9_feed_4 : decode cX9_feed 4 = .ok (.iload_n 1, 1) := by decide +kernel
theorem dX9_feed_5 : decode cX9_feed 5 = .ok (.sipush 255, 3) := by decide +kernel
theorem dX9_feed_8 : decode cX9_feed 8 = .ok (.if_icmp .le 5, 3) := by decide +kernel
theorem dX9_feed_11 : decode cX9_feed 11 = .ok (.iconst (-1), 1) := by decide +kernel
theorem dX9_feed_12 : decode cX9_feed 12 = .ok (.ireturn, 1) := by decide +kernel
theorem dX9_feed_13 : decode cX9_feed 13 = .ok (.aload_n 0, 1) := by decide +kernel
theorem dX9_feed_14 : decode cX9_feed 14 = .ok (.getfield 19, 3) := by decide +kernel
theorem dX9_feed_17 : decode cX9_feed 17 = .ok (.iload_n 1, 1) := by decide +kernel
theorem dX9_feed_18 : decode cX9_feed 18 = .ok (.invokevirtual 144, 3) := by decide +kernel
theorem dX9_feed_21 : decode cX9_feed 21 = .ok (.ifCond .eq 13, 3) := by decide +kernel
theorem dX9_feed_24 : decode cX9_feed 24 = .ok (.aload_n 0, 1) := by decide +kernel
theorem dX9_feed_25 : decode cX9_feed 25 = .ok (.getfield 19, 3) := by decide +kernel
theorem dX9_feed_28 : decode cX9_feed 28 = .ok (.getfield 147, 3) := by decide +kernel
theorem dX9_feed_31 : decode cX9_feed 31 = .ok (.goto 5, 3) := by decide +kernel
theorem dX9_feed_34 : decode cX9_feed 34 = .ok (.bipush (-3), 2) := by decide +kernel
theorem dX9_feed_36 : decode cX9_feed 36 = .ok (.ireturn, 1) := by decide +kernel
theorem dX9_law_0 : decode cX9_law 0 = .ok (.aload_n 0, 1) := by decide +kernel
theorem dX9_law_1 : decode cX9_law 1 = .ok (.getfield 19, 3) := by decide +kernel
theorem dX9_law_4 : decode cX9_law 4 = .ok (.invokevirtual 151, 3) := by decide +kernel
theorem dX9_law_7 : decode cX9_law 7 = .ok (.istore_n 1, 1) := by decide +kernel
theorem dX9_law_8 : decode cX9_law 8 = .ok (.aload_n 0, 1) := by decide +kernel
theorem dX9_law_9 : decode cX9_law 9 = .ok (.getfield 19, 3) := by decide +kernel
theorem dX9_law_12 : decode cX9_law 12 = .ok (.iconst 0, 1) := by decide +kernel
theorem dX9_law_13 : decode cX9_law 13 = .ok (.putfield 147, 3) := by decide +kernel
theorem dX9_law_16 : decode cX9_law 16 = .ok (.iload_n 1, 1) := by decide +kernel
theorem dX9_law_17 : decode cX9_law 17 = .ok (.ifCond .lt 8, 3) := by decide +kernel
theorem dX9_law_20 : decode cX9_law 20 = .ok (.bipush (-100), 2) := by decide +kernel
theorem dX9_law_22 : decode cX9_law 22 = .ok (.iload_n 1, 1) := by decide +kernel
theorem dX9_law_23 : decode cX9_law 23 = .ok (.isub, 1) := by decide +kernel
theorem dX9_law_24 : decode cX9_law 24 = .ok (.ireturn, 1) := by decide +kernel
theorem dX9_law_25 : decode cX9_law 25 = .ok (.aload_n 0, 1) := by decide +kernel
theorem dX9_law_26 : decode cX9_law 26 = .ok (.getfield 10, 3) := by decide +kernel
theorem dX9_law_29 : decode cX9_law 29 = .ok (.aload_n 0, 1) := by decide +kernel
theorem dX9_law_30 : decode cX9_law 30 = .ok (.getfield 19, 3) := by decide +kernel
theorem dX9_law_33 : decode cX9_law 33 = .ok (.getfield 155, 3) := by decide +kernel
theorem dX9_law_36 : decode cX9_law 36 = .ok (.invokevirtual 158, 3) := by decide +kernel
theorem dX9_law_39 : decode cX9_law 39 = .ok (.iconst 1, 1) := by decide +kernel
theorem dX9_law_40 : decode cX9_law 40 = .ok (.ireturn, 1) := by decide +kernel
theorem dX9_go_0 : decode cX9_go 0 = .ok (.iload_n 1, 1) := by decide +kernel
theorem dX9_go_1 : decode cX9_go 1 = .ok (.iconst 1, 1) := by decide +kernel
theorem dX9_go_2 : decode cX9_go 2 = .ok (.if_icmp .lt 10, 3) := by decide +kernel
theorem dX9_go_5 : decode cX9_go 5 = .ok (.iload_n 1, 1) := by decide +kernel
theorem dX9_go_6 : decode cX9_go 6 = .ok (.sipush 200, 3) := by decide +kernel
theorem dX9_go_9 : decode cX9_go 9 = .ok (.if_icmp .le 5, 3) := by decide +kernel
theorem dX9_go_12 : decode cX9_go 12 = .ok (.iconst (-1), 1) := by decide +kernel
theorem dX9_go_13 : decode cX9_go 13 = .ok (.ireturn, 1) := by decide +kernel
theorem dX9_go_14 : decode cX9_go 14 = .ok (.iconst 0, 1) := by decide +kernel
theorem dX9_go_15 : decode cX9_go 15 = .ok (.istore_n 2, 1) := by decide +kernel
theorem dX9_go_16 : decode cX9_go 16 = .ok (.iload_n 2, 1) := by decide +kernel
theorem dX9_go_17 : decode cX9_go 17 = .ok (.iload_n 1, 1) := by decide +kernel
theorem dX9_go_18 : decode cX9_go 18 = .ok (.if_icmp .ge 16, 3) := by decide +kernel
theorem dX9_go_21 : decode cX9_go 21 = .ok (.aload_n 0, 1) := by decide +kernel
theorem dX9_go_22 : decode cX9_go 22 = .ok (.getfield 28, 3) := by decide +kernel
theorem dX9_go_25 : decode cX9_go 25 = .ok (.invokevirtual 161, 3) := by decide +kernel
theorem dX9_go_28 : decode cX9_go 28 = .ok (.iinc 2 1, 3) := by decide +kernel
theorem dX9_go_31 : decode cX9_go 31 = .ok (.goto (-15), 3) := by decide +kernel
theorem dX9_go_34 : decode cX9_go 34 = .ok (.aload_n 0, 1) := by decide +kernel
theorem dX9_go_35 : decode cX9_go 35 = .ok (.getfield 28, 3) := by decide +kernel
theorem dX9_go_38 : decode cX9_go 38 = .ok (.invokevirtual 164, 3) := by decide +kernel
theorem dX9_go_41 : decode cX9_go 41 = .ok (.ireturn, 1) := by decide +kernel
theorem dX9_lift_0 : decode cX9_lift 0 = .ok (.aload_n 0, 1) := by decide +kernel
theorem dX9_lift_1 : decode cX9_lift 1 = .ok (.getfield 28, 3) := by decide +kernel
theorem dX9_lift_4 : decode cX9_lift 4 = .ok (.iload_n 1, 1) := by decide +kernel
theorem dX9_lift_5 : decode cX9_lift 5 = .ok (.invokevirtual 118, 3) := by decide +kernel
theorem dX9_lift_8 : decode cX9_lift 8 = .ok (.ifCond .ne 5, 3) := by decide +kernel
theorem dX9_lift_11 : decode cX9_lift 11 = .ok (.iconst (-1), 1) := by decide +kernel
theorem dX9_lift_12 : decode cX9_lift 12 = .ok (.ireturn, 1) := by decide +kernel
theorem dX9_lift_13 : decode cX9_lift 13 = .ok (.aload_n 0, 1) := by decide +kernel
theorem dX9_lift_14 : decode cX9_lift 14 = .ok (.getfield 28, 3) := by decide +kernel
theorem dX9_lift_17 : decode cX9_lift 17 = .ok (.getfield 121, 3) := by decide +kernel
theorem dX9_lift_20 : decode cX9_lift 20 = .ok (.iload_n 1, 1) := by decide +kernel
theorem dX9_lift_21 : decode cX9_lift 21 = .ok (.aaload, 1) := by decide +kernel
theorem dX9_lift_22 : decode cX9_lift 22 = .ok (.invokevirtual 167, 3) := by decide +kernel
theorem dX9_lift_25 : decode cX9_lift 25 = .ok (.ifCond .ne 6, 3) := by decide +kernel
theorem dX9_lift_28 : decode cX9_lift 28 = .ok (.bipush (-5), 2) := by decide +kernel
theorem dX9_lift_30 : decode cX9_lift 30 = .ok (.ireturn, 1) := by decide +kernel
theorem dX9_lift_31 : decode cX9_lift 31 = .ok (.aload_n 0, 1) := by decide +kernel
theorem dX9_lift_32 : decode cX9_lift 32 = .ok (.getfield 28, 3) := by decide +kernel
theorem dX9_lift_35 : decode cX9_lift 35 = .ok (.getfield 121, 3) := by decide +kernel
theorem dX9_lift_38 : decode cX9_lift 38 = .ok (.iload_n 1, 1) := by decide +kernel
theorem dX9_lift_39 : decode cX9_lift 39 = .ok (.aaload, 1) := by decide +kernel
theorem dX9_lift_40 : decode cX9_lift 40 = .ok (.invokevirtual 170, 3) := by decide +kernel
theorem dX9_lift_43 : decode cX9_lift 43 = .ok (.iload_n 1, 1) := by decide +kernel
theorem dX9_lift_44 : decode cX9_lift 44 = .ok (.ireturn, 1) := by decide +kernel
theorem dX9_led_0 : decode cX9_led 0 = .ok (.iload_n 1, 1) := by decide +kernel
theorem dX9_led_1 : decode cX9_led 1 = .ok (.ifCond .ne 11, 3) := by decide +kernel
theorem dX9_led_4 : decode cX9_led 4 = .ok (.aload_n 0, 1) := by decide +kernel
theorem dX9_led_5 : decode cX9_led 5 = .ok (.getfield 28, 3) := by decide +kernel
theorem dX9_led_8 : decode cX9_led 8 = .ok (.getfield 173, 3) := by decide +kernel
theorem dX9_led_11 : decode cX9_led 11 = .ok (.ireturn, 1) := by decide +kernel
theorem dX9_led_12 : decode cX9_led 12 = .ok (.iload_n 1, 1) := by decide +kernel
theorem dX9_led_13 : decode cX9_led 13 = .ok (.iconst 1, 1) := by decide +kernel
theorem dX9_led_14 : decode cX9_led 14 = .ok (.if_icmp .ne 13, 3) := by decide +kernel
theorem dX9_led_17 : decode cX9_led 17 = .ok (.aload_n 0, 1) := by decide +kernel
theorem dX9_led_18 : decode cX9_led 18 = .ok (.getfield 28, 3) := by decide +kernel
theorem dX9_led_21 : decode cX9_led 21 = .ok (.getfield 176, 3) := by decide +kernel
theorem dX9_led_24 : decode cX9_led 24 = .ok (.goto 4, 3) := by decide +kernel
theorem dX9_led_27 : decode cX9_led 27 = .ok (.iconst (-1), 1) := by decide +kernel
theorem dX9_led_28 : decode cX9_led 28 = .ok (.ireturn, 1) := by decide +kernel
theorem dX9_then_0 : decode cX9_then 0 = .ok (.aload_n 0, 1) := by decide +kernel
theorem dX9_then_1 : decode cX9_then 1 = .ok (.getfield 28, 3) := by decide +kernel
theorem dX9_then_4 : decode cX9_then 4 = .ok (.iload_n 1, 1) := by decide +kernel
theorem dX9_then_5 : decode cX9_then 5 = .ok (.invokevirtual 118, 3) := by decide +kernel
theorem dX9_then_8 : decode cX9_then 8 = .ok (.ifCond .eq 23, 3) := by decide +kernel
theorem dX9_then_11 : decode cX9_then 11 = .ok (.iload_n 2, 1) := by decide +kernel
theorem dX9_then_12 : decode cX9_then 12 = .ok (.ifCond .lt 19, 3) := by decide +kernel
theorem dX9_then_15 : decode cX9_then 15 = .ok (.iload_n 2, 1) := by decide +kernel
theorem dX9_then_16 : decode cX9_then 16 = .ok (.sipush 200, 3) := by decide +kernel
theorem dX9_then_19 : decode cX9_then 19 = .ok (.if_icmp .gt 12, 3) := by decide +kernel
theorem dX9_then_22 : decode cX9_then 22 = .ok (.iload_n 3, 1) := by decide +kernel
theorem dX9_then_23 : decode cX9_then 23 = .ok (.ifCond .lt 8, 3) := by decide +kernel
theorem dX9_then_26 : decode cX9_then 26 = .ok (.iload_n 3, 1) := by decide +kernel
theorem dX9_then_27 : decode cX9_then 27 = .ok (.iconst 2, 1) := by decide +kernel
theorem dX9_then_28 : decode cX9_then 28 = .ok (.if_icmp .le 6, 3) := by decide +kernel
theorem dX9_then_31 : decode cX9_then 31 = .ok (.ldc 105, 2) := by decide +kernel
theorem dX9_then_33 : decode cX9_then 33 = .ok (.ireturn, 1) := by decide +kernel
theorem dX9_then_34 : decode cX9_then 34 = .ok (.aload_n 0, 1) := by decide +kernel
theorem dX9_then_35 : decode cX9_then 35 = .ok (.getfield 40, 3) := by decide +kernel
theorem dX9_then_38 : decode cX9_then 38 = .ok (.iload_n 1, 1) := by decide +kernel
theorem dX9_then_39 : decode cX9_then 39 = .ok (.iload_n 2, 1) := by decide +kernel
theorem dX9_then_40 : decode cX9_then 40 = .ok (.invokevirtual 179, 3) := by decide +kernel
theorem dX9_then_43 : decode cX9_then 43 = .ok (.astore 4, 2) := by decide +kernel
theorem dX9_then_45 : decode cX9_then 45 = .ok (.iload_n 3, 1) := by decide +kernel
theorem dX9_then_46 : decode cX9_then 46 = .ok (.ifCond .ne 9, 3) := by decide +kernel
theorem dX9_then_49 : decode cX9_then 49 = .ok (.aload 4, 2) := by decide +kernel
theorem dX9_then_51 : decode cX9_then 51 = .ok (.getfield 183, 3) := by decide +kernel
theorem dX9_then_54 : decode cX9_then 54 = .ok (.ireturn, 1) := by decide +kernel
theorem dX9_then_55 : decode cX9_then 55 = .ok (.iload_n 3, 1) := by decide +kernel
theorem dX9_then_56 : decode cX9_then 56 = .ok (.iconst 1, 1) := by decide +kernel
theorem dX9_then_57 : decode cX9_then 57 = .ok (.if_icmp .ne 11, 3) := by decide +kernel
theorem dX9_then_60 : decode cX9_then 60 = .ok (.aload 4, 2) := by decide +kernel
theorem dX9_then_62 : decode cX9_then 62 = .ok (.getfield 186, 3) := by decide +kernel
theorem dX9_then_65 : decode cX9_then 65 = .ok (.goto 8, 3) := by decide +kernel
theorem dX9_then_68 : decode cX9_then 68 = .ok (.aload 4, 2) := by decide +kernel
theorem dX9_then_70 : decode cX9_then 70 = .ok (.getfield 189, 3) := by decide +kernel
theorem dX9_then_73 : decode cX9_then 73 = .ok (.ireturn, 1) := by decide +kernel
theorem dX9_falls_0 : decode cX9_falls 0 = .ok (.aload_n 0, 1) := by decide +kernel
theorem dX9_falls_1 : decode cX9_falls 1 = .ok (.getfield 28, 3) := by decide +kernel
theorem dX9_falls_4 : decode cX9_falls 4 = .ok (.iload_n 1, 1) := by decide +kernel
theorem dX9_falls_5 : decode cX9_falls 5 = .ok (.invokevirtual 118, 3) := by decide +kernel
theorem dX9_falls_8 : decode cX9_falls 8 = .ok (.ifCond .ne 5, 3) := by decide +kernel
theorem dX9_falls_11 : decode cX9_falls 11 = .ok (.iconst (-1), 1) := by decide +kernel
theorem dX9_falls_12 : decode cX9_falls 12 = .ok (.ireturn, 1) := by decide +kernel
theorem dX9_falls_13 : decode cX9_falls 13 = .ok (.aload_n 0, 1) := by decide +kernel
theorem dX9_falls_14 : decode cX9_falls 14 = .ok (.getfield 40, 3) := by decide +kernel
theorem dX9_falls_17 : decode cX9_falls 17 = .ok (.invokevirtual 192, 3) := by decide +kernel
theorem dX9_falls_20 : decode cX9_falls 20 = .ok (.aload_n 0, 1) := by decide +kernel
theorem dX9_falls_21 : decode cX9_falls 21 = .ok (.getfield 40, 3) := by decide +kernel
theorem dX9_falls_24 : decode cX9_falls 24 = .ok (.iload_n 1, 1) := by decide +kernel
theorem dX9_falls_25 : decode cX9_falls 25 = .ok (.invokevirtual 195, 3) := by decide +kernel
theorem dX9_falls_28 : decode cX9_falls 28 = .ok (.ireturn, 1) := by decide +kernel
theorem dX9_lasts_0 : decode cX9_lasts 0 = .ok (.aload_n 0, 1) := by decide +kernel
theorem dX9_lasts_1 : decode cX9_lasts 1 = .ok (.getfield 40, 3) := by decide +kernel
theorem dX9_lasts_4 : decode cX9_lasts 4 = .ok (.invokevirtual 192, 3) := by decide +kernel
theorem dX9_lasts_7 : decode cX9_lasts 7 = .ok (.aload_n 0, 1) := by decide +kernel
theorem dX9_lasts_8 : decode cX9_lasts 8 = .ok (.getfield 40, 3) := by decide +kernel
theorem dX9_lasts_11 : decode cX9_lasts 11 = .ok (.invokevirtual 198, 3) := by decide +kernel
theorem dX9_lasts_14 : decode cX9_lasts 14 = .ok (.ireturn, 1) := by decide +kernel
theorem dX9_beatFor_0 : decode cX9_beatFor 0 = .ok (.iload_n 1, 1) := by decide +kernel
theorem dX9_beatFor_1 : decode cX9_beatFor 1 = .ok (.ifCond .lt 8, 3) := by decide +kernel
theorem dX9_beatFor_4 : decode cX9_beatFor 4 = .ok (.iload_n 1, 1) := by decide +kernel
theorem dX9_beatFor_5 : decode cX9_beatFor 5 = .ok (.iconst 1, 1) := by decide +kernel
theorem dX9_beatFor_6 : decode cX9_beatFor 6 = .ok (.if_icmp .le 5, 3) := by decide +kernel
theorem dX9_beatFor_9 : decode cX9_beatFor 9 = .ok (.iconst (-1), 1) := by decide +kernel
theorem dX9_beatFor_10 : decode cX9_beatFor 10 = .ok (.ireturn, 1) := by decide +kernel
theorem dX9_beatFor_11 : decode cX9_beatFor 11 = .ok (.iconst (-1), 1) := by decide +kernel
theorem dX9_beatFor_12 : decode cX9_beatFor 12 = .ok (.istore_n 2, 1) := by decide +kernel
theorem dX9_beatFor_13 : decode cX9_beatFor 13 = .ok (.iconst 0, 1) := by decide +kernel
theorem dX9_beatFor_14 : decode cX9_beatFor 14 = .ok (.istore_n 3, 1) := by decide +kernel
theorem dX9_beatFor_15 : decode cX9_beatFor 15 = .ok (.iconst 2, 1) := by decide +kernel
theorem dX9_beatFor_16 : decode cX9_beatFor 16 = .ok (.istore 4, 2) := by decide +kernel
theorem dX9_beatFor_18 : decode cX9_beatFor 18 = .ok (.iload 4, 2) := by decide +kernel
theorem dX9_beatFor_20 : decode cX9_beatFor 20 = .ok (.bipush 24, 2) := by decide +kernel
theorem dX9_beatFor_22 : decode cX9_beatFor 22 = .ok (.if_icmp .gt 97, 3) := by decide +kernel
theorem dX9_beatFor_25 : decode cX9_beatFor 25 = .ok (.iload_n 2, 1) := by decide +kernel
theorem dX9_beatFor_26 : decode cX9_beatFor 26 = .ok (.sipush 200, 3) := by decide +kernel
theorem dX9_beatFor_29 : decode cX9_beatFor 29 = .ok (.if_icmp .ge 90, 3) := by decide +kernel
theorem dX9_beatFor_32 : decode cX9_beatFor 32 = .ok (.iconst 0, 1) := by decide +kernel
theorem dX9_beatFor_33 : decode cX9_beatFor 33 = .ok (.istore 5, 2) := by decide +kernel
theorem dX9_beatFor_35 : decode cX9_beatFor 35 = .ok (.iload 5, 2) := by decide +kernel
theorem dX9_beatFor_37 : decode cX9_beatFor 37 = .ok (.iload 4, 2) := by decide +kernel
theorem dX9_beatFor_39 : decode cX9_beatFor 39 = .ok (.if_icmp .ge 74, 3) := by decide +kernel
theorem dX9_beatFor_42 : decode cX9_beatFor 42 = .ok (.iload_n 2, 1) := by decide +kernel
theorem dX9_beatFor_43 : decode cX9_beatFor 43 = .ok (.sipush 200, 3) := by decide +kernel
theorem dX9_beatFor_46 : decode cX9_beatFor 46 = .ok (.if_icmp .ge 67, 3) := by decide +kernel
theorem dX9_beatFor_49 : decode cX9_beatFor 49 = .ok (.aload_n 0, 1) := by decide +kernel
theorem dX9_beatFor_50 : decode cX9_beatFor 50 = .ok (.getfield 40, 3) := by decide +kernel
theorem dX9_beatFor_53 : decode cX9_beatFor 53 = .ok (.invokevirtual 192, 3) := by decide +kernel
theorem dX9_beatFor_56 : decode cX9_beatFor 56 = .ok (.aload_n 0, 1) := by decide +kernel
theorem dX9_beatFor_57 : decode cX9_beatFor 57 = .ok (.getfield 40, 3) := by decide +kernel
theorem dX9_beatFor_60 : decode cX9_beatFor 60 = .ok (.getfield 201, 3) := by decide +kernel
theorem dX9_beatFor_63 : decode cX9_beatFor 63 = .ok (.iload 4, 2) := by decide +kernel
theorem dX9_beatFor_65 : decode cX9_beatFor 65 = .ok (.putfield 202, 3) := by decide +kernel
theorem dX9_beatFor_68 : decode cX9_beatFor 68 = .ok (.aload_n 0, 1) := by decide +kernel
theorem dX9_beatFor_69 : decode cX9_beatFor 69 = .ok (.getfield 40, 3) := by decide +kernel
theorem dX9_beatFor_72 : decode cX9_beatFor 72 = .ok (.getfield 201, 3) := by decide +kernel
theorem dX9_beatFor_75 : decode cX9_beatFor 75 = .ok (.iload 5, 2) := by decide +kernel
theorem dX9_beatFor_77 : decode cX9_beatFor 77 = .ok (.putfield 205, 3) := by decide +kernel
theorem dX9_beatFor_80 : decode cX9_beatFor 80 = .ok (.aload_n 0, 1) := by decide +kernel
theorem dX9_beatFor_81 : decode cX9_beatFor 81 = .ok (.getfield 40, 3) := by decide +kernel
theorem dX9_beatFor_84 : decode cX9_beatFor 84 = .ok (.invokevirtual 198, 3) := by decide +kernel
theorem dX9_beatFor_87 : decode cX9_beatFor 87 = .ok (.istore 6, 2) := by decide +kernel
theorem dX9_beatFor_89 : decode cX9_beatFor 89 = .ok (.iload 6, 2) := by decide +kernel
theorem dX9_beatFor_91 : decode cX9_beatFor 91 = .ok (.iload_n 2, 1) := by decide +kernel
theorem dX9_beatFor_92 : decode cX9_beatFor 92 = .ok (.if_icmp .le 15, 3) := by decide +kernel
theorem dX9_beatFor_95 : decode cX9_beatFor 95 = .ok (.iload 6, 2) := by decide +kernel
theorem dX9_beatFor_97 : decode cX9_beatFor 97 = .ok (.istore_n 2, 1) := by decide +kernel
theorem dX9_beatFor_98 : decode cX9_beatFor 98 = .ok (.bipush 100, 2) := by decide +kernel
theorem dX9_beatFor_100 : decode cX9_beatFor 100 = .ok (.iload 4, 2) := by decide +kernel
theorem dX9_beatFor_102 : decode cX9_beatFor 102 = .ok (.imul, 1) := by decide +kernel
theorem dX9_beatFor_103 : decode cX9_beatFor 103 = .ok (.iload 5, 2) := by decide +kernel
theorem dX9_beatFor_105 : decode cX9_beatFor 105 = .ok (.iadd, 1) := by decide +kernel
theorem dX9_beatFor_106 : decode cX9_beatFor 106 = .ok (.istore_n 3, 1) := by decide +kernel
theorem dX9_beatFor_107 : decode cX9_beatFor 107 = .ok (.iinc 5 1, 3) := by decide +kernel
theorem dX9_beatFor_110 : decode cX9_beatFor 110 = .ok (.goto (-75), 3) := by decide +kernel
theorem dX9_beatFor_113 : decode cX9_beatFor 113 = .ok (.iinc 4 1, 3) := by decide +kernel
theorem dX9_beatFor_116 : decode cX9_beatFor 116 = .ok (.goto (-98), 3) := by decide +kernel
theorem dX9_beatFor_119 : decode cX9_beatFor 119 = .ok (.iload_n 1, 1) := by decide +kernel
theorem dX9_beatFor_120 : decode cX9_beatFor 120 = .ok (.ifCond .ne 7, 3) := by decide +kernel
theorem dX9_beatFor_123 : decode cX9_beatFor 123 = .ok (.iload_n 3, 1) := by decide +kernel
theorem dX9_beatFor_124 : decode cX9_beatFor 124 = .ok (.goto 4, 3) := by decide +kernel
theorem dX9_beatFor_127 : decode cX9_beatFor 127 = .ok (.iload_n 2, 1) := by decide +kernel
theorem dX9_beatFor_128 : decode cX9_beatFor 128 = .ok (.ireturn, 1) := by decide +kernel
theorem dX9_leastPush_0 : decode cX9_leastPush 0 = .ok (.iload_n 1, 1) := by decide +kernel
theorem dX9_leastPush_1 : decode cX9_leastPush 1 = .ok (.iconst 1, 1) := by decide +kernel
theorem dX9_leastPush_2 : decode cX9_leastPush 2 = .ok (.if_icmp .lt 10, 3) := by decide +kernel
theorem dX9_leastPush_5 : decode cX9_leastPush 5 = .ok (.iload_n 1, 1) := by decide +kernel
theorem dX9_leastPush_6 : decode cX9_leastPush 6 = .ok (.sipush 200, 3) := by decide +kernel
theorem dX9_leastPush_9 : decode cX9_leastPush 9 = .ok (.if_icmp .le 5, 3) := by decide +kernel
theorem dX9_leastPush_12 : decode cX9_leastPush 12 = .ok (.iconst (-1), 1) := by decide +kernel
theorem dX9_leastPush_13 : decode cX9_leastPush 13 = .ok (.ireturn, 1) := by decide +kernel
theorem dX9_leastPush_14 : decode cX9_leastPush 14 = .ok (.iconst 0, 1) := by decide +kernel
theorem dX9_leastPush_15 : decode cX9_leastPush 15 = .ok (.istore_n 2, 1) := by decide +kernel
theorem dX9_leastPush_16 : decode cX9_leastPush 16 = .ok (.iload_n 2, 1) := by decide +kernel
theorem dX9_leastPush_17 : decode cX9_leastPush 17 = .ok (.iconst 5, 1) := by decide +kernel
theorem dX9_leastPush_18 : decode cX9_leastPush 18 = .ok (.if_icmp .gt 40, 3) := by decide +kernel
theorem dX9_leastPush_21 : decode cX9_leastPush 21 = .ok (.aload_n 0, 1) := by decide +kernel
theorem dX9_leastPush_22 : decode cX9_leastPush 22 = .ok (.getfield 40, 3) := by decide +kernel
theorem dX9_leastPush_25 : decode cX9_leastPush 25 = .ok (.invokevirtual 192, 3) := by decide +kernel
theorem dX9_leastPush_28 : decode cX9_leastPush 28 = .ok (.aload_n 0, 1) := by decide +kernel
theorem dX9_leastPush_29 : decode cX9_leastPush 29 = .ok (.getfield 40, 3) := by decide +kernel
theorem dX9_leastPush_32 : decode cX9_leastPush 32 = .ok (.getfield 201, 3) := by decide +kernel
theorem dX9_leastPush_35 : decode cX9_leastPush 35 = .ok (.iload_n 2, 1) := by decide +kernel
theorem dX9_leastPush_36 : decode cX9_leastPush 36 = .ok (.putfield 208, 3) := by decide +kernel
theorem dX9_leastPush_39 : decode cX9_leastPush 39 = .ok (.aload_n 0, 1) := by decide +kernel
theorem dX9_leastPush_40 : decode cX9_leastPush 40 = .ok (.getfield 40, 3) := by decide +kernel
theorem dX9_leastPush_43 : decode cX9_leastPush 43 = .ok (.invokevirtual 198, 3) := by decide +kernel
theorem dX9_leastPush_46 : decode cX9_leastPush 46 = .ok (.iload_n 1, 1) := by decide +kernel
theorem dX9_leastPush_47 : decode cX9_leastPush 47 = .ok (.if_icmp .lt 5, 3) := by decide +kernel
theorem dX9_leastPush_50 : decode cX9_leastPush 50 = .ok (.iload_n 2, 1) := by decide +kernel
theorem dX9_leastPush_51 : decode cX9_leastPush 51 = .ok (.ireturn, 1) := by decide +kernel
theorem dX9_leastPush_52 : decode cX9_leastPush 52 = .ok (.iinc 2 1, 3) := by decide +kernel
theorem dX9_leastPush_55 : decode cX9_leastPush 55 = .ok (.goto (-39), 3) := by decide +kernel
theorem dX9_leastPush_58 : decode cX9_leastPush 58 = .ok (.bipush (-2), 2) := by decide +kernel
theorem dX9_leastPush_60 : decode cX9_leastPush 60 = .ok (.ireturn, 1) := by decide +kernel
theorem dX9_mistake_0 : decode cX9_mistake 0 = .ok (.iload_n 1, 1) := by decide +kernel
theorem dX9_mistake_1 : decode cX9_mistake 1 = .ok (.ifCond .lt 18, 3) := by decide +kernel
theorem dX9_mistake_4 : decode cX9_mistake 4 = .ok (.iload_n 1, 1) := by decide +kernel
theorem dX9_mistake_5 : decode cX9_mistake 5 = .ok (.bipush 40, 2) := by decide +kernel
theorem dX9_mistake_7 : decode cX9_mistake 7 = .ok (.if_icmp .gt 12, 3) := by decide +kernel
theorem dX9_mistake_10 : decode cX9_mistake 10 = .ok (.iload_n 2, 1) := by decide +kernel
theorem dX9_mistake_11 : decode cX9_mistake 11 = .ok (.ifCond .lt 8, 3) := by decide +kernel
theorem dX9_mistake_14 : decode cX9_mistake 14 = .ok (.iload_n 2, 1) := by decide +kernel
theorem dX9_mistake_15 : decode cX9_mistake 15 = .ok (.iconst 1, 1) := by decide +kernel
theorem dX9_mistake_16 : decode cX9_mistake 16 = .ok (.if_icmp .le 5, 3) := by decide +kernel
theorem dX9_mistake_19 : decode cX9_mistake 19 = .ok (.iconst (-1), 1) := by decide +kernel
theorem dX9_mistake_20 : decode cX9_mistake 20 = .ok (.ireturn, 1) := by decide +kernel
theorem dX9_mistake_21 : decode cX9_mistake 21 = .ok (.aload_n 0, 1) := by decide +kernel
theorem dX9_mistake_22 : decode cX9_mistake 22 = .ok (.getfield 40, 3) := by decide +kernel
theorem dX9_mistake_25 : decode cX9_mistake 25 = .ok (.invokevirtual 192, 3) := by decide +kernel
theorem dX9_mistake_28 : decode cX9_mistake 28 = .ok (.aload_n 0, 1) := by decide +kernel
theorem dX9_mistake_29 : decode cX9_mistake 29 = .ok (.getfield 40, 3) := by decide +kernel
theorem dX9_mistake_32 : decode cX9_mistake 32 = .ok (.iload_n 1, 1) := by decide +kernel
theorem dX9_mistake_33 : decode cX9_mistake 33 = .ok (.invokevirtual 211, 3) := by decide +kernel
theorem dX9_mistake_36 : decode cX9_mistake 36 = .ok (.iload_n 2, 1) := by decide +kernel
theorem dX9_mistake_37 : decode cX9_mistake 37 = .ok (.ifCond .ne 13, 3) := by decide +kernel
theorem dX9_mistake_40 : decode cX9_mistake 40 = .ok (.aload_n 0, 1) := by decide +kernel
theorem dX9_mistake_41 : decode cX9_mistake 41 = .ok (.getfield 40, 3) := by decide +kernel
theorem dX9_mistake_44 : decode cX9_mistake 44 = .ok (.invokevirtual 198, 3) := by decide +kernel
theorem dX9_mistake_47 : decode cX9_mistake 47 = .ok (.goto 10, 3) := by decide +kernel
theorem dX9_mistake_50 : decode cX9_mistake 50 = .ok (.aload_n 0, 1) := by decide +kernel
theorem dX9_mistake_51 : decode cX9_mistake 51 = .ok (.getfield 40, 3) := by decide +kernel
theorem dX9_mistake_54 : decode cX9_mistake 54 = .ok (.invokevirtual 215, 3) := by decide +kernel
theorem dX9_mistake_57 : decode cX9_mistake 57 = .ok (.ireturn, 1) := by decide +kernel
theorem dX9_held_0 : decode cX9_held 0 = .ok (.iload_n 1, 1) := by decide +kernel
theorem dX9_held_1 : decode cX9_held 1 = .ok (.iconst 1, 1) := by decide +kernel
theorem dX9_held_2 : decode cX9_held 2 = .ok (.if_icmp .lt 10, 3) := by decide +kernel
theorem dX9_held_5 : decode cX9_held 5 = .ok (.iload_n 1, 1) := by decide +kernel
theorem dX9_held_6 : decode cX9_held 6 = .ok (.sipush 200, 3) := by decide +kernel
theorem dX9_held_9 : decode cX9_held 9 = .ok (.if_icmp .le 5, 3) := by decide +kernel
theorem dX9_held_12 : decode cX9_held 12 = .ok (.iconst (-1), 1) := by decide +kernel
theorem dX9_held_13 : decode cX9_held 13 = .ok (.ireturn, 1) := by decide +kernel
theorem dX9_held_14 : decode cX9_held 14 = .ok (.bipush (-2), 2) := by decide +kernel
theorem dX9_held_16 : decode cX9_held 16 = .ok (.istore_n 2, 1) := by decide +kernel
theorem dX9_held_17 : decode cX9_held 17 = .ok (.iconst 0, 1) := by decide +kernel
theorem dX9_held_18 : decode cX9_held 18 = .ok (.istore_n 3, 1) := by decide +kernel
theorem dX9_held_19 : decode cX9_held 19 = .ok (.iconst 1, 1) := by decide +kernel
theorem dX9_held_20 : decode cX9_held 20 = .ok (.istore 4, 2) := by decide +kernel
theorem dX9_held_22 : decode cX9_held 22 = .ok (.iload 4, 2) := by decide +kernel
theorem dX9_held_24 : decode cX9_held 24 = .ok (.iconst 1, 1) := by decide +kernel
theorem dX9_held_25 : decode cX9_held 25 = .ok (.aload_n 0, 1) := by decide +kernel
theorem dX9_held_26 : decode cX9_held 26 = .ok (.getfield 28, 3) := by decide +kernel
theorem dX9_held_29 : decode cX9_held 29 = .ok (.getfield 218, 3) := by decide +kernel
theorem dX9_held_32 : decode cX9_held 32 = .ok (.ishl, 1) := by decide +kernel
theorem dX9_held_33 : decode cX9_held 33 = .ok (.if_icmp .ge 69, 3) := by decide +kernel
theorem dX9_held_36 : decode cX9_held 36 = .ok (.iload 4, 2) := by decide +kernel
theorem dX9_held_38 : decode cX9_held 38 = .ok (.invokestatic 221, 3) := by decide +kernel
theorem dX9_held_41 : decode cX9_held 41 = .ok (.iload_n 3, 1) := by decide +kernel
theorem dX9_held_42 : decode cX9_held 42 = .ok (.if_icmp .le 54, 3) := by decide +kernel
theorem dX9_held_45 : decode cX9_held 45 = .ok (.aload_n 0, 1) := by decide +kernel
theorem dX9_held_46 : decode cX9_held 46 = .ok (.getfield 28, 3) := by decide +kernel
theorem dX9_held_49 : decode cX9_held 49 = .ok (.iload 4, 2) := by decide +kernel
theorem dX9_held_51 : decode cX9_held 51 = .ok (.invokevirtual 226, 3) := by decide +kernel
theorem dX9_held_54 : decode cX9_held 54 = .ok (.ifCond .eq 42, 3) := by decide +kernel
theorem dX9_held_57 : decode cX9_held 57 = .ok (.aload_n 0, 1) := by decide +kernel
theorem dX9_held_58 : decode cX9_held 58 = .ok (.getfield 40, 3) := by decide +kernel
theorem dX9_held_61 : decode cX9_held 61 = .ok (.invokevirtual 192, 3) := by decide +kernel
theorem dX9_held_64 : decode cX9_held 64 = .ok (.aload_n 0, 1) := by decide +kernel
theorem dX9_held_65 : decode cX9_held 65 = .ok (.getfield 40, 3) := by decide +kernel
theorem dX9_held_68 : decode cX9_held 68 = .ok (.getfield 201, 3) := by decide +kernel
theorem dX9_held_71 : decode cX9_held 71 = .ok (.iload 4, 2) := by decide +kernel
theorem dX9_held_73 : decode cX9_held 73 = .ok (.invokevirtual 229, 3) := by decide +kernel
theorem dX9_held_76 : decode cX9_held 76 = .ok (.aload_n 0, 1) := by decide +kernel
theorem dX9_held_77 : decode cX9_held 77 = .ok (.getfield 40, 3) := by decide +kernel
theorem dX9_held_80 : decode cX9_held 80 = .ok (.invokevirtual 198, 3) := by decide +kernel
theorem dX9_held_83 : decode cX9_held 83 = .ok (.iload_n 1, 1) := by decide +kernel
theorem dX9_held_84 : decode cX9_held 84 = .ok (.if_icmp .lt 12, 3) := by decide +kernel
theorem dX9_held_87 : decode cX9_held 87 = .ok (.iload 4, 2) := by decide +kernel
theorem dX9_held_89 : decode cX9_held 89 = .ok (.istore_n 2, 1) := by decide +kernel
theorem dX9_held_90 : decode cX9_held 90 = .ok (.iload 4, 2) := by decide +kernel
theorem dX9_held_92 : decode cX9_held 92 = .ok (.invokestatic 221, 3) := by decide +kernel
theorem dX9_held_95 : decode cX9_held 95 = .ok (.istore_n 3, 1) := by decide +kernel
theorem dX9_held_96 : decode cX9_held 96 = .ok (.iinc 4 1, 3) := by decide +kernel
theorem dX9_held_99 : decode cX9_held 99 = .ok (.goto (-77), 3) := by decide +kernel
theorem dX9_held_102 : decode cX9_held 102 = .ok (.iload_n 2, 1) := by decide +kernel
theorem dX9_held_103 : decode cX9_held 103 = .ok (.ireturn, 1) := by decide +kernel
theorem dX9_rescue_0 : decode cX9_rescue 0 = .ok (.iload_n 2, 1) := by decide +kernel
theorem dX9_rescue_1 : decode cX9_rescue 1 = .ok (.bipush 100, 2) := by decide +kernel
theorem dX9_rescue_3 : decode cX9_rescue 3 = .ok (.idiv, 1) := by decide +kernel
theorem dX9_rescue_4 : decode cX9_rescue 4 = .ok (.istore_n 3, 1) := by decide +kernel
theorem dX9_rescue_5 : decode cX9_rescue 5 = .ok (.iload_n 2, 1) := by decide +kernel
theorem dX9_rescue_6 : decode cX9_rescue 6 = .ok (.bipush 100, 2) := by decide +kernel
theorem dX9_rescue_8 : decode cX9_rescue 8 = .ok (.irem, 1) := by decide +kernel
theorem dX9_rescue_9 : decode cX9_rescue 9 = .ok (.istore 4, 2) := by decide +kernel
theorem dX9_rescue_11 : decode cX9_rescue 11 = .ok (.aload_n 0, 1) := by decide +kernel
theorem dX9_rescue_12 : decode cX9_rescue 12 = .ok (.getfield 28, 3) := by decide +kernel
theorem dX9_rescue_15 : decode cX9_rescue 15 = .ok (.iload_n 1, 1) := by decide +kernel
theorem dX9_rescue_16 : decode cX9_rescue 16 = .ok (.invokevirtual 118, 3) := by decide +kernel
theorem dX9_rescue_19 : decode cX9_rescue 19 = .ok (.ifCond .eq 25, 3) := by decide +kernel
theorem dX9_rescue_22 : decode cX9_rescue 22 = .ok (.iload_n 3, 1) := by decide +kernel
theorem dX9_rescue_23 : decode cX9_rescue 23 = .ok (.iconst 1, 1) := by decide +kernel
theorem dX9_rescue_24 : decode cX9_rescue 24 = .ok (.if_icmp .lt 20, 3) := by decide +kernel
theorem dX9_rescue_27 : decode cX9_rescue 27 = .ok (.iload_n 3, 1) := by decide +kernel
theorem dX9_rescue_28 : decode cX9_rescue 28 = .ok (.iconst 5, 1) := by decide +kernel
theorem dX9_rescue_29 : decode cX9_rescue 29 = .ok (.if_icmp .gt 15, 3) := by decide +kernel
theorem dX9_rescue_32 : decode cX9_rescue 32 = .ok (.iload 4, 2) := by decide +kernel
theorem dX9_rescue_34 : decode cX9_rescue 34 = .ok (.ifCond .lt 10, 3) := by decide +kernel
theorem dX9_rescue_37 : decode cX9_rescue 37 = .ok (.iload 4, 2) := by decide +kernel
theorem dX9_rescue_39 : decode cX9_rescue 39 = .ok (.bipush 24, 2) := by decide +kernel
theorem dX9_rescue_41 : decode cX9_rescue 41 = .ok (.if_icmp .lt 5, 3) := by decide +kernel
theorem dX9_rescue_44 : decode cX9_rescue 44 = .ok (.iconst (-1), 1) := by decide +kernel
theorem dX9_rescue_45 : decode cX9_rescue 45 = .ok (.ireturn, 1) := by decide +kernel
theorem dX9_rescue_46 : decode cX9_rescue 46 = .ok (.aload_n 0, 1) := by decide +kernel
theorem dX9_rescue_47 : decode cX9_rescue 47 = .ok (.getfield 40, 3) := by decide +kernel
theorem dX9_rescue_50 : decode cX9_rescue 50 = .ok (.invokevirtual 192, 3) := by decide +kernel
theorem dX9_rescue_53 : decode cX9_rescue 53 = .ok (.aload_n 0, 1) := by decide +kernel
theorem dX9_rescue_54 : decode cX9_rescue 54 = .ok (.getfield 40, 3) := by decide +kernel
theorem dX9_rescue_57 : decode cX9_rescue 57 = .ok (.iload_n 1, 1) := by decide +kernel
theorem dX9_rescue_58 : decode cX9_rescue 58 = .ok (.invokevirtual 195, 3) := by decide +kernel
theorem dX9_rescue_61 : decode cX9_rescue 61 = .ok (.istore 5, 2) := by decide +kernel
theorem dX9_rescue_63 : decode cX9_rescue 63 = .ok (.iload 5, 2) := by decide +kernel
theorem dX9_rescue_65 : decode cX9_rescue 65 = .ok (.ifCond .eq 10, 3) := by decide +kernel
theorem dX9_rescue_68 : decode cX9_rescue 68 = .ok (.iload 5, 2) := by decide +kernel
theorem dX9_rescue_70 : decode cX9_rescue 70 = .ok (.bipush (-2), 2) := by decide +kernel
theorem dX9_rescue_72 : decode cX9_rescue 72 = .ok (.if_icmp .ne 6, 3) := by decide +kernel
theorem dX9_rescue_75 : decode cX9_rescue 75 = .ok (.bipush (-5), 2) := by decide +kernel
theorem dX9_rescue_77 : decode cX9_rescue 77 = .ok (.ireturn, 1) := by decide +kernel
theorem dX9_rescue_78 : decode cX9_rescue 78 = .ok (.bipush 100, 2) := by decide +kernel
theorem dX9_rescue_80 : decode cX9_rescue 80 = .ok (.iload 5, 2) := by decide +kernel
theorem dX9_rescue_82 : decode cX9_rescue 82 = .ok (.invokestatic 232, 3) := by decide +kernel
theorem dX9_rescue_85 : decode cX9_rescue 85 = .ok (.istore 6, 2) := by decide +kernel
theorem dX9_rescue_87 : decode cX9_rescue 87 = .ok (.iconst 0, 1) := by decide +kernel
theorem dX9_rescue_88 : decode cX9_rescue 88 = .ok (.istore 7, 2) := by decide +kernel
theorem dX9_rescue_90 : decode cX9_rescue 90 = .ok (.iload 7, 2) := by decide +kernel
theorem dX9_rescue_92 : decode cX9_rescue 92 = .ok (.iload 6, 2) := by decide +kernel
theorem dX9_rescue_94 : decode cX9_rescue 94 = .ok (.if_icmp .ge 44, 3) := by decide +kernel
theorem dX9_rescue_97 : decode cX9_rescue 97 = .ok (.aload_n 0, 1) := by decide +kernel
theorem dX9_rescue_98 : decode cX9_rescue 98 = .ok (.getfield 40, 3) := by decide +kernel
theorem dX9_rescue_101 : decode cX9_rescue 101 = .ok (.invokevirtual 192, 3) := by decide +kernel
theorem dX9_rescue_104 : decode cX9_rescue 104 = .ok (.aload_n 0, 1) := by decide +kernel
theorem dX9_rescue_105 : decode cX9_rescue 105 = .ok (.getfield 40, 3) := by decide +kernel
theorem dX9_rescue_108 : decode cX9_rescue 108 = .ok (.iload 7, 2) := by decide +kernel
theorem dX9_rescue_110 : decode cX9_rescue 110 = .ok (.iload_n 3, 1) := by decide +kernel
theorem dX9_rescue_111 : decode cX9_rescue 111 = .ok (.iload 4, 2) := by decide +kernel
theorem dX9_rescue_113 : decode cX9_rescue 113 = .ok (.invokevirtual 237, 3) := by decide +kernel
theorem dX9_rescue_116 : decode cX9_rescue 116 = .ok (.aload_n 0, 1) := by decide +kernel
theorem dX9_rescue_117 : decode cX9_rescue 117 = .ok (.getfield 40, 3) := by decide +kernel
theorem dX9_rescue_120 : decode cX9_rescue 120 = .ok (.iload_n 1, 1) := by decide +kernel
theorem dX9_rescue_121 : decode cX9_rescue 121 = .ok (.iload 5, 2) := by decide +kernel
theorem dX9_rescue_123 : decode cX9_rescue 123 = .ok (.invokevirtual 240, 3) := by decide +kernel
theorem dX9_rescue_126 : decode cX9_rescue 126 = .ok (.ifCond .eq 6, 3) := by decide +kernel
theorem dX9_rescue_129 : decode cX9_rescue 129 = .ok (.iload 7, 2) := by decide +kernel
theorem dX9_rescue_131 : decode cX9_rescue 131 = .ok (.ireturn, 1) := by decide +kernel
theorem dX9_rescue_132 : decode cX9_rescue 132 = .ok (.iinc 7 1, 3) := by decide +kernel
theorem dX9_rescue_135 : decode cX9_rescue 135 = .ok (.goto (-45), 3) := by decide +kernel
theorem dX9_rescue_138 : decode cX9_rescue 138 = .ok (.bipush (-2), 2) := by decide +kernel
theorem dX9_rescue_140 : decode cX9_rescue 140 = .ok (.ireturn, 1) := by decide +kernel
theorem dX9_start_0 : decode cX9_start 0 = .ok (.aload_n 0, 1) := by decide +kernel
theorem dX9_start_1 : decode cX9_start 1 = .ok (.getfield 28, 3) := by decide +kernel
theorem dX9_start_4 : decode cX9_start 4 = .ok (.iload_n 1, 1) := by decide +kernel
theorem dX9_start_5 : decode cX9_start 5 = .ok (.invokevirtual 118, 3) := by decide +kernel
theorem dX9_start_8 : decode cX9_start 8 = .ok (.ifCond .ne 6, 3) := by decide +kernel
theorem dX9_start_11 : decode cX9_start 11 = .ok (.ldc 105, 2) := by decide +kernel
theorem dX9_start_13 : decode cX9_start 13 = .ok (.ireturn, 1) := by decide +kernel
theorem dX9_start_14 : decode cX9_start 14 = .ok (.aload_n 0, 1) := by decide +kernel
theorem dX9_start_15 : decode cX9_start 15 = .ok (.getfield 28, 3) := by decide +kernel
theorem dX9_start_18 : decode cX9_start 18 = .ok (.getfield 121, 3) := by decide +kernel
theorem dX9_start_21 : decode cX9_start 21 = .ok (.iload_n 1, 1) := by decide +kernel
theorem dX9_start_22 : decode cX9_start 22 = .ok (.aaload, 1) := by decide +kernel
theorem dX9_start_23 : decode cX9_start 23 = .ok (.invokevirtual 167, 3) := by decide +kernel
theorem dX9_start_26 : decode cX9_start 26 = .ok (.ifCond .eq 6, 3) := by decide +kernel
theorem dX9_start_29 : decode cX9_start 29 = .ok (.bipush (-5), 2) := by decide +kernel
theorem dX9_start_31 : decode cX9_start 31 = .ok (.ireturn, 1) := by decide +kernel
theorem dX9_start_32 : decode cX9_start 32 = .ok (.bipush (-9), 2) := by decide +kernel
theorem dX9_start_34 : decode cX9_start 34 = .ok (.istore_n 2, 1) := by decide +kernel
theorem dX9_start_35 : decode cX9_start 35 = .ok (.iconst (-1), 1) := by decide +kernel
theorem dX9_start_36 : decode cX9_start 36 = .ok (.istore_n 3, 1) := by decide +kernel
theorem dX9_start_37 : decode cX9_start 37 = .ok (.bipush (-9), 2) := by decide +kernel
theorem dX9_start_39 : decode cX9_start 39 = .ok (.istore 4, 2) := by decide +kernel
theorem dX9_start_41 : decode cX9_start 41 = .ok (.iload 4, 2) := by decide +kernel
theorem dX9_start_43 : decode cX9_start 43 = .ok (.bipush 9, 2) := by decide +kernel
theorem dX9_start_45 : decode cX9_start 45 = .ok (.if_icmp .gt 72, 3) := by decide +kernel
theorem dX9_start_48 : decode cX9_start 48 = .ok (.aload_n 0, 1) := by decide +kernel
theorem dX9_start_49 : decode cX9_start 49 = .ok (.getfield 40, 3) := by decide +kernel
theorem dX9_start_52 : decode cX9_start 52 = .ok (.invokevirtual 192, 3) := by decide +kernel
theorem dX9_start_55 : decode cX9_start 55 = .ok (.aload_n 0, 1) := by decide +kernel
theorem dX9_start_56 : decode cX9_start 56 = .ok (.getfield 40, 3) := by decide +kernel
theorem dX9_start_59 : decode cX9_start 59 = .ok (.getfield 201, 3) := by decide +kernel
theorem dX9_start_62 : decode cX9_start 62 = .ok (.getfield 121, 3) := by decide +kernel
theorem dX9_start_65 : decode cX9_start 65 = .ok (.iload_n 1, 1) := by decide +kernel
theorem dX9_start_66 : decode cX9_start 66 = .ok (.aaload, 1) := by decide +kernel
theorem dX9_start_67 : decode cX9_start 67 = .ok (.iload 4, 2) := by decide +kernel
theorem dX9_start_69 : decode cX9_start 69 = .ok (.putfield 186, 3) := by decide +kernel
theorem dX9_start_72 : decode cX9_start 72 = .ok (.aload_n 0, 1) := by decide +kernel
theorem dX9_start_73 : decode cX9_start 73 = .ok (.getfield 40, 3) := by decide +kernel
theorem dX9_start_76 : decode cX9_start 76 = .ok (.iload_n 1, 1) := by decide +kernel
theorem dX9_start_77 : decode cX9_start 77 = .ok (.invokevirtual 195, 3) := by decide +kernel
theorem dX9_start_80 : decode cX9_start 80 = .ok (.istore 5, 2) := by decide +kernel
theorem dX9_start_82 : decode cX9_start 82 = .ok (.iload 5, 2) := by decide +kernel
theorem dX9_start_84 : decode cX9_start 84 = .ok (.bipush (-2), 2) := by decide +kernel
theorem dX9_start_86 : decode cX9_start 86 = .ok (.if_icmp .ne 9, 3) := by decide +kernel
theorem dX9_start_89 : decode cX9_start 89 = .ok (.sipush 201, 3) := by decide +kernel
theorem dX9_start_92 : decode cX9_start 92 = .ok (.goto 5, 3) := by decide +kernel
theorem dX9_start_95 : decode cX9_start 95 = .ok (.iload 5, 2) := by decide +kernel
theorem dX9_start_97 : decode cX9_start 97 = .ok (.istore 6, 2) := by decide +kernel
theorem dX9_start_99 : decode cX9_start 99 = .ok (.iload 6, 2) := by decide +kernel
theorem dX9_start_101 : decode cX9_start 101 = .ok (.iload_n 3, 1) := by decide +kernel
theorem dX9_start_102 : decode cX9_start 102 = .ok (.if_icmp .le 9, 3) := by decide +kernel
theorem dX9_start_105 : decode cX9_start 105 = .ok (.iload 6, 2) := by decide +kernel
theorem dX9_start_107 : decode cX9_start 107 = .ok (.istore_n 3, 1) := by decide +kernel
theorem dX9_start_108 : decode cX9_start 108 = .ok (.iload 4, 2) := by decide +kernel
theorem dX9_start_110 : decode cX9_start 110 = .ok (.istore_n 2, 1) := by decide +kernel
theorem dX9_start_111 : decode cX9_start 111 = .ok (.iinc 4 1, 3) := by decide +kernel
theorem dX9_start_114 : decode cX9_start 114 = .ok (.goto (-73), 3) := by decide +kernel
theorem dX9_start_117 : decode cX9_start 117 = .ok (.iload_n 2, 1) := by decide +kernel
theorem dX9_start_118 : decode cX9_start 118 = .ok (.ireturn, 1) := by decide +kernel
theorem dX9_music_0 : decode cX9_music 0 = .ok (.iload_n 1, 1) := by decide +kernel
theorem dX9_music_1 : decode cX9_music 1 = .ok (.invokestatic 88, 3) := by decide +kernel
theorem dX9_music_4 : decode cX9_music 4 = .ok (.ifCond .ne 5, 3) := by decide +kernel
theorem dX9_music_7 : decode cX9_music 7 = .ok (.iconst (-1), 1) := by decide +kernel
theorem dX9_music_8 : decode cX9_music 8 = .ok (.ireturn, 1) := by decide +kernel
theorem dX9_music_9 : decode cX9_music 9 = .ok (.aload_n 0, 1) := by decide +kernel
theorem dX9_music_10 : decode cX9_music 10 = .ok (.getfield 67, 3) := by decide +kernel
theorem dX9_music_13 : decode cX9_music 13 = .ok (.iload_n 1, 1) := by decide +kernel
theorem dX9_music_14 : decode cX9_music 14 = .ok (.aaload, 1) := by decide +kernel
theorem dX9_music_15 : decode cX9_music 15 = .ok (.invokevirtual 244, 3) := by decide +kernel
theorem dX9_music_18 : decode cX9_music 18 = .ok (.istore_n 2, 1) := by decide +kernel
theorem dX9_music_19 : decode cX9_music 19 = .ok (.iload_n 2, 1) := by decide +kernel
theorem dX9_music_20 : decode cX9_music 20 = .ok (.ifCond .eq 5, 3) := by decide +kernel
theorem dX9_music_23 : decode cX9_music 23 = .ok (.iload_n 2, 1) := by decide +kernel
theorem dX9_music_24 : decode cX9_music 24 = .ok (.ireturn, 1) := by decide +kernel
theorem dX9_music_25 : decode cX9_music 25 = .ok (.aload_n 0, 1) := by decide +kernel
theorem dX9_music_26 : decode cX9_music 26 = .ok (.getfield 40, 3) := by decide +kernel
theorem dX9_music_29 : decode cX9_music 29 = .ok (.invokevirtual 192, 3) := by decide +kernel
theorem dX9_music_32 : decode cX9_music 32 = .ok (.aload_n 0, 1) := by decide +kernel
theorem dX9_music_33 : decode cX9_music 33 = .ok (.getfield 40, 3) := by decide +kernel
theorem dX9_music_36 : decode cX9_music 36 = .ok (.aload_n 0, 1) := by decide +kernel
theorem dX9_music_37 : decode cX9_music 37 = .ok (.getfield 67, 3) := by decide +kernel
theorem dX9_music_40 : decode cX9_music 40 = .ok (.iload_n 1, 1) := by decide +kernel
theorem dX9_music_41 : decode cX9_music 41 = .ok (.aaload, 1) := by decide +kernel
theorem dX9_music_42 : decode cX9_music 42 = .ok (.invokevirtual 247, 3) := by decide +kernel
theorem dX9_music_45 : decode cX9_music 45 = .ok (.ireturn, 1) := by decide +kernel
theorem dX9_judge_0 : decode cX9_judge 0 = .ok (.iload_n 1, 1) := by decide +kernel
theorem dX9_judge_1 : decode cX9_judge 1 = .ok (.invokestatic 88, 3) := by decide +kernel
theorem dX9_judge_4 : decode cX9_judge 4 = .ok (.ifCond .eq 14, 3) := by decide +kernel
theorem dX9_judge_7 : decode cX9_judge 7 = .ok (.aload_n 0, 1) := by decide +kernel
theorem dX9_judge_8 : decode cX9_judge 8 = .ok (.getfield 28, 3) := by decide +kernel
theorem dX9_judge_11 : decode cX9_judge 11 = .ok (.iload_n 2, 1) := by decide +kernel
theorem dX9_judge_12 : decode cX9_judge 12 = .ok (.invokevirtual 118, 3) := by decide +kernel
theorem dX9_judge_15 : decode cX9_judge 15 = .ok (.ifCond .ne 5, 3) := by decide +kernel
theorem dX9_judge_18 : decode cX9_judge 18 = .ok (.iconst (-1), 1) := by decide +kernel
theorem dX9_judge_19 : decode cX9_judge 19 = .ok (.ireturn, 1) := by decide +kernel
theorem dX9_judge_20 : decode cX9_judge 20 = .ok (.aload_n 0, 1) := by decide +kernel
theorem dX9_judge_21 : decode cX9_judge 21 = .ok (.getfield 67, 3) := by decide +kernel
theorem dX9_judge_24 : decode cX9_judge 24 = .ok (.iload_n 1, 1) := by decide +kernel
theorem dX9_judge_25 : decode cX9_judge 25 = .ok (.aaload, 1) := by decide +kernel
theorem dX9_judge_26 : decode cX9_judge 26 = .ok (.invokevirtual 244, 3) := by decide +kernel
theorem dX9_judge_29 : decode cX9_judge 29 = .ok (.istore_n 3, 1) := by decide +kernel
theorem dX9_judge_30 : decode cX9_judge 30 = .ok (.iload_n 3, 1) := by decide +kernel
theorem dX9_judge_31 : decode cX9_judge 31 = .ok (.ifCond .eq 5, 3) := by decide +kernel
theorem dX9_judge_34 : decode cX9_judge 34 = .ok (.iload_n 3, 1) := by decide +kernel
theorem dX9_judge_35 : decode cX9_judge 35 = .ok (.ireturn, 1) := by decide +kernel
theorem dX9_judge_36 : decode cX9_judge 36 = .ok (.aload_n 0, 1) := by decide +kernel
theorem dX9_judge_37 : decode cX9_judge 37 = .ok (.getfield 40, 3) := by decide +kernel
theorem dX9_judge_40 : decode cX9_judge 40 = .ok (.invokevirtual 192, 3) := by decide +kernel
theorem dX9_judge_43 : decode cX9_judge 43 = .ok (.aload_n 0, 1) := by decide +kernel
theorem dX9_judge_44 : decode cX9_judge 44 = .ok (.getfield 40, 3) := by decide +kernel
theorem dX9_judge_47 : decode cX9_judge 47 = .ok (.aload_n 0, 1) := by decide +kernel
theorem dX9_judge_48 : decode cX9_judge 48 = .ok (.getfield 67, 3) := by decide +kernel
theorem dX9_judge_51 : decode cX9_judge 51 = .ok (.iload_n 1, 1) := by decide +kernel
theorem dX9_judge_52 : decode cX9_judge 52 = .ok (.aaload, 1) := by decide +kernel
theorem dX9_judge_53 : decode cX9_judge 53 = .ok (.iload_n 2, 1) := by decide +kernel
theorem dX9_judge_54 : decode cX9_judge 54 = .ok (.invokevirtual 251, 3) := by decide +kernel
theorem dX9_judge_57 : decode cX9_judge 57 = .ok (.ireturn, 1) := by decide +kernel
theorem dX9_begun_0 : decode cX9_begun 0 = .ok (.iload_n 1, 1) := by decide +kernel
theorem dX9_begun_1 : decode cX9_begun 1 = .ok (.invokestatic 88, 3) := by decide +kernel
theorem dX9_begun_4 : decode cX9_begun 4 = .ok (.ifCond .eq 35, 3) := by decide +kernel
theorem dX9_begun_7 : decode cX9_begun 7 = .ok (.aload_n 0, 1) := by decide +kernel
theorem dX9_begun_8 : decode cX9_begun 8 = .ok (.getfield 28, 3) := by decide +kernel
theorem dX9_begun_11 : decode cX9_begun 11 = .ok (.iload_n 2, 1) := by decide +kernel
theorem dX9_begun_12 : decode cX9_begun 12 = .ok (.invokevirtual 118, 3) := by decide +kernel
theorem dX9_begun_15 : decode cX9_begun 15 = .ok (.ifCond .eq 24, 3) := by decide +kernel
theorem dX9_begun_18 : decode cX9_begun 18 = .ok (.iload_n 3, 1) := by decide +kernel
theorem dX9_begun_19 : decode cX9_begun 19 = .ok (.ifCond .lt 20, 3) := by decide +kernel
theorem dX9_begun_22 : decode cX9_begun 22 = .ok (.iload_n 3, 1) := by decide +kernel
theorem dX9_begun_23 : decode cX9_begun 23 = .ok (.iconst 1, 1) := by decide +kernel
theorem dX9_begun_24 : decode cX9_begun 24 = .ok (.if_icmp .gt 15, 3) := by decide +kernel
theorem dX9_begun_27 : decode cX9_begun 27 = .ok (.aload_n 0, 1) := by decide +kernel
theorem dX9_begun_28 : decode cX9_begun 28 = .ok (.getfield 67, 3) := by decide +kernel
theorem dX9_begun_31 : decode cX9_begun 31 = .ok (.iload_n 1, 1) := by decide +kernel
theorem dX9_begun_32 : decode cX9_begun 32 = .ok (.aaload, 1) := by decide +kernel
theorem dX9_begun_33 : decode cX9_begun 33 = .ok (.invokevirtual 94, 3) := by decide +kernel
theorem dX9_begun_36 : decode cX9_begun 36 = .ok (.ifCond .ne 6, 3) := by decide +kernel
theorem dX9_begun_39 : decode cX9_begun 39 = .ok (.ldc 105, 2) := by decide +kernel
theorem dX9_begun_41 : decode cX9_begun 41 = .ok (.ireturn, 1) := by decide +kernel
theorem dX9_begun_42 : decode cX9_begun 42 = .ok (.aload_n 0, 1) := by decide +kernel
theorem dX9_begun_43 : decode cX9_begun 43 = .ok (.getfield 28, 3) := by decide +kernel
theorem dX9_begun_46 : decode cX9_begun 46 = .ok (.getfield 121, 3) := by decide +kernel
theorem dX9_begun_49 : decode cX9_begun 49 = .ok (.iload_n 2, 1) := by decide +kernel
theorem dX9_begun_50 : decode cX9_begun 50 = .ok (.aaload, 1) := by decide +kernel
theorem dX9_begun_51 : decode cX9_begun 51 = .ok (.invokevirtual 167, 3) := by decide +kernel
theorem dX9_begun_54 : decode cX9_begun 54 = .ok (.ifCond .eq 7, 3) := by decide +kernel
theorem dX9_begun_57 : decode cX9_begun 57 = .ok (.iconst 0, 1) := by decide +kernel
theorem dX9_begun_58 : decode cX9_begun 58 = .ok (.goto 5, 3) := by decide +kernel
theorem dX9_begun_61 : decode cX9_begun 61 = .ok (.bipush 9, 2) := by decide +kernel
theorem dX9_begun_63 : decode cX9_begun 63 = .ok (.istore 4, 2) := by decide +kernel
theorem dX9_begun_65 : decode cX9_begun 65 = .ok (.iconst 0, 1) := by decide +kernel
theorem dX9_begun_66 : decode cX9_begun 66 = .ok (.istore 5, 2) := by decide +kernel
theorem dX9_begun_68 : decode cX9_begun 68 = .ok (.bipush (-2), 2) := by decide +kernel
theorem dX9_begun_70 : decode cX9_begun 70 = .ok (.istore 6, 2) := by decide +kernel
theorem dX9_begun_72 : decode cX9_begun 72 = .ok (.iload 4, 2) := by decide +kernel
theorem dX9_begun_74 : decode cX9_begun 74 = .ok (.ineg, 1) := by decide +kernel
theorem dX9_begun_75 : decode cX9_begun 75 = .ok (.istore 7, 2) := by decide +kernel
theorem dX9_begun_77 : decode cX9_begun 77 = .ok (.iload 7, 2) := by decide +kernel
theorem dX9_begun_79 : decode cX9_begun 79 = .ok (.iload 4, 2) := by decide +kernel
theorem dX9_begun_81 : decode cX9_begun 81 = .ok (.if_icmp .gt 69, 3) := by decide +kernel
theorem dX9_begun_84 : decode cX9_begun 84 = .ok (.aload_n 0, 1) := by decide +kernel
theorem dX9_begun_85 : decode cX9_begun 85 = .ok (.getfield 40, 3) := by decide +kernel
theorem dX9_begun_88 : decode cX9_begun 88 = .ok (.invokevirtual 192, 3) := by decide +kernel
theorem dX9_begun_91 : decode cX9_begun 91 = .ok (.aload_n 0, 1) := by decide +kernel
theorem dX9_begun_92 : decode cX9_begun 92 = .ok (.getfield 40, 3) := by decide +kernel
theorem dX9_begun_95 : decode cX9_begun 95 = .ok (.getfield 201, 3) := by decide +kernel
theorem dX9_begun_98 : decode cX9_begun 98 = .ok (.getfield 121, 3) := by decide +kernel
theorem dX9_begun_101 : decode cX9_begun 101 = .ok (.iload_n 2, 1) := by decide +kernel
theorem dX9_begun_102 : decode cX9_begun 102 = .ok (.aaload, 1) := by decide +kernel
theorem dX9_begun_103 : decode cX9_begun 103 = .ok (.iload 7, 2) := by decide +kernel
theorem dX9_begun_105 : decode cX9_begun 105 = .ok (.putfield 186, 3) := by decide +kernel
theorem dX9_begun_108 : decode cX9_begun 108 = .ok (.aload_n 0, 1) := by decide +kernel
theorem dX9_begun_109 : decode cX9_begun 109 = .ok (.getfield 40, 3) := by decide +kernel
theorem dX9_begun_112 : decode cX9_begun 112 = .ok (.aload_n 0, 1) := by decide +kernel
theorem dX9_begun_113 : decode cX9_begun 113 = .ok (.getfield 67, 3) := by decide +kernel
theorem dX9_begun_116 : decode cX9_begun 116 = .ok (.iload_n 1, 1) := by decide +kernel
theorem dX9_begun_117 : decode cX9_begun 117 = .ok (.aaload, 1) := by decide +kernel
theorem dX9_begun_118 : decode cX9_begun 118 = .ok (.iload_n 2, 1) := by decide +kernel
theorem dX9_begun_119 : decode cX9_begun 119 = .ok (.invokevirtual 251, 3) := by decide +kernel
theorem dX9_begun_122 : decode cX9_begun 122 = .ok (.bipush (-2), 2) := by decide +kernel
theorem dX9_begun_124 : decode cX9_begun 124 = .ok (.if_icmp .ne 20, 3) := by decide +kernel
theorem dX9_begun_127 : decode cX9_begun 127 = .ok (.iload 5, 2) := by decide +kernel
theorem dX9_begun_129 : decode cX9_begun 129 = .ok (.ifCond .ne 8, 3) := by decide +kernel
theorem dX9_begun_132 : decode cX9_begun 132 = .ok (.iload 7, 2) := by decide +kernel
theorem dX9_begun_134 : decode cX9_begun 134 = .ok (.goto 5, 3) := by decide +kernel
theorem dX9_begun_137 : decode cX9_begun 137 = .ok (.iload 6, 2) := by decide +kernel
theorem dX9_begun_139 : decode cX9_begun 139 = .ok (.istore 6, 2) := by decide +kernel
theorem dX9_begun_141 : decode cX9_begun 141 = .ok (.iinc 5 1, 3) := by decide +kernel
theorem dX9_begun_144 : decode cX9_begun 144 = .ok (.iinc 7 1, 3) := by decide +kernel
theorem dX9_begun_147 : decode cX9_begun 147 = .ok (.goto (-70), 3) := by decide +kernel
theorem dX9_begun_150 : decode cX9_begun 150 = .ok (.iload_n 3, 1) := by decide +kernel
theorem dX9_begun_151 : decode cX9_begun 151 = .ok (.ifCond .ne 8, 3) := by decide +kernel
theorem dX9_begun_154 : decode cX9_begun 154 = .ok (.iload 5, 2) := by decide +kernel
theorem dX9_begun_156 : decode cX9_begun 156 = .ok (.goto 5, 3) := by decide +kernel
theorem dX9_begun_159 : decode cX9_begun 159 = .ok (.iload 6, 2) := by decide +kernel
theorem dX9_begun_161 : decode cX9_begun 161 = .ok (.ireturn, 1) := by decide +kernel
theorem dX9_skill_0 : decode cX9_skill 0 = .ok (.iload_n 1, 1) := by decide +kernel
theorem dX9_skill_1 : decode cX9_skill 1 = .ok (.invokestatic 134, 3) := by decide +kernel
theorem dX9_skill_4 : decode cX9_skill 4 = .ok (.ifCond .eq 10, 3) := by decide +kernel
theorem dX9_skill_7 : decode cX9_skill 7 = .ok (.iload_n 2, 1) := by decide +kernel
theorem dX9_skill_8 : decode cX9_skill 8 = .ok (.invokestatic 255, 3) := by decide +kernel
theorem dX9_skill_11 : decode cX9_skill 11 = .ok (.ifCond .ne 5, 3) := by decide +kernel
theorem dX9_skill_14 : decode cX9_skill 14 = .ok (.iconst (-1), 1) := by decide +kernel
theorem dX9_skill_15 : decode cX9_skill 15 = .ok (.ireturn, 1) := by decide +kernel
theorem dX9_skill_16 : decode cX9_skill 16 = .ok (.aload_n 0, 1) := by decide +kernel
theorem dX9_skill_17 : decode cX9_skill 17 = .ok (.getfield 47, 3) := by decide +kernel
theorem dX9_skill_20 : decode cX9_skill 20 = .ok (.getfield 137, 3) := by decide +kernel
theorem dX9_skill_23 : decode cX9_skill 23 = .ok (.iload_n 1, 1) := by decide +kernel
theorem dX9_skill_24 : decode cX9_skill 24 = .ok (.iaload, 1) := by decide +kernel
theorem dX9_skill_25 : decode cX9_skill 25 = .ok (.istore_n 3, 1) := by decide +kernel
theorem dX9_skill_26 : decode cX9_skill 26 = .ok (.aload_n 0, 1) := by decide +kernel
theorem dX9_skill_27 : decode cX9_skill 27 = .ok (.getfield 47, 3) := by decide +kernel
theorem dX9_skill_30 : decode cX9_skill 30 = .ok (.iload_n 1, 1) := by decide +kernel
theorem dX9_skill_31 : decode cX9_skill 31 = .ok (.iload_n 2, 1) := by decide +kernel
theorem dX9_skill_32 : decode cX9_skill 32 = .ok (.invokevirtual 258, 3) := by decide +kernel
theorem dX9_skill_35 : decode cX9_skill 35 = .ok (.iload_n 3, 1) := by decide +kernel
theorem dX9_skill_36 : decode cX9_skill 36 = .ok (.ireturn, 1) := by decide +kernel
theorem dX9_left_0 : decode cX9_left 0 = .ok (.iload_n 2, 1) := by decide +kernel
theorem dX9_left_1 : decode cX9_left 1 = .ok (.invokestatic 262, 3) := by decide +kernel
theorem dX9_left_4 : decode cX9_left 4 = .ok (.ifCond .eq 15, 3) := by decide +kernel
theorem dX9_left_7 : decode cX9_left 7 = .ok (.iload_n 3, 1) := by decide +kernel
theorem dX9_left_8 : decode cX9_left 8 = .ok (.iconst (-1), 1) := by decide +kernel
theorem dX9_left_9 : decode cX9_left 9 = .ok (.if_icmp .eq 12, 3) := by decide +kernel
theorem dX9_left_12 : decode cX9_left 12 = .ok (.iload_n 3, 1) := by decide +kernel
theorem dX9_left_13 : decode cX9_left 13 = .ok (.invokestatic 134, 3) := by decide +kernel
theorem dX9_left_16 : decode cX9_left 16 = .ok (.ifCond .ne 5, 3) := by decide +kernel
theorem dX9_left_19 : decode cX9_left 19 = .ok (.iconst (-1), 1) := by decide +kernel
theorem dX9_left_20 : decode cX9_left 20 = .ok (.ireturn, 1) := by decide +kernel
theorem dX9_left_21 : decode cX9_left 21 = .ok (.aload_n 0, 1) := by decide +kernel
theorem dX9_left_22 : decode cX9_left 22 = .ok (.getfield 47, 3) := by decide +kernel
theorem dX9_left_25 : decode cX9_left 25 = .ok (.iload_n 1, 1) := by decide +kernel
theorem dX9_left_26 : decode cX9_left 26 = .ok (.iload_n 2, 1) := by decide +kernel
theorem dX9_left_27 : decode cX9_left 27 = .ok (.invokevirtual 265, 3) := by decide +kernel
theorem dX9_left_30 : decode cX9_left 30 = .ok (.iload_n 3, 1) := by decide +kernel
theorem dX9_left_31 : decode cX9_left 31 = .ok (.iconst (-1), 1) := by decide +kernel
theorem dX9_left_32 : decode cX9_left 32 = .ok (.if_icmp .ne 11, 3) := by decide +kernel
theorem dX9_left_35 : decode cX9_left 35 = .ok (.aload_n 0, 1) := by decide +kernel
theorem dX9_left_36 : decode cX9_left 36 = .ok (.getfield 47, 3) := by decide +kernel
theorem dX9_left_39 : decode cX9_left 39 = .ok (.invokevirtual 268, 3) := by decide +kernel
theorem dX9_left_42 : decode cX9_left 42 = .ok (.ireturn, 1) := by decide +kernel
theorem dX9_left_43 : decode cX9_left 43 = .ok (.aload_n 0, 1) := by decide +kernel
theorem dX9_left_44 : decode cX9_left 44 = .ok (.getfield 47, 3) := by decide +kernel
theorem dX9_left_47 : decode cX9_left 47 = .ok (.getfield 271, 3) := by decide +kernel
theorem dX9_left_50 : decode cX9_left 50 = .ok (.iload_n 3, 1) := by decide +kernel
theorem dX9_left_51 : decode cX9_left 51 = .ok (.baload, 1) := by decide +kernel
theorem dX9_left_52 : decode cX9_left 52 = .ok (.ifCond .eq 7, 3) := by decide +kernel
theorem dX9_left_55 : decode cX9_left 55 = .ok (.iconst 1, 1) := by decide +kernel
theorem dX9_left_56 : decode cX9_left 56 = .ok (.goto 4, 3) := by decide +kernel
theorem dX9_left_59 : decode cX9_left 59 = .ok (.iconst 0, 1) := by decide +kernel
theorem dX9_left_60 : decode cX9_left 60 = .ok (.ireturn, 1) := by decide +kernel
theorem dX9_knocked_0 : decode cX9_knocked 0 = .ok (.iload_n 2, 1) := by decide +kernel
theorem dX9_knocked_1 : decode cX9_knocked 1 = .ok (.invokestatic 262, 3) := by decide +kernel
theorem dX9_knocked_4 : decode cX9_knocked 4 = .ok (.ifCond .eq 10, 3) := by decide +kernel
theorem dX9_knocked_7 : decode cX9_knocked 7 = .ok (.iload_n 3, 1) := by decide +kernel
theorem dX9_knocked_8 : decode cX9_knocked 8 = .ok (.invokestatic 134, 3) := by decide +kernel
theorem dX9_knocked_11 : decode cX9_knocked 11 = .ok (.ifCond .ne 5, 3) := by decide +kernel
theorem dX9_knocked_14 : decode cX9_knocked 14 = .ok (.iconst (-1), 1) := by decide +kernel
theorem dX9_knocked_15 : decode cX9_knocked 15 = .ok (.ireturn, 1) := by decide +kernel
theorem dX9_knocked_16 : decode cX9_knocked 16 = .ok (.aload_n 0, 1) := by decide +kernel
theorem dX9_knocked_17 : decode cX9_knocked 17 = .ok (.getfield 47, 3) := by decide +kernel
theorem dX9_knocked_20 : decode cX9_knocked 20 = .ok (.iload_n 1, 1) := by decide +kernel
theorem dX9_knocked_21 : decode cX9_knocked 21 = .ok (.iload_n 2, 1) := by decide +kernel
theorem dX9_knocked_22 : decode cX9_knocked 22 = .ok (.invokevirtual 265, 3) := by decide +kernel
theorem dX9_knocked_25 : decode cX9_knocked 25 = .ok (.aload_n 0, 1) := by decide +kernel
theorem dX9_knocked_26 : decode cX9_knocked 26 = .ok (.getfield 47, 3) := by decide +kernel
theorem dX9_knocked_29 : decode cX9_knocked 29 = .ok (.getfield 275, 3) := by decide +kernel
theorem dX9_knocked_32 : decode cX9_knocked 32 = .ok (.iload_n 3, 1) := by decide +kernel
theorem dX9_knocked_33 : decode cX9_knocked 33 = .ok (.iaload, 1) := by decide +kernel
theorem dX9_knocked_34 : decode cX9_knocked 34 = .ok (.ireturn, 1) := by decide +kernel
theorem dX9_last_0 : decode cX9_last 0 = .ok (.iload_n 2, 1) := by decide +kernel
theorem dX9_last_1 : decode cX9_last 1 = .ok (.ifCond .lt 8, 3) := by decide +kernel
theorem dX9_last_4 : decode cX9_last 4 = .ok (.iload_n 2, 1) := by decide +kernel
theorem dX9_last_5 : decode cX9_last 5 = .ok (.iconst 1, 1) := by decide +kernel
theorem dX9_last_6 : decode cX9_last 6 = .ok (.if_icmp .le 5, 3) := by decide +kernel
theorem dX9_last_9 : decode cX9_last 9 = .ok (.iconst (-1), 1) := by decide +kernel
theorem dX9_last_10 : decode cX9_last 10 = .ok (.ireturn, 1) := by decide +kernel
theorem dX9_last_11 : decode cX9_last 11 = .ok (.aload_n 0, 1) := by decide +kernel
theorem dX9_last_12 : decode cX9_last 12 = .ok (.getfield 47, 3) := by decide +kernel
theorem dX9_last_15 : decode cX9_last 15 = .ok (.iload_n 1, 1) := by decide +kernel
theorem dX9_last_16 : decode cX9_last 16 = .ok (.bipush 30, 2) := by decide +kernel
theorem dX9_last_18 : decode cX9_last 18 = .ok (.invokevirtual 265, 3) := by decide +kernel
theorem dX9_last_21 : decode cX9_last 21 = .ok (.aload_n 0, 1) := by decide +kernel
theorem dX9_last_22 : decode cX9_last 22 = .ok (.getfield 47, 3) := by decide +kernel
theorem dX9_last_25 : decode cX9_last 25 = .ok (.invokevirtual 278, 3) := by decide +kernel
theorem dX9_last_28 : decode cX9_last 28 = .ok (.istore_n 3, 1) := by decide +kernel
theorem dX9_last_29 : decode cX9_last 29 = .ok (.iload_n 2, 1) := by decide +kernel
theorem dX9_last_30 : decode cX9_last 30 = .ok (.ifCond .ne 7, 3) := by decide +kernel
theorem dX9_last_33 : decode cX9_last 33 = .ok (.iload_n 3, 1) := by decide +kernel
theorem dX9_last_34 : decode cX9_last 34 = .ok (.goto 12, 3) := by decide +kernel
theorem dX9_last_37 : decode cX9_last 37 = .ok (.aload_n 0, 1) := by decide +kernel
theorem dX9_last_38 : decode cX9_last 38 = .ok (.getfield 47, 3) := by decide +kernel
theorem dX9_last_41 : decode cX9_last 41 = .ok (.getfield 281, 3) := by decide +kernel
theorem dX9_last_44 : decode cX9_last 44 = .ok (.iload_n 3, 1) := by decide +kernel
theorem dX9_last_45 : decode cX9_last 45 = .ok (.iaload, 1) := by decide +kernel
theorem dX9_last_46 : decode cX9_last 46 = .ok (.ireturn, 1) := by decide +kernel
theorem dX9_alone_0 : decode cX9_alone 0 = .ok (.iload_n 1, 1) := by decide +kernel
theorem dX9_alone_1 : decode cX9_alone 1 = .ok (.invokestatic 134, 3) := by decide +kernel
theorem dX9_alone_4 : decode cX9_alone 4 = .ok (.ifCond .eq 22, 3) := by decide +kernel
theorem dX9_alone_7 : decode cX9_alone 7 = .ok (.iload_n 2, 1) := by decide +kernel
theorem dX9_alone_8 : decode cX9_alone 8 = .ok (.ifCond .lt 18, 3) := by decide +kernel
theorem dX9_alone_11 : decode cX9_alone 11 = .ok (.iload_n 2, 1) := by decide +kernel
theorem dX9_alone_12 : decode cX9_alone 12 = .ok (.bipush 8, 2) := by decide +kernel
theorem dX9_alone_14 : decode cX9_alone 14 = .ok (.if_icmp .gt 12, 3) := by decide +kernel
theorem dX9_alone_17 : decode cX9_alone 17 = .ok (.iload_n 3, 1) := by decide +kernel
theorem dX9_alone_18 : decode cX9_alone 18 = .ok (.ifCond .lt 8, 3) := by decide +kernel
theorem dX9_alone_21 : decode cX9_alone 21 = .ok (.iload_n 3, 1) := by decide +kernel
theorem dX9_alone_22 : decode cX9_alone 22 = .ok (.iconst 1, 1) := by decide +kernel
theorem dX9_alone_23 : decode cX9_alone 23 = .ok (.if_icmp .le 7, 3) := by decide +kernel
theorem dX9_alone_26 : decode cX9_alone 26 = .ok (.ldc2_w 286, 3) := by decide +kernel
theorem dX9_alone_29 : decode cX9_alone 29 = .ok (.lreturn, 1) := by decide +kernel
theorem dX9_alone_30 : decode cX9_alone 30 = .ok (.aload_n 0, 1) := by decide +kernel
theorem dX9_alone_31 : decode cX9_alone 31 = .ok (.getfield 47, 3) := by decide +kernel
theorem dX9_alone_34 : decode cX9_alone 34 = .ok (.getfield 137, 3) := by decide +kernel
theorem dX9_alone_37 : decode cX9_alone 37 = .ok (.iload_n 1, 1) := by decide +kernel
theorem dX9_alone_38 : decode cX9_alone 38 = .ok (.iaload, 1) := by decide +kernel
theorem dX9_alone_39 : decode cX9_alone 39 = .ok (.istore 4, 2) := by decide +kernel
theorem dX9_alone_41 : decode cX9_alone 41 = .ok (.iload 4, 2) := by decide +kernel
theorem dX9_alone_43 : decode cX9_alone 43 = .ok (.bipush 12, 2) := by decide +kernel
theorem dX9_alone_45 : decode cX9_alone 45 = .ok (.invokestatic 288, 3) := by decide +kernel
theorem dX9_alone_48 : decode cX9_alone 48 = .ok (.istore 5, 2) := by decide +kernel
theorem dX9_alone_50 : decode cX9_alone 50 = .ok (.iload_n 3, 1) := by decide +kernel
theorem dX9_alone_51 : decode cX9_alone 51 = .ok (.ifCond .ne 8, 3) := by decide +kernel
theorem dX9_alone_54 : decode cX9_alone 54 = .ok (.iload 4, 2) := by decide +kernel
theorem dX9_alone_56 : decode cX9_alone 56 = .ok (.goto 5, 3) := by decide +kernel
theorem dX9_alone_59 : decode cX9_alone 59 = .ok (.bipush 12, 2) := by decide +kernel
theorem dX9_alone_61 : decode cX9_alone 61 = .ok (.iconst 1, 1) := by decide +kernel
theorem dX9_alone_62 : decode cX9_alone 62 = .ok (.iload 5, 2) := by decide +kernel
theorem dX9_alone_64 : decode cX9_alone 64 = .ok (.invokestatic 291, 3) := by decide +kernel
theorem dX9_alone_67 : decode cX9_alone 67 = .ok (.idiv, 1) := by decide +kernel
theorem dX9_alone_68 : decode cX9_alone 68 = .ok (.istore 6, 2) := by decide +kernel
theorem dX9_alone_70 : decode cX9_alone 70 = .ok (.lconst 1, 1) := by decide +kernel
theorem dX9_alone_71 : decode cX9_alone 71 = .ok (.lstore 7, 2) := by decide +kernel
theorem dX9_alone_73 : decode cX9_alone 73 = .ok (.iconst 0, 1) := by decide +kernel
theorem dX9_alone_74 : decode cX9_alone 74 = .ok (.istore 9, 2) := by decide +kernel
theorem dX9_alone_76 : decode cX9_alone 76 = .ok (.iload 9, 2) := by decide +kernel
theorem dX9_alone_78 : decode cX9_alone 78 = .ok (.iload_n 2, 1) := by decide +kernel
theorem dX9_alone_79 : decode cX9_alone 79 = .ok (.if_icmp .ge 17, 3) := by decide +kernel
theorem dX9_alone_82 : decode cX9_alone 82 = .ok (.lload 7, 2) := by decide +kernel
theorem dX9_alone_84 : decode cX9_alone 84 = .ok (.iload 6, 2) := by decide +kernel
theorem dX9_alone_86 : decode cX9_alone 86 = .ok (.i2l, 1) := by decide +kernel
theorem dX9_alone_87 : decode cX9_alone 87 = .ok (.lmul, 1) := by decide +kernel
theorem dX9_alone_88 : decode cX9_alone 88 = .ok (.lstore 7, 2) := by decide +kernel
theorem dX9_alone_90 : decode cX9_alone 90 = .ok (.iinc 9 1, 3) := by decide +kernel
theorem dX9_alone_93 : decode cX9_alone 93 = .ok (.goto (-17), 3) := by decide +kernel
theorem dX9_alone_96 : decode cX9_alone 96 = .ok (.lload 7, 2) := by decide +kernel
theorem dX9_alone_98 : decode cX9_alone 98 = .ok (.lreturn, 1) := by decide +kernel
theorem dX9_learn_0 : decode cX9_learn 0 = .ok (.iload_n 1, 1) := by decide +kernel
theorem dX9_learn_1 : decode cX9_learn 1 = .ok (.invokestatic 134, 3) := by decide +kernel
theorem dX9_learn_4 : decode cX9_learn 4 = .ok (.ifCond .eq 14, 3) := by decide +kernel
theorem dX9_learn_7 : decode cX9_learn 7 = .ok (.iload_n 2, 1) := by decide +kernel
theorem dX9_learn_8 : decode cX9_learn 8 = .ok (.iconst 1, 1) := by decide +kernel
theorem dX9_learn_9 : decode cX9_learn 9 = .ok (.if_icmp .lt 9, 3) := by decide +kernel
theorem dX9_learn_12 : decode cX9_learn 12 = .ok (.iload_n 2, 1) := by decide +kernel
theorem dX9_learn_13 : decode cX9_learn 13 = .ok (.bipush 99, 2) := by decide +kernel
theorem dX9_learn_15 : decode cX9_learn 15 = .ok (.if_icmp .le 5, 3) := by decide +kernel
theorem dX9_learn_18 : decode cX9_learn 18 = .ok (.iconst (-1), 1) := by decide +kernel
theorem dX9_learn_19 : decode cX9_learn 19 = .ok (.ireturn, 1) := by decide +kernel
theorem dX9_learn_20 : decode cX9_learn 20 = .ok (.iconst 0, 1) := by decide +kernel
theorem dX9_learn_21 : decode cX9_learn 21 = .ok (.istore_n 3, 1) := by decide +kernel
theorem dX9_learn_22 : decode cX9_learn 22 = .ok (.iload_n 3, 1) := by decide +kernel
theorem dX9_learn_23 : decode cX9_learn 23 = .ok (.iload_n 2, 1) := by decide +kernel
theorem dX9_learn_24 : decode cX9_learn 24 = .ok (.if_icmp .ge 17, 3) := by decide +kernel
theorem dX9_learn_27 : decode cX9_learn 27 = .ok (.aload_n 0, 1) := by decide +kernel
theorem dX9_learn_28 : decode cX9_learn 28 = .ok (.getfield 47, 3) := by decide +kernel
theorem dX9_learn_31 : decode cX9_learn 31 = .ok (.iload_n 1, 1) := by decide +kernel
theorem dX9_learn_32 : decode cX9_learn 32 = .ok (.invokevirtual 294, 3) := by decide +kernel
theorem dX9_learn_35 : decode cX9_learn 35 = .ok (.iinc 3 1, 3) := by decide +kernel
theorem dX9_learn_38 : decode cX9_learn 38 = .ok (.goto (-16), 3) := by decide +kernel
theorem dX9_learn_41 : decode cX9_learn 41 = .ok (.aload_n 0, 1) := by decide +kernel
theorem dX9_learn_42 : decode cX9_learn 42 = .ok (.getfield 47, 3) := by decide +kernel
theorem dX9_learn_45 : decode cX9_learn 45 = .ok (.getfield 137, 3) := by decide +kernel
theorem dX9_learn_48 : decode cX9_learn 48 = .ok (.iload_n 1, 1) := by decide +kernel
theorem dX9_learn_49 : decode cX9_learn 49 = .ok (.iaload, 1) := by decide +kernel
theorem dX9_learn_50 : decode cX9_learn 50 = .ok (.ireturn, 1) := by decide +kernel
theorem dX9_till_0 : decode cX9_till 0 = .ok (.iload_n 1, 1) := by decide +kernel
theorem dX9_till_1 : decode cX9_till 1 = .ok (.invokestatic 134, 3) := by decide +kernel
theorem dX9_till_4 : decode cX9_till 4 = .ok (.ifCond .eq 10, 3) := by decide +kernel
theorem dX9_till_7 : decode cX9_till 7 = .ok (.iload_n 2, 1) := by decide +kernel
theorem dX9_till_8 : decode cX9_till 8 = .ok (.invokestatic 255, 3) := by decide +kernel
theorem dX9_till_11 : decode cX9_till 11 = .ok (.ifCond .ne 5, 3) := by decide +kernel
theorem dX9_till_14 : decode cX9_till 14 = .ok (.iconst (-1), 1) := by decide +kernel
theorem dX9_till_15 : decode cX9_till 15 = .ok (.ireturn, 1) := by decide +kernel
theorem dX9_till_16 : decode cX9_till 16 = .ok (.aload_n 0, 1) := by decide +kernel
theorem dX9_till_17 : decode cX9_till 17 = .ok (.getfield 47, 3) := by decide +kernel
theorem dX9_till_20 : decode cX9_till 20 = .ok (.getfield 137, 3) := by decide +kernel
theorem dX9_till_23 : decode cX9_till 23 = .ok (.iload_n 1, 1) := by decide +kernel
theorem dX9_till_24 : decode cX9_till 24 = .ok (.iaload, 1) := by decide +kernel
theorem dX9_till_25 : decode cX9_till 25 = .ok (.iload_n 2, 1) := by decide +kernel
theorem dX9_till_26 : decode cX9_till 26 = .ok (.if_icmp .lt 5, 3) := by decide +kernel
theorem dX9_till_29 : decode cX9_till 29 = .ok (.iconst 0, 1) := by decide +kernel
theorem dX9_till_30 : decode cX9_till 30 = .ok (.ireturn, 1) := by decide +kernel
theorem dX9_till_31 : decode cX9_till 31 = .ok (.aload_n 0, 1) := by decide +kernel
theorem dX9_till_32 : decode cX9_till 32 = .ok (.getfield 47, 3) := by decide +kernel
theorem dX9_till_35 : decode cX9_till 35 = .ok (.getfield 141, 3) := by decide +kernel
theorem dX9_till_38 : decode cX9_till 38 = .ok (.iload_n 1, 1) := by decide +kernel
theorem dX9_till_39 : decode cX9_till 39 = .ok (.iaload, 1) := by decide +kernel
theorem dX9_till_40 : decode cX9_till 40 = .ok (.ineg, 1) := by decide +kernel
theorem dX9_till_41 : decode cX9_till 41 = .ok (.istore_n 3, 1) := by decide +kernel
theorem dX9_till_42 : decode cX9_till 42 = .ok (.aload_n 0, 1) := by decide +kernel
theorem dX9_till_43 : decode cX9_till 43 = .ok (.getfield 47, 3) := by decide +kernel
theorem dX9_till_46 : decode cX9_till 46 = .ok (.getfield 137, 3) := by decide +kernel
theorem dX9_till_49 : decode cX9_till 49 = .ok (.iload_n 1, 1) := by decide +kernel
theorem dX9_till_50 : decode cX9_till 50 = .ok (.iaload, 1) := by decide +kernel
theorem dX9_till_51 : decode cX9_till 51 = .ok (.istore 4, 2) := by decide +kernel
theorem dX9_till_53 : decode cX9_till 53 = .ok (.iload 4, 2) := by decide +kernel
theorem dX9_till_55 : decode cX9_till 55 = .ok (.iload_n 2, 1) := by decide +kernel
theorem dX9_till_56 : decode cX9_till 56 = .ok (.if_icmp .ge 17, 3) := by decide +kernel
theorem dX9_till_59 : decode cX9_till 59 = .ok (.iload_n 3, 1) := by decide +kernel
theorem dX9_till_60 : decode cX9_till 60 = .ok (.iload 4, 2) := by decide +kernel
theorem dX9_till_62 : decode cX9_till 62 = .ok (.invokestatic 297, 3) := by decide +kernel
theorem dX9_till_65 : decode cX9_till 65 = .ok (.iadd, 1) := by decide +kernel
theorem dX9_till_66 : decode cX9_till 66 = .ok (.istore_n 3, 1) := by decide +kernel
theorem dX9_till_67 : decode cX9_till 67 = .ok (.iinc 4 1, 3) := by decide +kernel
theorem dX9_till_70 : decode cX9_till 70 = .ok (.goto (-17), 3) := by decide +kernel
theorem dX9_till_73 : decode cX9_till 73 = .ok (.iload_n 3, 1) := by decide +kernel
theorem dX9_till_74 : decode cX9_till 74 = .ok (.ireturn, 1) := by decide +kernel
theorem dX9_image_0 : decode cX9_image 0 = .ok (.aload_n 0, 1) := by decide +kernel
theorem dX9_image_1 : decode cX9_image 1 = .ok (.getfield 32, 3) := by decide +kernel
theorem dX9_image_4 : decode cX9_image 4 = .ok (.aload_n 0, 1) := by decide +kernel
theorem dX9_image_5 : decode cX9_image 5 = .ok (.getfield 28, 3) := by decide +kernel
theorem dX9_image_8 : decode cX9_image 8 = .ok (.invokevirtual 300, 3) := by decide +kernel
theorem dX9_image_11 : decode cX9_image 11 = .ok (.aload_n 0, 1) := by decide +kernel
theorem dX9_image_12 : decode cX9_image 12 = .ok (.iconst 1, 1) := by decide +kernel
theorem dX9_image_13 : decode cX9_image 13 = .ok (.putfield 72, 3) := by decide +kernel
theorem dX9_image_16 : decode cX9_image 16 = .ok (.aload_n 0, 1) := by decide +kernel
theorem dX9_image_17 : decode cX9_image 17 = .ok (.getfield 28, 3) := by decide +kernel
theorem dX9_image_20 : decode cX9_image 20 = .ok (.getfield 303, 3) := by decide +kernel
theorem dX9_image_23 : decode cX9_image 23 = .ok (.ireturn, 1) := by decide +kernel
theorem dX9_back_0 : decode cX9_back 0 = .ok (.aload_n 0, 1) := by decide +kernel
theorem dX9_back_1 : decode cX9_back 1 = .ok (.getfield 72, 3) := by decide +kernel
theorem dX9_back_4 : decode cX9_back 4 = .ok (.ifCond .ne 6, 3) := by decide +kernel
theorem dX9_back_7 : decode cX9_back 7 = .ok (.bipush (-5), 2) := by decide +kernel
theorem dX9_back_9 : decode cX9_back 9 = .ok (.ireturn, 1) := by decide +kernel
theorem dX9_back_10 : decode cX9_back 10 = .ok (.aload_n 0, 1) := by decide +kernel
theorem dX9_back_11 : decode cX9_back 11 = .ok (.getfield 28, 3) := by decide +kernel
theorem dX9_back_14 : decode cX9_back 14 = .ok (.aload_n 0, 1) := by decide +kernel
theorem dX9_back_15 : decode cX9_back 15 = .ok (.getfield 32, 3) := by decide +kernel
theorem dX9_back_18 : decode cX9_back 18 = .ok (.invokevirtual 306, 3) := by decide +kernel
theorem dX9_back_21 : decode cX9_back 21 = .ok (.aload_n 0, 1) := by decide +kernel
theorem dX9_back_22 : decode cX9_back 22 = .ok (.getfield 28, 3) := by decide +kernel
theorem dX9_back_25 : decode cX9_back 25 = .ok (.getfield 303, 3) := by decide +kernel
theorem dX9_back_28 : decode cX9_back 28 = .ok (.ireturn, 1) := by decide +kernel
theorem dX9_undo_0 : decode cX9_undo 0 = .ok (.aload_n 0, 1) := by decide +kernel
theorem dX9_undo_1 : decode cX9_undo 1 = .ok (.getfield 54, 3) := by decide +kernel
theorem dX9_undo_4 : decode cX9_undo 4 = .ok (.getfield 309, 3) := by decide +kernel
theorem dX9_undo_7 : decode cX9_undo 7 = .ok (.ifCond .ne 6, 3) := by decide +kernel
theorem dX9_undo_10 : decode cX9_undo 10 = .ok (.bipush (-5), 2) := by decide +kernel
theorem dX9_undo_12 : decode cX9_undo 12 = .ok (.ireturn, 1) := by decide +kernel
theorem dX9_undo_13 : decode cX9_undo 13 = .ok (.aload_n 0, 1) := by decide +kernel
theorem dX9_undo_14 : decode cX9_undo 14 = .ok (.getfield 54, 3) := by decide +kernel
theorem dX9_undo_17 : decode cX9_undo 17 = .ok (.dup, 1) := by decide +kernel
theorem dX9_undo_18 : decode cX9_undo 18 = .ok (.getfield 309, 3) := by decide +kernel
theorem dX9_undo_21 : decode cX9_undo 21 = .ok (.iconst 1, 1) := by decide +kernel
theorem dX9_undo_22 : decode cX9_undo 22 = .ok (.isub, 1) := by decide +kernel
theorem dX9_undo_23 : decode cX9_undo 23 = .ok (.putfield 309, 3) := by decide +kernel
theorem dX9_undo_26 : decode cX9_undo 26 = .ok (.aload_n 0, 1) := by decide +kernel
theorem dX9_undo_27 : decode cX9_undo 27 = .ok (.getfield 54, 3) := by decide +kernel
theorem dX9_undo_30 : decode cX9_undo 30 = .ok (.getfield 309, 3) := by decide +kernel
theorem dX9_undo_33 : decode cX9_undo 33 = .ok (.istore_n 1, 1) := by decide +kernel
theorem dX9_undo_34 : decode cX9_undo 34 = .ok (.aload_n 0, 1) := by decide +kernel
theorem dX9_undo_35 : decode cX9_undo 35 = .ok (.aload_n 0, 1) := by decide +kernel
theorem dX9_undo_36 : decode cX9_undo 36 = .ok (.getfield 54, 3) := by decide +kernel
theorem dX9_undo_39 : decode cX9_undo 39 = .ok (.getfield 312, 3) := by decide +kernel
theorem dX9_undo_42 : decode cX9_undo 42 = .ok (.iload_n 1, 1) := by decide +kernel
theorem dX9_undo_43 : decode cX9_undo 43 = .ok (.iaload, 1) := by decide +kernel
theorem dX9_undo_44 : decode cX9_undo 44 = .ok (.aload_n 0, 1) := by decide +kernel
theorem dX9_undo_45 : decode cX9_undo 45 = .ok (.getfield 54, 3) := by decide +kernel
theorem dX9_undo_48 : decode cX9_undo 48 = .ok (.getfield 315, 3) := by decide +kernel
theorem dX9_undo_51 : decode cX9_undo 51 = .ok (.iload_n 1, 1) := by decide +kernel
theorem dX9_undo_52 : decode cX9_undo 52 = .ok (.iaload, 1) := by decide +kernel
theorem dX9_undo_53 : decode cX9_undo 53 = .ok (.aload_n 0, 1) := by decide +kernel
theorem dX9_undo_54 : decode cX9_undo 54 = .ok (.getfield 54, 3) := by decide +kernel
theorem dX9_undo_57 : decode cX9_undo 57 = .ok (.getfield 318, 3) := by decide +kernel
theorem dX9_undo_60 : decode cX9_undo 60 = .ok (.iload_n 1, 1) := by decide +kernel
theorem dX9_undo_61 : decode cX9_undo 61 = .ok (.iaload, 1) := by decide +kernel
theorem dX9_undo_62 : decode cX9_undo 62 = .ok (.invokevirtual 110, 3) := by decide +kernel
theorem dX9_undo_65 : decode cX9_undo 65 = .ok (.aload_n 0, 1) := by decide +kernel
theorem dX9_undo_66 : decode cX9_undo 66 = .ok (.getfield 54, 3) := by decide +kernel
theorem dX9_undo_69 : decode cX9_undo 69 = .ok (.getfield 309, 3) := by decide +kernel
theorem dX9_undo_72 : decode cX9_undo 72 = .ok (.ireturn, 1) := by decide +kernel
theorem dX9_redo_0 : decode cX9_redo 0 = .ok (.aload_n 0, 1) := by decide +kernel
theorem dX9_redo_1 : decode cX9_redo 1 = .ok (.getfield 54, 3) := by decide +kernel
theorem dX9_redo_4 : decode cX9_redo 4 = .ok (.getfield 309, 3) := by decide +kernel
theorem dX9_redo_7 : decode cX9_redo 7 = .ok (.aload_n 0, 1) := by decide +kernel
theorem dX9_redo_8 : decode cX9_redo 8 = .ok (.getfield 54, 3) := by decide +kernel
theorem dX9_redo_11 : decode cX9_redo 11 = .ok (.getfield 321, 3) := by decide +kernel
theorem dX9_redo_14 : decode cX9_redo 14 = .ok (.if_icmp .ne 6, 3) := by decide +kernel
theorem dX9_redo_17 : decode cX9_redo 17 = .ok (.bipush (-5), 2) := by decide +kernel
theorem dX9_redo_19 : decode cX9_redo 19 = .ok (.ireturn, 1) := by decide +kernel
theorem dX9_redo_20 : decode cX9_redo 20 = .ok (.aload_n 0, 1) := by decide +kernel
theorem dX9_redo_21 : decode cX9_redo 21 = .ok (.getfield 54, 3) := by decide +kernel
theorem dX9_redo_24 : decode cX9_redo 24 = .ok (.getfield 309, 3) := by decide +kernel
theorem dX9_redo_27 : decode cX9_redo 27 = .ok (.istore_n 1, 1) := by decide +kernel
theorem dX9_redo_28 : decode cX9_redo 28 = .ok (.aload_n 0, 1) := by decide +kernel
theorem dX9_redo_29 : decode cX9_redo 29 = .ok (.getfield 54, 3) := by decide +kernel
theorem dX9_redo_32 : decode cX9_redo 32 = .ok (.dup, 1) := by decide +kernel
theorem dX9_redo_33 : decode cX9_redo 33 = .ok (.getfield 309, 3) := by decide +kernel
theorem dX9_redo_36 : decode cX9_redo 36 = .ok (.iconst 1, 1) := by decide +kernel
theorem dX9_redo_37 : decode cX9_redo 37 = .ok (.iadd, 1) := by decide +kernel
theorem dX9_redo_38 : decode cX9_redo 38 = .ok (.putfield 309, 3) := by decide +kernel
theorem dX9_redo_41 : decode cX9_redo 41 = .ok (.aload_n 0, 1) := by decide +kernel
theorem dX9_redo_42 : decode cX9_redo 42 = .ok (.aload_n 0, 1) := by decide +kernel
theorem dX9_redo_43 : decode cX9_redo 43 = .ok (.getfield 54, 3) := by decide +kernel
theorem dX9_redo_46 : decode cX9_redo 46 = .ok (.getfield 312, 3) := by decide +kernel
theorem dX9_redo_49 : decode cX9_redo 49 = .ok (.iload_n 1, 1) := by decide +kernel
theorem dX9_redo_50 : decode cX9_redo 50 = .ok (.iaload, 1) := by decide +kernel
theorem dX9_redo_51 : decode cX9_redo 51 = .ok (.aload_n 0, 1) := by decide +kernel
theorem dX9_redo_52 : decode cX9_redo 52 = .ok (.getfield 54, 3) := by decide +kernel
theorem dX9_redo_55 : decode cX9_redo 55 = .ok (.getfield 315, 3) := by decide +kernel
theorem dX9_redo_58 : decode cX9_redo 58 = .ok (.iload_n 1, 1) := by decide +kernel
theorem dX9_redo_59 : decode cX9_redo 59 = .ok (.iaload, 1) := by decide +kernel
theorem dX9_redo_60 : decode cX9_redo 60 = .ok (.aload_n 0, 1) := by decide +kernel
theorem dX9_redo_61 : decode cX9_redo 61 = .ok (.getfield 54, 3) := by decide +kernel
theorem dX9_redo_64 : decode cX9_redo 64 = .ok (.getfield 324, 3) := by decide +kernel
theorem dX9_redo_67 : decode cX9_redo 67 = .ok (.iload_n 1, 1) := by decide +kernel
theorem dX9_redo_68 : decode cX9_redo 68 = .ok (.iaload, 1) := by decide +kernel
theorem dX9_redo_69 : decode cX9_redo 69 = .ok (.invokevirtual 110, 3) := by decide +kernel
theorem dX9_redo_72 : decode cX9_redo 72 = .ok (.aload_n 0, 1) := by decide +kernel
theorem dX9_redo_73 : decode cX9_redo 73 = .ok (.getfield 54, 3) := by decide +kernel
theorem dX9_redo_76 : decode cX9_redo 76 = .ok (.getfield 321, 3) := by decide +kernel
theorem dX9_redo_79 : decode cX9_redo 79 = .ok (.aload_n 0, 1) := by decide +kernel
theorem dX9_redo_80 : decode cX9_redo 80 = .ok (.getfield 54, 3) := by decide +kernel
theorem dX9_redo_83 : decode cX9_redo 83 = .ok (.getfield 309, 3) := by decide +kernel
theorem dX9_redo_86 : decode cX9_redo 86 = .ok (.isub, 1) := by decide +kernel
theorem dX9_redo_87 : decode cX9_redo 87 = .ok (.ireturn, 1) := by decide +kernel
theorem dX9_body_0 : decode cX9_body 0 = .ok (.iload_n 1, 1) := by decide +kernel
theorem dX9_body_1 : decode cX9_body 1 = .ok (.invokestatic 327, 3) := by decide +kernel
theorem dX9_body_4 : decode cX9_body 4 = .ok (.ifCond .ne 5, 3) := by decide +kernel
theorem dX9_body_7 : decode cX9_body 7 = .ok (.iconst (-1), 1) := by decide +kernel
theorem dX9_body_8 : decode cX9_body 8 = .ok (.ireturn, 1) := by decide +kernel
theorem dX9_body_9 : decode cX9_body 9 = .ok (.aload_n 0, 1) := by decide +kernel
theorem dX9_body_10 : decode cX9_body 10 = .ok (.getfield 61, 3) := by decide +kernel
theorem dX9_body_13 : decode cX9_body 13 = .ok (.invokevirtual 330, 3) := by decide +kernel
theorem dX9_body_16 : decode cX9_body 16 = .ok (.ifCond .eq 8, 3) := by decide +kernel
theorem dX9_body_19 : decode cX9_body 19 = .ok (.bipush (-3), 2) := by decide +kernel
theorem dX9_body_21 : decode cX9_body 21 = .ok (.goto 11, 3) := by decide +kernel
theorem dX9_body_24 : decode cX9_body 24 = .ok (.aload_n 0, 1) := by decide +kernel
theorem dX9_body_25 : decode cX9_body 25 = .ok (.getfield 61, 3) := by decide +kernel
theorem dX9_body_28 : decode cX9_body 28 = .ok (.iload_n 1, 1) := by decide +kernel
theorem dX9_body_29 : decode cX9_body 29 = .ok (.invokevirtual 331, 3) := by decide +kernel
theorem dX9_body_32 : decode cX9_body 32 = .ok (.ireturn, 1) := by decide +kernel
theorem dX9_act_0 : decode cX9_act 0 = .ok (.aload_n 0, 1) := by decide +kernel
theorem dX9_act_1 : decode cX9_act 1 = .ok (.getfield 61, 3) := by decide +kernel
theorem dX9_act_4 : decode cX9_act 4 = .ok (.iconst 0, 1) := by decide +kernel
theorem dX9_act_5 : decode cX9_act 5 = .ok (.putfield 334, 3) := by decide +kernel
theorem dX9_act_8 : decode cX9_act 8 = .ok (.aload_n 0, 1) := by decide +kernel
theorem dX9_act_9 : decode cX9_act 9 = .ok (.getfield 61, 3) := by decide +kernel
theorem dX9_act_12 : decode cX9_act 12 = .ok (.iload_n 1, 1) := by decide +kernel
theorem dX9_act_13 : decode cX9_act 13 = .ok (.invokevirtual 337, 3) := by decide +kernel
theorem dX9_act_16 : decode cX9_act 16 = .ok (.ifCond .eq 12, 3) := by decide +kernel
theorem dX9_act_19 : decode cX9_act 19 = .ok (.iload_n 2, 1) := by decide +kernel
theorem dX9_act_20 : decode cX9_act 20 = .ok (.ifCond .lt 8, 3) := by decide +kernel
theorem dX9_act_23 : decode cX9_act 23 = .ok (.iload_n 2, 1) := by decide +kernel
theorem dX9_act_24 : decode cX9_act 24 = .ok (.iconst 4, 1) := by decide +kernel
theorem dX9_act_25 : decode cX9_act 25 = .ok (.if_icmp .lt 5, 3) := by decide +kernel
theorem dX9_act_28 : decode cX9_act 28 = .ok (.iconst 0, 1) := by decide +kernel
theorem dX9_act_29 : decode cX9_act 29 = .ok (.ireturn, 1) := by decide +kernel
theorem dX9_act_30 : decode cX9_act 30 = .ok (.aload_n 0, 1) := by decide +kernel
theorem dX9_act_31 : decode cX9_act 31 = .ok (.getfield 61, 3) := by decide +kernel
theorem dX9_act_34 : decode cX9_act 34 = .ok (.iload_n 1, 1) := by decide +kernel
theorem dX9_act_35 : decode cX9_act 35 = .ok (.iload_n 2, 1) := by decide +kernel
theorem dX9_act_36 : decode cX9_act 36 = .ok (.iload_n 3, 1) := by decide +kernel
theorem dX9_act_37 : decode cX9_act 37 = .ok (.invokevirtual 338, 3) := by decide +kernel
theorem dX9_act_40 : decode cX9_act 40 = .ok (.ireturn, 1) := by decide +kernel
theorem dX9_trace_0 : decode cX9_trace 0 = .ok (.iload_n 1, 1) := by decide +kernel
theorem dX9_trace_1 : decode cX9_trace 1 = .ok (.ifCond .lt 20, 3) := by decide +kernel
theorem dX9_trace_4 : decode cX9_trace 4 = .ok (.iload_n 1, 1) := by decide +kernel
theorem dX9_trace_5 : decode cX9_trace 5 = .ok (.aload_n 0, 1) := by decide +kernel
theorem dX9_trace_6 : decode cX9_trace 6 = .ok (.getfield 61, 3) := by decide +kernel
theorem dX9_trace_9 : decode cX9_trace 9 = .ok (.getfield 334, 3) := by decide +kernel
theorem dX9_trace_12 : decode cX9_trace 12 = .ok (.if_icmp .ge 9, 3) := by decide +kernel
theorem dX9_trace_15 : decode cX9_trace 15 = .ok (.iload_n 1, 1) := by decide +kernel
theorem dX9_trace_16 : decode cX9_trace 16 = .ok (.bipush 24, 2) := by decide +kernel
theorem dX9_trace_18 : decode cX9_trace 18 = .ok (.if_icmp .lt 5, 3) := by decide +kernel
theorem dX9_trace_21 : decode cX9_trace 21 = .ok (.iconst (-1), 1) := by decide +kernel
theorem dX9_trace_22 : decode cX9_trace 22 = .ok (.ireturn, 1) := by decide +kernel
theorem dX9_trace_23 : decode cX9_trace 23 = .ok (.aload_n 0, 1) := by decide +kernel
theorem dX9_trace_24 : decode cX9_trace 24 = .ok (.getfield 61, 3) := by decide +kernel
theorem dX9_trace_27 : decode cX9_trace 27 = .ok (.getfield 341, 3) := by decide +kernel
theorem dX9_trace_30 : decode cX9_trace 30 = .ok (.iload_n 1, 1) := by decide +kernel
theorem dX9_trace_31 : decode cX9_trace 31 = .ok (.iaload, 1) := by decide +kernel
theorem dX9_trace_32 : decode cX9_trace 32 = .ok (.ireturn, 1) := by decide +kernel
theorem dX9_keep_0 : decode cX9_keep 0 = .ok (.iload_n 1, 1) := by decide +kernel
theorem dX9_keep_1 : decode cX9_keep 1 = .ok (.invokestatic 88, 3) := by decide +kernel
theorem dX9_keep_4 : decode cX9_keep 4 = .ok (.ifCond .eq 19, 3) := by decide +kernel
theorem dX9_keep_7 : decode cX9_keep 7 = .ok (.iload_n 2, 1) := by decide +kernel
theorem dX9_keep_8 : decode cX9_keep 8 = .ok (.iconst (-1), 1) := by decide +kernel
theorem dX9_keep_9 : decode cX9_keep 9 = .ok (.if_icmp .eq 16, 3) := by decide +kernel
theorem dX9_keep_12 : decode cX9_keep 12 = .ok (.aload_n 0, 1) := by decide +kernel
theorem dX9_keep_13 : decode cX9_keep 13 = .ok (.getfield 61, 3) := by decide +kernel
theorem dX9_keep_16 : decode cX9_keep 16 = .ok (.iload_n 2, 1) := by decide +kernel
theorem dX9_keep_17 : decode cX9_keep 17 = .ok (.invokevirtual 337, 3) := by decide +kernel
theorem dX9_keep_20 : decode cX9_keep 20 = .ok (.ifCond .ne 5, 3) := by decide +kernel
theorem dX9_keep_23 : decode cX9_keep 23 = .ok (.iconst (-1), 1) := by decide +kernel
theorem dX9_keep_24 : decode cX9_keep 24 = .ok (.ireturn, 1) := by decide +kernel
theorem dX9_keep_25 : decode cX9_keep 25 = .ok (.iload_n 2, 1) := by decide +kernel
theorem dX9_keep_26 : decode cX9_keep 26 = .ok (.iconst (-1), 1) := by decide +kernel
theorem dX9_keep_27 : decode cX9_keep 27 = .ok (.if_icmp .ne 15, 3) := by decide +kernel
theorem dX9_keep_30 : decode cX9_keep 30 = .ok (.aload_n 0, 1) := by decide +kernel
theorem dX9_keep_31 : decode cX9_keep 31 = .ok (.getfield 67, 3) := by decide +kernel
theorem dX9_keep_34 : decode cX9_keep 34 = .ok (.iload_n 1, 1) := by decide +kernel
theorem dX9_keep_35 : decode cX9_keep 35 = .ok (.aaload, 1) := by decide +kernel
theorem dX9_keep_36 : decode cX9_keep 36 = .ok (.invokevirtual 344, 3) := by decide +kernel
theorem dX9_keep_39 : decode cX9_keep 39 = .ok (.goto 13, 3) := by decide +kernel
theorem dX9_keep_42 : decode cX9_keep 42 = .ok (.aload_n 0, 1) := by decide +kernel
theorem dX9_keep_43 : decode cX9_keep 43 = .ok (.getfield 67, 3) := by decide +kernel
theorem dX9_keep_46 : decode cX9_keep 46 = .ok (.iload_n 1, 1) := by decide +kernel
theorem dX9_keep_47 : decode cX9_keep 47 = .ok (.aaload, 1) := by decide +kernel
theorem dX9_keep_48 : decode cX9_keep 48 = .ok (.iload_n 2, 1) := by decide +kernel
theorem dX9_keep_49 : decode cX9_keep 49 = .ok (.invokevirtual 347, 3) := by decide +kernel
theorem dX9_keep_52 : decode cX9_keep 52 = .ok (.iconst 1, 1) := by decide +kernel
theorem dX9_keep_53 : decode cX9_keep 53 = .ok (.ireturn, 1) := by decide +kernel
theorem dX9_row_0 : decode cX9_row 0 = .ok (.iload_n 1, 1) := by decide +kernel
theorem dX9_row_1 : decode cX9_row 1 = .ok (.invokestatic 88, 3) := by decide +kernel
theorem dX9_row_4 : decode cX9_row 4 = .ok (.ifCond .eq 16, 3) := by decide +kernel
theorem dX9_row_7 : decode cX9_row 7 = .ok (.iload_n 2, 1) := by decide +kernel
theorem dX9_row_8 : decode cX9_row 8 = .ok (.invokestatic 350, 3) := by decide +kernel
theorem dX9_row_11 : decode cX9_row 11 = .ok (.ifCond .eq 9, 3) := by decide +kernel
theorem dX9_row_14 : decode cX9_row 14 = .ok (.iload_n 3, 1) := by decide +kernel
theorem dX9_row_15 : decode cX9_row 15 = .ok (.bipush 60, 2) := by decide +kernel
theorem dX9_row_17 : decode cX9_row 17 = .ok (.if_icmp .le 5, 3) := by decide +kernel
theorem dX9_row_20 : decode cX9_row 20 = .ok (.iconst (-1), 1) := by decide +kernel
theorem dX9_row_21 : decode cX9_row 21 = .ok (.ireturn, 1) := by decide +kernel
theorem dX9_row_22 : decode cX9_row 22 = .ok (.iload_n 3, 1) := by decide +kernel
theorem dX9_row_23 : decode cX9_row 23 = .ok (.ifCond .ge 6, 3) := by decide +kernel
theorem dX9_row_26 : decode cX9_row 26 = .ok (.bipush (-14), 2) := by decide +kernel
theorem dX9_row_28 : decode cX9_row 28 = .ok (.ireturn, 1) := by decide +kernel
theorem dX9_row_29 : decode cX9_row 29 = .ok (.aload_n 0, 1) := by decide +kernel
theorem dX9_row_30 : decode cX9_row 30 = .ok (.getfield 67, 3) := by decide +kernel
theorem dX9_row_33 : decode cX9_row 33 = .ok (.iload_n 1, 1) := by decide +kernel
theorem dX9_row_34 : decode cX9_row 34 = .ok (.aaload, 1) := by decide +kernel
theorem dX9_row_35 : decode cX9_row 35 = .ok (.iload_n 2, 1) := by decide +kernel
theorem dX9_row_36 : decode cX9_row 36 = .ok (.iload_n 3, 1) := by decide +kernel
theorem dX9_row_37 : decode cX9_row 37 = .ok (.invokevirtual 353, 3) := by decide +kernel
theorem dX9_row_40 : decode cX9_row 40 = .ok (.iconst 1, 1) := by decide +kernel
theorem dX9_row_41 : decode cX9_row 41 = .ok (.ireturn, 1) := by decide +kernel
theorem dX9_put_0 : decode cX9_put 0 = .ok (.iload_n 1, 1) := by decide +kernel
theorem dX9_put_1 : decode cX9_put 1 = .ok (.invokestatic 88, 3) := by decide +kernel
theorem dX9_put_4 : decode cX9_put 4 = .ok (.ifCond .ne 5, 3) := by decide +kernel
theorem dX9_put_7 : decode cX9_put 7 = .ok (.iconst (-1), 1) := by decide +kernel
theorem dX9_put_8 : decode cX9_put 8 = .ok (.ireturn, 1) := by decide +kernel
theorem dX9_put_9 : decode cX9_put 9 = .ok (.aload_n 0, 1) := by decide +kernel
theorem dX9_put_10 : decode cX9_put 10 = .ok (.getfield 67, 3) := by decide +kernel
theorem dX9_put_13 : decode cX9_put 13 = .ok (.iload_n 1, 1) := by decide +kernel
theorem dX9_put_14 : decode cX9_put 14 = .ok (.aaload, 1) := by decide +kernel
theorem dX9_put_15 : decode cX9_put 15 = .ok (.iload_n 2, 1) := by decide +kernel
theorem dX9_put_16 : decode cX9_put 16 = .ok (.invokevirtual 356, 3) := by decide +kernel
theorem dX9_put_19 : decode cX9_put 19 = .ok (.istore 5, 2) := by decide +kernel
theorem dX9_put_21 : decode cX9_put 21 = .ok (.iload 5, 2) := by decide +kernel
theorem dX9_put_23 : decode cX9_put 23 = .ok (.ifCond .eq 6, 3) := by decide +kernel
theorem dX9_put_26 : decode cX9_put 26 = .ok (.iload 5, 2) := by decide +kernel
theorem dX9_put_28 : decode cX9_put 28 = .ok (.ireturn, 1) := by decide +kernel
theorem dX9_put_29 : decode cX9_put 29 = .ok (.aload_n 0, 1) := by decide +kernel
theorem dX9_put_30 : decode cX9_put 30 = .ok (.getfield 67, 3) := by decide +kernel
theorem dX9_put_33 : decode cX9_put 33 = .ok (.iload_n 1, 1) := by decide +kernel
theorem dX9_put_34 : decode cX9_put 34 = .ok (.aaload, 1) := by decide +kernel
theorem dX9_put_35 : decode cX9_put 35 = .ok (.iload_n 2, 1) := by decide +kernel
theorem dX9_put_36 : decode cX9_put 36 = .ok (.lload_n 3, 1) := by decide +kernel
theorem dX9_put_37 : decode cX9_put 37 = .ok (.invokevirtual 359, 3) := by decide +kernel
theorem dX9_put_40 : decode cX9_put 40 = .ok (.iconst 1, 1) := by decide +kernel
theorem dX9_put_41 : decode cX9_put 41 = .ok (.ireturn, 1) := by decide +kernel
theorem dX9_element_0 : decode cX9_element 0 = .ok (.iload_n 1, 1) := by decide +kernel
theorem dX9_element_1 : decode cX9_element 1 = .ok (.invokestatic 88, 3) := by decide +kernel
theorem dX9_element_4 : decode cX9_element 4 = .ok (.ifCond .eq 16, 3) := by decide +kernel
theorem dX9_element_7 : decode cX9_element 7 = .ok (.aload_n 0, 1) := by decide +kernel
theorem dX9_element_8 : decode cX9_element 8 = .ok (.getfield 67, 3) := by decide +kernel
theorem dX9_element_11 : decode cX9_element 11 = .ok (.iload_n 1, 1) := by decide +kernel
theorem dX9_element_12 : decode cX9_element 12 = .ok (.aaload, 1) := by decide +kernel
theorem dX9_element_13 : decode cX9_element 13 = .ok (.iload_n 2, 1) := by decide +kernel
theorem dX9_element_14 : decode cX9_element 14 = .ok (.invokevirtual 356, 3) := by decide +kernel
theorem dX9_element_17 : decode cX9_element 17 = .ok (.ifCond .eq 7, 3) := by decide +kernel
theorem dX9_element_20 : decode cX9_element 20 = .ok (.ldc2_w 286, 3) := by decide +kernel
theorem dX9_element_23 : decode cX9_element 23 = .ok (.lreturn, 1) := by decide +kernel
theorem dX9_element_24 : decode cX9_element 24 = .ok (.aload_n 0, 1) := by decide +kernel
theorem dX9_element_25 : decode cX9_element 25 = .ok (.getfield 67, 3) := by decide +kernel
theorem dX9_element_28 : decode cX9_element 28 = .ok (.iload_n 1, 1) := by decide +kernel
theorem dX9_element_29 : decode cX9_element 29 = .ok (.aaload, 1) := by decide +kernel
theorem dX9_element_30 : decode cX9_element 30 = .ok (.getfield 362, 3) := by decide +kernel
theorem dX9_element_33 : decode cX9_element 33 = .ok (.iload_n 2, 1) := by decide +kernel
theorem dX9_element_34 : decode cX9_element 34 = .ok (.laload, 1) := by decide +kernel
theorem dX9_element_35 : decode cX9_element 35 = .ok (.lreturn, 1) := by decide +kernel
theorem dX9_shift_0 : decode cX9_shift 0 = .ok (.iload_n 1, 1) := by decide +kernel
theorem dX9_shift_1 : decode cX9_shift 1 = .ok (.invokestatic 88, 3) := by decide +kernel
theorem dX9_shift_4 : decode cX9_shift 4 = .ok (.ifCond .eq 10, 3) := by decide +kernel
theorem dX9_shift_7 : decode cX9_shift 7 = .ok (.iload_n 3, 1) := by decide +kernel
theorem dX9_shift_8 : decode cX9_shift 8 = .ok (.invokestatic 88, 3) := by decide +kernel
theorem dX9_shift_11 : decode cX9_shift 11 = .ok (.ifCond .ne 5, 3) := by decide +kernel
theorem dX9_shift_14 : decode cX9_shift 14 = .ok (.iconst (-1), 1) := by decide +kernel
theorem dX9_shift_15 : decode cX9_shift 15 = .ok (.ireturn, 1) := by decide +kernel
theorem dX9_shift_16 : decode cX9_shift 16 = .ok (.aload_n 0, 1) := by decide +kernel
theorem dX9_shift_17 : decode cX9_shift 17 = .ok (.getfield 67, 3) := by decide +kernel
theorem dX9_shift_20 : decode cX9_shift 20 = .ok (.iload_n 1, 1) := by decide +kernel
theorem dX9_shift_21 : decode cX9_shift 21 = .ok (.aaload, 1) := by decide +kernel
theorem dX9_shift_22 : decode cX9_shift 22 = .ok (.astore 6, 2) := by decide +kernel
theorem dX9_shift_24 : decode cX9_shift 24 = .ok (.aload_n 0, 1) := by decide +kernel
theorem dX9_shift_25 : decode cX9_shift 25 = .ok (.getfield 67, 3) := by decide +kernel
theorem dX9_shift_28 : decode cX9_shift 28 = .ok (.iload_n 3, 1) := by decide +kernel
theorem dX9_shift_29 : decode cX9_shift 29 = .ok (.aaload, 1) := by decide +kernel
theorem dX9_shift_30 : decode cX9_shift 30 = .ok (.astore 7, 2) := by decide +kernel
theorem dX9_shift_32 : decode cX9_shift 32 = .ok (.aload 6, 2) := by decide +kernel
theorem dX9_shift_34 : decode cX9_shift 34 = .ok (.invokevirtual 91, 3) := by decide +kernel
theorem dX9_shift_37 : decode cX9_shift 37 = .ok (.ifCond .ne 11, 3) := by decide +kernel
theorem dX9_shift_40 : decode cX9_shift 40 = .ok (.aload 7, 2) := by decide +kernel
theorem dX9_shift_42 : decode cX9_shift 42 = .ok (.invokevirtual 91, 3) := by decide +kernel
theorem dX9_shift_45 : decode cX9_shift 45 = .ok (.ifCond .eq 6, 3) := by decide +kernel
theorem dX9_shift_48 : decode cX9_shift 48 = .ok (.bipush (-11), 2) := by decide +kernel
theorem dX9_shift_50 : decode cX9_shift 50 = .ok (.ireturn, 1) := by decide +kernel
theorem dX9_shift_51 : decode cX9_shift 51 = .ok (.aload 6, 2) := by decide +kernel
theorem dX9_shift_53 : decode cX9_shift 53 = .ok (.invokevirtual 366, 3) := by decide +kernel
theorem dX9_shift_56 : decode cX9_shift 56 = .ok (.ifCond .eq 24, 3) := by decide +kernel
theorem dX9_shift_59 : decode cX9_shift 59 = .ok (.aload 7, 2) := by decide +kernel
theorem dX9_shift_61 : decode cX9_shift 61 = .ok (.invokevirtual 366, 3) := by decide +kernel
theorem dX9_shift_64 : decode cX9_shift 64 = .ok (.ifCond .eq 16, 3) := by decide +kernel
theorem dX9_shift_67 : decode cX9_shift 67 = .ok (.aload 6, 2) := by decide +kernel
theorem dX9_shift_69 : decode cX9_shift 69 = .ok (.getfield 369, 3) := by decide +kernel
theorem dX9_shift_72 : decode cX9_shift 72 = .ok (.aload 7, 2) := by decide +kernel
theorem dX9_shift_74 : decode cX9_shift 74 = .ok (.getfield 369, 3) := by decide +kernel
theorem dX9_shift_77 : decode cX9_shift 77 = .ok (.if_icmp .eq 6, 3) := by decide +kernel
theorem dX9_shift_80 : decode cX9_shift 80 = .ok (.bipush (-12), 2) := by decide +kernel
theorem dX9_shift_82 : decode cX9_shift 82 = .ok (.ireturn, 1) := by decide +kernel
theorem dX9_shift_83 : decode cX9_shift 83 = .ok (.aload 6, 2) := by decide +kernel
theorem dX9_shift_85 : decode cX9_shift 85 = .ok (.iload_n 2, 1) := by decide +kernel
theorem dX9_shift_86 : decode cX9_shift 86 = .ok (.iload 5, 2) := by decide +kernel
theorem dX9_shift_88 : decode cX9_shift 88 = .ok (.invokevirtual 372, 3) := by decide +kernel
theorem dX9_shift_91 : decode cX9_shift 91 = .ok (.ifCond .eq 15, 3) := by decide +kernel
theorem dX9_shift_94 : decode cX9_shift 94 = .ok (.aload 7, 2) := by decide +kernel
theorem dX9_shift_96 : decode cX9_shift 96 = .ok (.iload 4, 2) := by decide +kernel
theorem dX9_shift_98 : decode cX9_shift 98 = .ok (.iload 5, 2) := by decide +kernel
theorem dX9_shift_100 : decode cX9_shift 100 = .ok (.invokevirtual 372, 3) := by decide +kernel
theorem dX9_shift_103 : decode cX9_shift 103 = .ok (.ifCond .ne 6, 3) := by decide +kernel
theorem dX9_shift_106 : decode cX9_shift 106 = .ok (.bipush (-13), 2) := by decide +kernel
theorem dX9_shift_108 : decode cX9_shift 108 = .ok (.ireturn, 1) := by decide +kernel
theorem dX9_shift_109 : decode cX9_shift 109 = .ok (.aload 6, 2) := by decide +kernel
theorem dX9_shift_111 : decode cX9_shift 111 = .ok (.getfield 362, 3) := by decide +kernel
theorem dX9_shift_114 : decode cX9_shift 114 = .ok (.iload_n 2, 1) := by decide +kernel
theorem dX9_shift_115 : decode cX9_shift 115 = .ok (.aload 7, 2) := by decide +kernel
theorem dX9_shift_117 : decode cX9_shift 117 = .ok (.getfield 362, 3) := by decide +kernel
theorem dX9_shift_120 : decode cX9_shift 120 = .ok (.iload 4, 2) := by decide +kernel
theorem dX9_shift_122 : decode cX9_shift 122 = .ok (.iload 5, 2) := by decide +kernel
theorem dX9_shift_124 : decode cX9_shift 124 = .ok (.invokestatic 375, 3) := by decide +kernel
theorem dX9_shift_127 : decode cX9_shift 127 = .ok (.iload 5, 2) := by decide +kernel
theorem dX9_shift_129 : decode cX9_shift 129 = .ok (.ireturn, 1) := by decide +kernel
theorem dX9_taken_0 : decode cX9_taken 0 = .ok (.iload_n 1, 1) := by decide +kernel
theorem dX9_taken_1 : decode cX9_taken 1 = .ok (.invokestatic 88, 3) := by decide +kernel
theorem dX9_taken_4 : decode cX9_taken 4 = .ok (.ifCond .eq 10, 3) := by decide +kernel
theorem dX9_taken_7 : decode cX9_taken 7 = .ok (.iload_n 2, 1) := by decide +kernel
theorem dX9_taken_8 : decode cX9_taken 8 = .ok (.invokestatic 327, 3) := by decide +kernel
theorem dX9_taken_11 : decode cX9_taken 11 = .ok (.ifCond .ne 5, 3) := by decide +kernel
theorem dX9_taken_14 : decode cX9_taken 14 = .ok (.iconst (-1), 1) := by decide +kernel
theorem dX9_taken_15 : decode cX9_taken 15 = .ok (.ireturn, 1) := by decide +kernel
theorem dX9_taken_16 : decode cX9_taken 16 = .ok (.aload_n 0, 1) := by decide +kernel
theorem dX9_taken_17 : decode cX9_taken 17 = .ok (.getfield 67, 3) := by decide +kernel
theorem dX9_taken_20 : decode cX9_taken 20 = .ok (.iload_n 1, 1) := by decide +kernel
theorem dX9_taken_21 : decode cX9_taken 21 = .ok (.aaload, 1) := by decide +kernel
theorem dX9_taken_22 : decode cX9_taken 22 = .ok (.astore_n 3, 1) := by decide +kernel
theorem dX9_taken_23 : decode cX9_taken 23 = .ok (.aload_n 3, 1) := by decide +kernel
theorem dX9_taken_24 : decode cX9_taken 24 = .ok (.invokevirtual 91, 3) := by decide +kernel
theorem dX9_taken_27 : decode cX9_taken 27 = .ok (.ifCond .eq 6, 3) := by decide +kernel
theorem dX9_taken_30 : decode cX9_taken 30 = .ok (.bipush (-11), 2) := by decide +kernel
theorem dX9_taken_32 : decode cX9_taken 32 = .ok (.ireturn, 1) := by decide +kernel
theorem dX9_taken_33 : decode cX9_taken 33 = .ok (.aload_n 3, 1) := by decide +kernel
theorem dX9_taken_34 : decode cX9_taken 34 = .ok (.invokevirtual 381, 3) := by decide +kernel
theorem dX9_taken_37 : decode cX9_taken 37 = .ok (.ifCond .eq 17, 3) := by decide +kernel
theorem dX9_taken_40 : decode cX9_taken 40 = .ok (.aload_n 0, 1) := by decide +kernel
theorem dX9_taken_41 : decode cX9_taken 41 = .ok (.getfield 61, 3) := by decide +kernel
theorem dX9_taken_44 : decode cX9_taken 44 = .ok (.aload_n 3, 1) := by decide +kernel
theorem dX9_taken_45 : decode cX9_taken 45 = .ok (.getfield 384, 3) := by decide +kernel
theorem dX9_taken_48 : decode cX9_taken 48 = .ok (.invokevirtual 337, 3) := by decide +kernel
theorem dX9_taken_51 : decode cX9_taken 51 = .ok (.ifCond .ne 6, 3) := by decide +kernel
theorem dX9_taken_54 : decode cX9_taken 54 = .ok (.bipush (-12), 2) := by decide +kernel
theorem dX9_taken_56 : decode cX9_taken 56 = .ok (.ireturn, 1) := by decide +kernel
theorem dX9_taken_57 : decode cX9_taken 57 = .ok (.aload_n 0, 1) := by decide +kernel
theorem dX9_taken_58 : decode cX9_taken 58 = .ok (.getfield 61, 3) := by decide +kernel
theorem dX9_taken_61 : decode cX9_taken 61 = .ok (.getfield 387, 3) := by decide +kernel
theorem dX9_taken_64 : decode cX9_taken 64 = .ok (.aload_n 3, 1) := by decide +kernel
theorem dX9_taken_65 : decode cX9_taken 65 = .ok (.getfield 384, 3) := by decide +kernel
theorem dX9_taken_68 : decode cX9_taken 68 = .ok (.iaload, 1) := by decide +kernel
theorem dX9_taken_69 : decode cX9_taken 69 = .ok (.istore 4, 2) := by decide +kernel
theorem dX9_taken_71 : decode cX9_taken 71 = .ok (.iload 4, 2) := by decide +kernel
theorem dX9_taken_73 : decode cX9_taken 73 = .ok (.iload_n 2, 1) := by decide +kernel
theorem dX9_taken_74 : decode cX9_taken 74 = .ok (.invokestatic 390, 3) := by decide +kernel
theorem dX9_taken_77 : decode cX9_taken 77 = .ok (.ifCond .eq 8, 3) := by decide +kernel
theorem dX9_taken_80 : decode cX9_taken 80 = .ok (.iload 4, 2) := by decide +kernel
theorem dX9_taken_82 : decode cX9_taken 82 = .ok (.goto 5, 3) := by decide +kernel
theorem dX9_taken_85 : decode cX9_taken 85 = .ok (.bipush (-12), 2) := by decide +kernel
theorem dX9_taken_87 : decode cX9_taken 87 = .ok (.ireturn, 1) := by decide +kernel
theorem dX9_count_0 : decode cX9_count 0 = .ok (.iload_n 1, 1) := by decide +kernel
theorem dX9_count_1 : decode cX9_count 1 = .ok (.tableswitch 87 0 5 #[39, 47, 55, 63, 71, 79], 39) := by decide +kernel
theorem dX9_count_40 : decode cX9_count 40 = .ok (.aload_n 0, 1) := by decide +kernel
theorem dX9_count_41 : decode cX9_count 41 = .ok (.getfield 28, 3) := by decide +kernel
theorem dX9_count_44 : decode cX9_count 44 = .ok (.getfield 218, 3) := by decide +kernel
theorem dX9_count_47 : decode cX9_count 47 = .ok (.ireturn, 1) := by decide +kernel
theorem dX9_count_48 : decode cX9_count 48 = .ok (.aload_n 0, 1) := by decide +kernel
theorem dX9_count_49 : decode cX9_count 49 = .ok (.getfield 28, 3) := by decide +kernel
theorem dX9_count_52 : decode cX9_count 52 = .ok (.invokevirtual 164, 3) := by decide +kernel
theorem dX9_count_55 : decode cX9_count 55 = .ok (.ireturn, 1) := by decide +kernel
theorem dX9_count_56 : decode cX9_count 56 = .ok (.aload_n 0, 1) := by decide +kernel
theorem dX9_count_57 : decode cX9_count 57 = .ok (.getfield 19, 3) := by decide +kernel
theorem dX9_count_60 : decode cX9_count 60 = .ok (.getfield 147, 3) := by decide +kernel
theorem dX9_count_63 : decode cX9_count 63 = .ok (.ireturn, 1) := by decide +kernel
theorem dX9_count_64 : decode cX9_count 64 = .ok (.aload_n 0, 1) := by decide +kernel
theorem dX9_count_65 : decode cX9_count 65 = .ok (.getfield 54, 3) := by decide +kernel
theorem dX9_count_68 : decode cX9_count 68 = .ok (.getfield 309, 3) := by decide +kernel
theorem dX9_count_71 : decode cX9_count 71 = .ok (.ireturn, 1) := by decide +kernel
theorem dX9_count_72 : decode cX9_count 72 = .ok (.aload_n 0, 1) := by decide +kernel
theorem dX9_count_73 : decode cX9_count 73 = .ok (.getfield 61, 3) := by decide +kernel
theorem dX9_count_76 : decode cX9_count 76 = .ok (.getfield 393, 3) := by decide +kernel
theorem dX9_count_79 : decode cX9_count 79 = .ok (.ireturn, 1) := by decide +kernel
theorem dX9_count_80 : decode cX9_count 80 = .ok (.aload_n 0, 1) := by decide +kernel
theorem dX9_count_81 : decode cX9_count 81 = .ok (.getfield 61, 3) := by decide +kernel
theorem dX9_count_84 : decode cX9_count 84 = .ok (.getfield 334, 3) := by decide +kernel
theorem dX9_count_87 : decode cX9_count 87 = .ok (.ireturn, 1) := by decide +kernel
theorem dX9_count_88 : decode cX9_count 88 = .ok (.iconst (-1), 1) := by decide +kernel
theorem dX9_count_89 : decode cX9_count 89 = .ok (.ireturn, 1) := by decide +kernel
theorem dX9_isWeight_0 : decode cX9_isWeight 0 = .ok (.iload_n 0, 1) := by decide +kernel
theorem dX9_isWeight_1 : decode cX9_isWeight 1 = .ok (.iconst 1, 1) := by decide +kernel
theorem dX9_isWeight_2 : decode cX9_isWeight 2 = .ok (.if_icmp .lt 13, 3) := by decide +kernel
theorem dX9_isWeight_5 : decode cX9_isWeight 5 = .ok (.iload_n 0, 1) := by decide +kernel
theorem dX9_isWeight_6 : decode cX9_isWeight 6 = .ok (.bipush 9, 2) := by decide +kernel
theorem dX9_isWeight_8 : decode cX9_isWeight 8 = .ok (.if_icmp .gt 7, 3) := by decide +kernel
theorem dX9_isWeight_11 : decode cX9_isWeight 11 = .ok (.iconst 1, 1) := by decide +kernel
theorem dX9_isWeight_12 : decode cX9_isWeight 12 = .ok (.goto 4, 3) := by decide +kernel
theorem dX9_isWeight_15 : decode cX9_isWeight 15 = .ok (.iconst 0, 1) := by decide +kernel
theorem dX9_isWeight_16 : decode cX9_isWeight 16 = .ok (.ireturn, 1) := by decide +kernel
theorem dX9_isPace_0 : decode cX9_isPace 0 = .ok (.iload_n 0, 1) := by decide +kernel
theorem dX9_isPace_1 : decode cX9_isPace 1 = .ok (.bipush (-9), 2) := by decide +kernel
theorem dX9_isPace_3 : decode cX9_isPace 3 = .ok (.if_icmp .lt 13, 3) := by decide +kernel
theorem dX9_isPace_6 : decode cX9_isPace 6 = .ok (.iload_n 0, 1) := by decide +kernel
theorem dX9_isPace_7 : decode cX9_isPace 7 = .ok (.bipush 9, 2) := by decide +kernel
theorem dX9_isPace_9 : decode cX9_isPace 9 = .ok (.if_icmp .gt 7, 3) := by decide +kernel
theorem dX9_isPace_12 : decode cX9_isPace 12 = .ok (.iconst 1, 1) := by decide +kernel
theorem dX9_isPace_13 : decode cX9_isPace 13 = .ok (.goto 4, 3) := by decide +kernel
theorem dX9_isPace_16 : decode cX9_isPace 16 = .ok (.iconst 0, 1) := by decide +kernel
theorem dX9_isPace_17 : decode cX9_isPace 17 = .ok (.ireturn, 1) := by decide +kernel
theorem dX9_isShelf_0 : decode cX9_isShelf 0 = .ok (.iload_n 0, 1) := by decide +kernel
theorem dX9_isShelf_1 : decode cX9_isShelf 1 = .ok (.ifCond .lt 13, 3) := by decide +kernel
theorem dX9_isShelf_4 : decode cX9_isShelf 4 = .ok (.iload_n 0, 1) := by decide +kernel
theorem dX9_isShelf_5 : decode cX9_isShelf 5 = .ok (.bipush 6, 2) := by decide +kernel
theorem dX9_isShelf_7 : decode cX9_isShelf 7 = .ok (.if_icmp .ge 7, 3) := by decide +kernel
theorem dX9_isShelf_10 : decode cX9_isShelf 10 = .ok (.iconst 1, 1) := by decide +kernel
theorem dX9_isShelf_11 : decode cX9_isShelf 11 = .ok (.goto 4, 3) := by decide +kernel
theorem dX9_isShelf_14 : decode cX9_isShelf 14 = .ok (.iconst 0, 1) := by decide +kernel
theorem dX9_isShelf_15 : decode cX9_isShelf 15 = .ok (.ireturn, 1) := by decide +kernel
theorem dX9_isGirl_0 : decode cX9_isGirl 0 = .ok (.iload_n 0, 1) := by decide +kernel
theorem dX9_isGirl_1 : decode cX9_isGirl 1 = .ok (.ifCond .lt 13, 3) := by decide +kernel
theorem dX9_isGirl_4 : decode cX9_isGirl 4 = .ok (.iload_n 0, 1) := by decide +kernel
theorem dX9_isGirl_5 : decode cX9_isGirl 5 = .ok (.bipush 25, 2) := by decide +kernel
theorem dX9_isGirl_7 : decode cX9_isGirl 7 = .ok (.if_icmp .ge 7, 3) := by decide +kernel
theorem dX9_isGirl_10 : decode cX9_isGirl 10 = .ok (.iconst 1, 1) := by decide +kernel
theorem dX9_isGirl_11 : decode cX9_isGirl 11 = .ok (.goto 4, 3) := by decide +kernel
theorem dX9_isGirl_14 : decode cX9_isGirl 14 = .ok (.iconst 0, 1) := by decide +kernel
theorem dX9_isGirl_15 : decode cX9_isGirl 15 = .ok (.ireturn, 1) := by decide +kernel
theorem dX9_isSkill_0 : decode cX9_isSkill 0 = .ok (.iload_n 0, 1) := by decide +kernel
theorem dX9_isSkill_1 : decode cX9_isSkill 1 = .ok (.ifCond .lt 13, 3) := by decide +kernel
theorem dX9_isSkill_4 : decode cX9_isSkill 4 = .ok (.iload_n 0, 1) := by decide +kernel
theorem dX9_isSkill_5 : decode cX9_isSkill 5 = .ok (.bipush 12, 2) := by decide +kernel
theorem dX9_isSkill_7 : decode cX9_isSkill 7 = .ok (.if_icmp .gt 7, 3) := by decide +kernel
theorem dX9_isSkill_10 : decode cX9_isSkill 10 = .ok (.iconst 1, 1) := by decide +kernel
theorem dX9_isSkill_11 : decode cX9_isSkill 11 = .ok (.goto 4, 3) := by decide +kernel
theorem dX9_isSkill_14 : decode cX9_isSkill 14 = .ok (.iconst 0, 1) := by decide +kernel
theorem dX9_isSkill_15 : decode cX9_isSkill 15 = .ok (.ireturn, 1) := by decide +kernel
theorem dX9_isMinutes_0 : decode cX9_isMinutes 0 = .ok (.iload_n 0, 1) := by decide +kernel
theorem dX9_isMinutes_1 : decode cX9_isMinutes 1 = .ok (.iconst 1, 1) := by decide +kernel
theorem dX9_isMinutes_2 : decode cX9_isMinutes 2 = .ok (.if_icmp .lt 13, 3) := by decide +kernel
theorem dX9_isMinutes_5 : decode cX9_isMinutes 5 = .ok (.iload_n 0, 1) := by decide +kernel
theorem dX9_isMinutes_6 : decode cX9_isMinutes 6 = .ok (.bipush 30, 2) := by decide +kernel
theorem dX9_isMinutes_8 : decode cX9_isMinutes 8 = .ok (.if_icmp .gt 7, 3) := by decide +kernel
theorem dX9_isMinutes_11 : decode cX9_isMinutes 11 = .ok (.iconst 1, 1) := by decide +kernel
theorem dX9_isMinutes_12 : decode cX9_isMinutes 12 = .ok (.goto 4, 3) := by decide +kernel
theorem dX9_isMinutes_15 : decode cX9_isMinutes 15 = .ok (.iconst 0, 1) := by decide +kernel
theorem dX9_isMinutes_16 : decode cX9_isMinutes 16 = .ok (.ireturn, 1) := by decide +kernel
theorem dX9_isKind_0 : decode cX9_isKind 0 = .ok (.iload_n 0, 1) := by decide +kernel
theorem dX9_isKind_1 : decode cX9_isKind 1 = .ok (.ifCond .lt 13, 3) := by decide +kernel
theorem dX9_isKind_4 : decode cX9_isKind 4 = .ok (.iload_n 0, 1) := by decide +kernel
theorem dX9_isKind_5 : decode cX9_isKind 5 = .ok (.bipush 8, 2) := by decide +kernel
theorem dX9_isKind_7 : decode cX9_isKind 7 = .ok (.if_icmp .ge 7, 3) := by decide +kernel
theorem dX9_isKind_10 : decode cX9_isKind 10 = .ok (.iconst 1, 1) := by decide +kernel
theorem dX9_isKind_11 : decode cX9_isKind 11 = .ok (.goto 4, 3) := by decide +kernel
theorem dX9_isKind_14 : decode cX9_isKind 14 = .ok (.iconst 0, 1) := by decide +kernel
theorem dX9_isKind_15 : decode cX9_isKind 15 = .ok (.ireturn, 1) := by decide +kernel
theorem dX9_rest_0 : decode cX9_rest 0 = .ok (.iload_n 1, 1) := by decide +kernel
theorem dX9_rest_1 : decode cX9_rest 1 = .ok (.ifCond .ne 7, 3) := by decide +kernel
theorem dX9_rest_4 : decode cX9_rest 4 = .ok (.iconst 0, 1) := by decide +kernel
theorem dX9_rest_5 : decode cX9_rest 5 = .ok (.goto 6, 3) := by decide +kernel
theorem dX9_rest_8 : decode cX9_rest 8 = .ok (.iload_n 0, 1) := by decide +kernel
theorem dX9_rest_9 : decode cX9_rest 9 = .ok (.iload_n 1, 1) := by decide +kernel
theorem dX9_rest_10 : decode cX9_rest 10 = .ok (.irem, 1) := by decide +kernel
theorem dX9_rest_11 : decode cX9_rest 11 = .ok (.ireturn, 1) := by decide +kernel
theorem dX9_goalOf_0 : decode cX9_goalOf 0 = .ok (.iload_n 0, 1) := by decide +kernel
theorem dX9_goalOf_1 : decode cX9_goalOf 1 = .ok (.iconst 2, 1) := by decide +kernel
theorem dX9_goalOf_2 : decode cX9_goalOf 2 = .ok (.irem, 1) := by decide +kernel
theorem dX9_goalOf_3 : decode cX9_goalOf 3 = .ok (.ifCond .ne 7, 3) := by decide +kernel
theorem dX9_goalOf_6 : decode cX9_goalOf 6 = .ok (.iconst 0, 1) := by decide +kernel
theorem dX9_goalOf_7 : decode cX9_goalOf 7 = .ok (.goto 5, 3) := by decide +kernel
theorem dX9_goalOf_10 : decode cX9_goalOf 10 = .ok (.bipush 12, 2) := by decide +kernel
theorem dX9_goalOf_12 : decode cX9_goalOf 12 = .ok (.ireturn, 1) := by decide +kernel
theorem dX9_within_0 : decode cX9_within 0 = .ok (.iload_n 1, 1) := by decide +kernel
theorem dX9_within_1 : decode cX9_within 1 = .ok (.iload_n 2, 1) := by decide +kernel
theorem dX9_within_2 : decode cX9_within 2 = .ok (.iload_n 0, 1) := by decide +kernel
theorem dX9_within_3 : decode cX9_within 3 = .ok (.invokestatic 232, 3) := by decide +kernel
theorem dX9_within_6 : decode cX9_within 6 = .ok (.invokestatic 291, 3) := by decide +kernel
theorem dX9_within_9 : decode cX9_within 9 = .ok (.ireturn, 1) := by decide +kernel
theorem dX9_greatestDivisor_0 : decode cX9_greatestDivisor 0 = .ok (.iconst 1, 1) := by decide +kernel
theorem dX9_greatestDivisor_1 : decode cX9_greatestDivisor 1 = .ok (.istore_n 2, 1) := by decide +kernel
theorem dX9_greatestDivisor_2 : decode cX9_greatestDivisor 2 = .ok (.iconst 2, 1) := by decide +kernel
theorem dX9_greatestDivisor_3 : decode cX9_greatestDivisor 3 = .ok (.istore_n 3, 1) := by decide +kernel
theorem dX9_greatestDivisor_4 : decode cX9_greatestDivisor 4 = .ok (.iload_n 3, 1) := by decide +kernel
theorem dX9_greatestDivisor_5 : decode cX9_greatestDivisor 5 = .ok (.iload_n 1, 1) := by decide +kernel
theorem dX9_greatestDivisor_6 : decode cX9_greatestDivisor 6 = .ok (.if_icmp .gt 27, 3) := by decide +kernel
theorem dX9_greatestDivisor_9 : decode cX9_greatestDivisor 9 = .ok (.iload_n 0, 1) := by decide +kernel
theorem dX9_greatestDivisor_10 : decode cX9_greatestDivisor 10 = .ok (.iload_n 3, 1) := by decide +kernel
theorem dX9_greatestDivisor_11 : decode cX9_greatestDivisor 11 = .ok (.invokestatic 396, 3) := by decide +kernel
theorem dX9_greatestDivisor_14 : decode cX9_greatestDivisor 14 = .ok (.ifCond .ne 13, 3) := by decide +kernel
theorem dX9_greatestDivisor_17 : decode cX9_greatestDivisor 17 = .ok (.iload_n 1, 1) := by decide +kernel
theorem dX9_greatestDivisor_18 : decode cX9_greatestDivisor 18 = .ok (.iload_n 3, 1) := by decide +kernel
theorem dX9_greatestDivisor_19 : decode cX9_greatestDivisor 19 = .ok (.invokestatic 396, 3) := by decide +kernel
theorem dX9_greatestDivisor_22 : decode cX9_greatestDivisor 22 = .ok (.ifCond .ne 5, 3) := by decide +kernel
theorem dX9_greatestDivisor_25 : decode cX9_greatestDivisor 25 = .ok (.iload_n 3, 1) := by decide +kernel
theorem dX9_greatestDivisor_26 : decode cX9_greatestDivisor 26 = .ok (.istore_n 2, 1) := by decide +kernel
theorem dX9_greatestDivisor_27 : decode cX9_greatestDivisor 27 = .ok (.iinc 3 1, 3) := by decide +kernel
theorem dX9_greatestDivisor_30 : decode cX9_greatestDivisor 30 = .ok (.goto (-26), 3) := by decide +kernel
theorem dX9_greatestDivisor_33 : decode cX9_greatestDivisor 33 = .ok (.iload_n 2, 1) := by decide +kernel
theorem dX9_greatestDivisor_34 : decode cX9_greatestDivisor 34 = .ok (.ireturn, 1) := by decide +kernel
theorem dX9_hoopCame_0 : decode cX9_hoopCame 0 = .ok (.iload_n 2, 1) := by decide +kernel
theorem dX9_hoopCame_1 : decode cX9_hoopCame 1 = .ok (.ifCond .lt 29, 3) := by decide +kernel
theorem dX9_hoopCame_4 : decode cX9_hoopCame 4 = .ok (.iload_n 2, 1) := by decide +kernel
theorem dX9_hoopCame_5 : decode cX9_hoopCame 5 = .ok (.aload_n 1, 1) := by decide +kernel
theorem dX9_hoopCame_6 : decode cX9_hoopCame 6 = .ok (.getfield 399, 3) := by decide +kernel
theorem dX9_hoopCame_9 : decode cX9_hoopCame 9 = .ok (.iconst 3, 1) := by decide +kernel
theorem dX9_hoopCame_10 : decode cX9_hoopCame 10 = .ok (.isub, 1) := by decide +kernel
theorem dX9_hoopCame_11 : decode cX9_hoopCame 11 = .ok (.if_icmp .gt 19, 3) := by decide +kernel
theorem dX9_hoopCame_14 : decode cX9_hoopCame 14 = .ok (.iload_n 2, 1) := by decide +kernel
theorem dX9_hoopCame_15 : decode cX9_hoopCame 15 = .ok (.bipush 57, 2) := by decide +kernel
theorem dX9_hoopCame_17 : decode cX9_hoopCame 17 = .ok (.if_icmp .gt 13, 3) := by decide +kernel
theorem dX9_hoopCame_20 : decode cX9_hoopCame 20 = .ok (.aload_n 0, 1) := by decide +kernel
theorem dX9_hoopCame_21 : decode cX9_hoopCame 21 = .ok (.getfield 28, 3) := by decide +kernel
theorem dX9_hoopCame_24 : decode cX9_hoopCame 24 = .ok (.invokevirtual 80, 3) := by decide +kernel
theorem dX9_hoopCame_27 : decode cX9_hoopCame 27 = .ok (.ifCond .eq 5, 3) := by decide +kernel
theorem dX9_hoopCame_30 : decode cX9_hoopCame 30 = .ok (.iconst 0, 1) := by decide +kernel
theorem dX9_hoopCame_31 : decode cX9_hoopCame 31 = .ok (.ireturn, 1) := by decide +kernel
theorem dX9_hoopCame_32 : decode cX9_hoopCame 32 = .ok (.aload_n 1, 1) := by decide +kernel
theorem dX9_hoopCame_33 : decode cX9_hoopCame 33 = .ok (.getfield 362, 3) := by decide +kernel
theorem dX9_hoopCame_36 : decode cX9_hoopCame 36 = .ok (.iload_n 2, 1) := by decide +kernel
theorem dX9_hoopCame_37 : decode cX9_hoopCame 37 = .ok (.laload, 1) := by decide +kernel
theorem dX9_hoopCame_38 : decode cX9_hoopCame 38 = .ok (.l2i, 1) := by decide +kernel
theorem dX9_hoopCame_39 : decode cX9_hoopCame 39 = .ok (.istore_n 3, 1) := by decide +kernel
theorem dX9_hoopCame_40 : decode cX9_hoopCame 40 = .ok (.aload_n 1, 1) := by decide +kernel
theorem dX9_hoopCame_41 : decode cX9_hoopCame 41 = .ok (.getfield 362, 3) := by decide +kernel
theorem dX9_hoopCame_44 : decode cX9_hoopCame 44 = .ok (.iload_n 2, 1) := by decide +kernel
theorem dX9_hoopCame_45 : decode cX9_hoopCame 45 = .ok (.iconst 1, 1) := by decide +kernel
theorem dX9_hoopCame_46 : decode cX9_hoopCame 46 = .ok (.iadd, 1) := by decide +kernel
theorem dX9_hoopCame_47 : decode cX9_hoopCame 47 = .ok (.laload, 1) := by decide +kernel
theorem dX9_hoopCame_48 : decode cX9_hoopCame 48 = .ok (.l2i, 1) := by decide +kernel
theorem dX9_hoopCame_49 : decode cX9_hoopCame 49 = .ok (.istore 4, 2) := by decide +kernel
theorem dX9_hoopCame_51 : decode cX9_hoopCame 51 = .ok (.aload_n 1, 1) := by decide +kernel
theorem dX9_hoopCame_52 : decode cX9_hoopCame 52 = .ok (.getfield 362, 3) := by decide +kernel
theorem dX9_hoopCame_55 : decode cX9_hoopCame 55 = .ok (.iload_n 2, 1) := by decide +kernel
theorem dX9_hoopCame_56 : decode cX9_hoopCame 56 = .ok (.iconst 2, 1) := by decide +kernel
theorem dX9_hoopCame_57 : decode cX9_hoopCame 57 = .ok (.iadd, 1) := by decide +kernel
theorem dX9_hoopCame_58 : decode cX9_hoopCame 58 = .ok (.laload, 1) := by decide +kernel
theorem dX9_hoopCame_59 : decode cX9_hoopCame 59 = .ok (.l2i, 1) := by decide +kernel
theorem dX9_hoopCame_60 : decode cX9_hoopCame 60 = .ok (.istore 5, 2) := by decide +kernel
theorem dX9_hoopCame_62 : decode cX9_hoopCame 62 = .ok (.iload_n 3, 1) := by decide +kernel
theorem dX9_hoopCame_63 : decode cX9_hoopCame 63 = .ok (.invokestatic 76, 3) := by decide +kernel
theorem dX9_hoopCame_66 : decode cX9_hoopCame 66 = .ok (.ifCond .eq 19, 3) := by decide +kernel
theorem dX9_hoopCame_69 : decode cX9_hoopCame 69 = .ok (.iload 4, 2) := by decide +kernel
theorem dX9_hoopCame_71 : decode cX9_hoopCame 71 = .ok (.invokestatic 76, 3) := by decide +kernel
theorem dX9_hoopCame_74 : decode cX9_hoopCame 74 = .ok (.ifCond .eq 11, 3) := by decide +kernel
theorem dX9_hoopCame_77 : decode cX9_hoopCame 77 = .ok (.iload 5, 2) := by decide +kernel
theorem dX9_hoopCame_79 : decode cX9_hoopCame 79 = .ok (.invokestatic 400, 3) := by decide +kernel
theorem dX9_hoopCame_82 : decode cX9_hoopCame 82 = .ok (.ifCond .ne 5, 3) := by decide +kernel
theorem dX9_hoopCame_85 : decode cX9_hoopCame 85 = .ok (.iconst 0, 1) := by decide +kernel
theorem dX9_hoopCame_86 : decode cX9_hoopCame 86 = .ok (.ireturn, 1) := by decide +kernel
theorem dX9_hoopCame_87 : decode cX9_hoopCame 87 = .ok (.aload_n 0, 1) := by decide +kernel
theorem dX9_hoopCame_88 : decode cX9_hoopCame 88 = .ok (.getfield 28, 3) := by decide +kernel
theorem dX9_hoopCame_91 : decode cX9_hoopCame 91 = .ok (.iload_n 3, 1) := by decide +kernel
theorem dX9_hoopCame_92 : decode cX9_hoopCame 92 = .ok (.iload 4, 2) := by decide +kernel
theorem dX9_hoopCame_94 : decode cX9_hoopCame 94 = .ok (.iload 5, 2) := by decide +kernel
theorem dX9_hoopCame_96 : decode cX9_hoopCame 96 = .ok (.invokevirtual 84, 3) := by decide +kernel
theorem dX9_hoopCame_99 : decode cX9_hoopCame 99 = .ok (.pop, 1) := by decide +kernel
theorem dX9_hoopCame_100 : decode cX9_hoopCame 100 = .ok (.iconst 1, 1) := by decide +kernel
theorem dX9_hoopCame_101 : decode cX9_hoopCame 101 = .ok (.ireturn, 1) := by decide +kernel
theorem dX9_canBecome_0 : decode cX9_canBecome 0 = .ok (.iload_n 2, 1) := by decide +kernel
theorem dX9_canBecome_1 : decode cX9_canBecome 1 = .ok (.ifCond .lt 42, 3) := by decide +kernel
theorem dX9_canBecome_4 : decode cX9_canBecome 4 = .ok (.iload_n 2, 1) := by decide +kernel
theorem dX9_canBecome_5 : decode cX9_canBecome 5 = .ok (.iconst 2, 1) := by decide +kernel
theorem dX9_canBecome_6 : decode cX9_canBecome 6 = .ok (.if_icmp .gt 37, 3) := by decide +kernel
theorem dX9_canBecome_9 : decode cX9_canBecome 9 = .ok (.aload_n 0, 1) := by decide +kernel
theorem dX9_canBecome_10 : decode cX9_canBecome 10 = .ok (.getfield 28, 3) := by decide +kernel
theorem dX9_canBecome_13 : decode cX9_canBecome 13 = .ok (.iload_n 1, 1) := by decide +kernel
theorem dX9_canBecome_14 : decode cX9_canBecome 14 = .ok (.invokevirtual 118, 3) := by decide +kernel
theorem dX9_canBecome_17 : decode cX9_canBecome 17 = .ok (.ifCond .eq 24, 3) := by decide +kernel
theorem dX9_canBecome_20 : decode cX9_canBecome 20 = .ok (.aload_n 0, 1) := by decide +kernel
theorem dX9_canBecome_21 : decode cX9_canBecome 21 = .ok (.getfield 28, 3) := by decide +kernel
theorem dX9_canBecome_24 : decode cX9_canBecome 24 = .ok (.getfield 121, 3) := by decide +kernel
theorem dX9_canBecome_27 : decode cX9_canBecome 27 = .ok (.iload_n 1, 1) := by decide +kernel
theorem dX9_canBecome_28 : decode cX9_canBecome 28 = .ok (.aaload, 1) := by decide +kernel
theorem dX9_canBecome_29 : decode cX9_canBecome 29 = .ok (.iload_n 2, 1) := by decide +kernel
theorem dX9_canBecome_30 : decode cX9_canBecome 30 = .ok (.iload_n 3, 1) := by decide +kernel
theorem dX9_canBecome_31 : decode cX9_canBecome 31 = .ok (.invokestatic 403, 3) := by decide +kernel
theorem dX9_canBecome_34 : decode cX9_canBecome 34 = .ok (.ifCond .eq 7, 3) := by decide +kernel
theorem dX9_canBecome_37 : decode cX9_canBecome 37 = .ok (.iconst 1, 1) := by decide +kernel
theorem dX9_canBecome_38 : decode cX9_canBecome 38 = .ok (.goto 4, 3) := by decide +kernel
theorem dX9_canBecome_41 : decode cX9_canBecome 41 = .ok (.iconst 0, 1) := by decide +kernel
theorem dX9_canBecome_42 : decode cX9_canBecome 42 = .ok (.ireturn, 1) := by decide +kernel
theorem dX9_canBecome_43 : decode cX9_canBecome 43 = .ok (.iload_n 1, 1) := by decide +kernel
theorem dX9_canBecome_44 : decode cX9_canBecome 44 = .ok (.ifCond .ne 16, 3) := by decide +kernel
theorem dX9_canBecome_47 : decode cX9_canBecome 47 = .ok (.aload_n 0, 1) := by decide +kernel
theorem dX9_canBecome_48 : decode cX9_canBecome 48 = .ok (.iload_n 2, 1) := by decide +kernel
theorem dX9_canBecome_49 : decode cX9_canBecome 49 = .ok (.iload_n 3, 1) := by decide +kernel
theorem dX9_canBecome_50 : decode cX9_canBecome 50 = .ok (.invokevirtual 407, 3) := by decide +kernel
theorem dX9_canBecome_53 : decode cX9_canBecome 53 = .ok (.ifCond .eq 7, 3) := by decide +kernel
theorem dX9_canBecome_56 : decode cX9_canBecome 56 = .ok (.iconst 1, 1) := by decide +kernel
theorem dX9_canBecome_57 : decode cX9_canBecome 57 = .ok (.goto 4, 3) := by decide +kernel
theorem dX9_canBecome_60 : decode cX9_canBecome 60 = .ok (.iconst 0, 1) := by decide +kernel
theorem dX9_canBecome_61 : decode cX9_canBecome 61 = .ok (.ireturn, 1) := by decide +kernel
theorem dX9_hoopCanBecome_0 : decode cX9_hoopCanBecome 0 = .ok (.iload_n 1, 1) := by decide +kernel
theorem dX9_hoopCanBecome_1 : decode cX9_hoopCanBecome 1 = .ok (.iconst 2, 1) := by decide +kernel
theorem dX9_hoopCanBecome_2 : decode cX9_hoopCanBecome 2 = .ok (.if_icmp .eq 8, 3) := by decide +kernel
theorem dX9_hoopCanBecome_5 : decode cX9_hoopCanBecome 5 = .ok (.iload_n 2, 1) := by decide +kernel
theorem dX9_hoopCanBecome_6 : decode cX9_hoopCanBecome 6 = .ok (.invokestatic 76, 3) := by decide +kernel
theorem dX9_hoopCanBecome_9 : decode cX9_hoopCanBecome 9 = .ok (.ireturn, 1) := by decide +kernel
theorem dX9_hoopCanBecome_10 : decode cX9_hoopCanBecome 10 = .ok (.aload_n 0, 1) := by decide +kernel
theorem dX9_hoopCanBecome_11 : decode cX9_hoopCanBecome 11 = .ok (.invokevirtual 167, 3) := by decide +kernel
theorem dX9_hoopCanBecome_14 : decode cX9_hoopCanBecome 14 = .ok (.ifCond .eq 15, 3) := by decide +kernel
theorem dX9_hoopCanBecome_17 : decode cX9_hoopCanBecome 17 = .ok (.iload_n 2, 1) := by decide +kernel
theorem dX9_hoopCanBecome_18 : decode cX9_hoopCanBecome 18 = .ok (.ifCond .ne 7, 3) := by decide +kernel
theorem dX9_hoopCanBecome_21 : decode cX9_hoopCanBecome 21 = .ok (.iconst 1, 1) := by decide +kernel
theorem dX9_hoopCanBecome_22 : decode cX9_hoopCanBecome 22 = .ok (.goto 11, 3) := by decide +kernel
theorem dX9_hoopCanBecome_25 : decode cX9_hoopCanBecome 25 = .ok (.iconst 0, 1) := by decide +kernel
theorem dX9_hoopCanBecome_26 : decode cX9_hoopCanBecome 26 = .ok (.goto 7, 3) := by decide +kernel
theorem dX9_hoopCanBecome_29 : decode cX9_hoopCanBecome 29 = .ok (.iload_n 2, 1) := by decide +kernel
theorem dX9_hoopCanBecome_30 : decode cX9_hoopCanBecome 30 = .ok (.invokestatic 400, 3) := by decide +kernel
theorem dX9_hoopCanBecome_33 : decode cX9_hoopCanBecome 33 = .ok (.ireturn, 1) := by decide +kernel
theorem dX9_settingCanBecome_0 : decode cX9_settingCanBecome 0 = .ok (.iload_n 1, 1) := by decide +kernel
theorem dX9_settingCanBecome_1 : decode cX9_settingCanBecome 1 = .ok (.tableswitch 108 3 7 #[35, 50, 67, 88, 103], 35) := by decide +kernel
theorem dX9_settingCanBecome_36 : decode cX9_settingCanBecome 36 = .ok (.iload_n 2, 1) := by decide +kernel
theorem dX9_settingCanBecome_37 : decode cX9_settingCanBecome 37 = .ok (.ifCond .lt 12, 3) := by decide +kernel
theorem dX9_settingCanBecome_40 : decode cX9_settingCanBecome 40 = .ok (.iload_n 2, 1) := by decide +kernel
theorem dX9_settingCanBecome_41 : decode cX9_settingCanBecome 41 = .ok (.iconst 3, 1) := by decide +kernel
theorem dX9_settingCanBecome_42 : decode cX9_settingCanBecome 42 = .ok (.if_icmp .gt 7, 3) := by decide +kernel
theorem dX9_settingCanBecome_45 : decode cX9_settingCanBecome 45 = .ok (.iconst 1, 1) := by decide +kernel
theorem dX9_settingCanBecome_46 : decode cX9_settingCanBecome 46 = .ok (.goto 4, 3) := by decide +kernel
theorem dX9_settingCanBecome_49 : decode cX9_settingCanBecome 49 = .ok (.iconst 0, 1) := by decide +kernel
theorem dX9_settingCanBecome_50 : decode cX9_settingCanBecome 50 = .ok (.ireturn, 1) := by decide +kernel
theorem dX9_settingCanBecome_51 : decode cX9_settingCanBecome 51 = .ok (.iload_n 2, 1) := by decide +kernel
theorem dX9_settingCanBecome_52 : decode cX9_settingCanBecome 52 = .ok (.iconst 2, 1) := by decide +kernel
theorem dX9_settingCanBecome_53 : decode cX9_settingCanBecome 53 = .ok (.if_icmp .lt 13, 3) := by decide +kernel
theorem dX9_settingCanBecome_56 : decode cX9_settingCanBecome 56 = .ok (.iload_n 2, 1) := by decide +kernel
theorem dX9_settingCanBecome_57 : decode cX9_settingCanBecome 57 = .ok (.bipush 24, 2) := by decide +kernel
theorem dX9_settingCanBecome_59 : decode cX9_settingCanBecome 59 = .ok (.if_icmp .gt 7, 3) := by decide +kernel
theorem dX9_settingCanBecome_62 : decode cX9_settingCanBecome 62 = .ok (.iconst 1, 1) := by decide +kernel
theorem dX9_settingCanBecome_63 : decode cX9_settingCanBecome 63 = .ok (.goto 4, 3) := by decide +kernel
theorem dX9_settingCanBecome_66 : decode cX9_settingCanBecome 66 = .ok (.iconst 0, 1) := by decide +kernel
theorem dX9_settingCanBecome_67 : decode cX9_settingCanBecome 67 = .ok (.ireturn, 1) := by decide +kernel
theorem dX9_settingCanBecome_68 : decode cX9_settingCanBecome 68 = .ok (.iload_n 2, 1) := by decide +kernel
theorem dX9_settingCanBecome_69 : decode cX9_settingCanBecome 69 = .ok (.ifCond .lt 18, 3) := by decide +kernel
theorem dX9_settingCanBecome_72 : decode cX9_settingCanBecome 72 = .ok (.iload_n 2, 1) := by decide +kernel
theorem dX9_settingCanBecome_73 : decode cX9_settingCanBecome 73 = .ok (.aload_n 0, 1) := by decide +kernel
theorem dX9_settingCanBecome_74 : decode cX9_settingCanBecome 74 = .ok (.getfield 28, 3) := by decide +kernel
theorem dX9_settingCanBecome_77 : decode cX9_settingCanBecome 77 = .ok (.getfield 202, 3) := by decide +kernel
theorem dX9_settingCanBecome_80 : decode cX9_settingCanBecome 80 = .ok (.if_icmp .ge 7, 3) := by decide +kernel
theorem dX9_settingCanBecome_83 : decode cX9_settingCanBecome 83 = .ok (.iconst 1, 1) := by decide +kernel
theorem dX9_settingCanBecome_84 : decode cX9_settingCanBecome 84 = .ok (.goto 4, 3) := by decide +kernel
theorem dX9_settingCanBecome_87 : decode cX9_settingCanBecome 87 = .ok (.iconst 0, 1) := by decide +kernel
theorem dX9_settingCanBecome_88 : decode cX9_settingCanBecome 88 = .ok (.ireturn, 1) := by decide +kernel
theorem dX9_settingCanBecome_89 : decode cX9_settingCanBecome 89 = .ok (.iload_n 2, 1) := by decide +kernel
theorem dX9_settingCanBecome_90 : decode cX9_settingCanBecome 90 = .ok (.ifCond .lt 12, 3) := by decide +kernel
theorem dX9_settingCanBecome_93 : decode cX9_settingCanBecome 93 = .ok (.iload_n 2, 1) := by decide +kernel
theorem dX9_settingCanBecome_94 : decode cX9_settingCanBecome 94 = .ok (.iconst 5, 1) := by decide +kernel
theorem dX9_settingCanBecome_95 : decode cX9_settingCanBecome 95 = .ok (.if_icmp .gt 7, 3) := by decide +kernel
theorem dX9_settingCanBecome_98 : decode cX9_settingCanBecome 98 = .ok (.iconst 1, 1) := by decide +kernel
theorem dX9_settingCanBecome_99 : decode cX9_settingCanBecome 99 = .ok (.goto 4, 3) := by decide +kernel
theorem dX9_settingCanBecome_102 : decode cX9_settingCanBecome 102 = .ok (.iconst 0, 1) := by decide +kernel
theorem dX9_settingCanBecome_103 : decode cX9_settingCanBecome 103 = .ok (.ireturn, 1) := by decide +kernel
theorem dX9_settingCanBecome_104 : decode cX9_settingCanBecome 104 = .ok (.iload_n 2, 1) := by decide +kernel
theorem dX9_settingCanBecome_105 : decode cX9_settingCanBecome 105 = .ok (.invokestatic 255, 3) := by decide +kernel
theorem dX9_settingCanBecome_108 : decode cX9_settingCanBecome 108 = .ok (.ireturn, 1) := by decide +kernel
theorem dX9_settingCanBecome_109 : decode cX9_settingCanBecome 109 = .ok (.iconst 0, 1) := by decide +kernel
theorem dX9_settingCanBecome_110 : decode cX9_settingCanBecome 110 = .ok (.ireturn, 1) := by decide +kernel
theorem dX9_valueOf_0 : decode cX9_valueOf 0 = .ok (.iload_n 2, 1) := by decide +kernel
theorem dX9_valueOf_1 : decode cX9_valueOf 1 = .ok (.iconst 2, 1) := by decide +kernel
theorem dX9_valueOf_2 : decode cX9_valueOf 2 = .ok (.if_icmp .gt 33, 3) := by decide +kernel
theorem dX9_valueOf_5 : decode cX9_valueOf 5 = .ok (.aload_n 0, 1) := by decide +kernel
theorem dX9_valueOf_6 : decode cX9_valueOf 6 = .ok (.getfield 28, 3) := by decide +kernel
theorem dX9_valueOf_9 : decode cX9_valueOf 9 = .ok (.iload_n 1, 1) := by decide +kernel
theorem dX9_valueOf_10 : decode cX9_valueOf 10 = .ok (.invokevirtual 118, 3) := by decide +kernel
theorem dX9_valueOf_13 : decode cX9_valueOf 13 = .ok (.ifCond .eq 19, 3) := by decide +kernel
theorem dX9_valueOf_16 : decode cX9_valueOf 16 = .ok (.aload_n 0, 1) := by decide +kernel
theorem dX9_valueOf_17 : decode cX9_valueOf 17 = .ok (.getfield 28, 3) := by decide +kernel
theorem dX9_valueOf_20 : decode cX9_valueOf 20 = .ok (.getfield 121, 3) := by decide +kernel
theorem dX9_valueOf_23 : decode cX9_valueOf 23 = .ok (.iload_n 1, 1) := by decide +kernel
theorem dX9_valueOf_24 : decode cX9_valueOf 24 = .ok (.aaload, 1) := by decide +kernel
theorem dX9_valueOf_25 : decode cX9_valueOf 25 = .ok (.iload_n 2, 1) := by decide +kernel
theorem dX9_valueOf_26 : decode cX9_valueOf 26 = .ok (.invokevirtual 125, 3) := by decide +kernel
theorem dX9_valueOf_29 : decode cX9_valueOf 29 = .ok (.goto 5, 3) := by decide +kernel
theorem dX9_valueOf_32 : decode cX9_valueOf 32 = .ok (.ldc 105, 2) := by decide +kernel
theorem dX9_valueOf_34 : decode cX9_valueOf 34 = .ok (.ireturn, 1) := by decide +kernel
theorem dX9_valueOf_35 : decode cX9_valueOf 35 = .ok (.aload_n 0, 1) := by decide +kernel
theorem dX9_valueOf_36 : decode cX9_valueOf 36 = .ok (.iload_n 2, 1) := by decide +kernel
theorem dX9_valueOf_37 : decode cX9_valueOf 37 = .ok (.bipush 7, 2) := by decide +kernel
theorem dX9_valueOf_39 : decode cX9_valueOf 39 = .ok (.iadd, 1) := by decide +kernel
theorem dX9_valueOf_40 : decode cX9_valueOf 40 = .ok (.invokevirtual 131, 3) := by decide +kernel
theorem dX9_valueOf_43 : decode cX9_valueOf 43 = .ok (.ireturn, 1) := by decide +kernel
theorem dX9_settingOf_0 : decode cX9_settingOf 0 = .ok (.iload_n 1, 1) := by decide +kernel
theorem dX9_settingOf_1 : decode cX9_settingOf 1 = .ok (.tableswitch 87 10 15 #[39, 47, 55, 63, 71, 79], 39) := by decide +kernel
theorem dX9_settingOf_40 : decode cX9_settingOf 40 = .ok (.aload_n 0, 1) := by decide +kernel
theorem dX9_settingOf_41 : decode cX9_settingOf 41 = .ok (.getfield 28, 3) := by decide +kernel
theorem dX9_settingOf_44 : decode cX9_settingOf 44 = .ok (.getfield 410, 3) := by decide +kernel
theorem dX9_settingOf_47 : decode cX9_settingOf 47 = .ok (.ireturn, 1) := by decide +kernel
theorem dX9_settingOf_48 : decode cX9_settingOf 48 = .ok (.aload_n 0, 1) := by decide +kernel
theorem dX9_settingOf_49 : decode cX9_settingOf 49 = .ok (.getfield 28, 3) := by decide +kernel
theorem dX9_settingOf_52 : decode cX9_settingOf 52 = .ok (.getfield 202, 3) := by decide +kernel
theorem dX9_settingOf_55 : decode cX9_settingOf 55 = .ok (.ireturn, 1) := by decide +kernel
theorem dX9_settingOf_56 : decode cX9_settingOf 56 = .ok (.aload_n 0, 1) := by decide +kernel
theorem dX9_settingOf_57 : decode cX9_settingOf 57 = .ok (.getfield 28, 3) := by decide +kernel
theorem dX9_settingOf_60 : decode cX9_settingOf 60 = .ok (.getfield 205, 3) := by decide +kernel
theorem dX9_settingOf_63 : decode cX9_settingOf 63 = .ok (.ireturn, 1) := by decide +kernel
theorem dX9_settingOf_64 : decode cX9_settingOf 64 = .ok (.aload_n 0, 1) := by decide +kernel
theorem dX9_settingOf_65 : decode cX9_settingOf 65 = .ok (.getfield 28, 3) := by decide +kernel
theorem dX9_settingOf_68 : decode cX9_settingOf 68 = .ok (.getfield 208, 3) := by decide +kernel
theorem dX9_settingOf_71 : decode cX9_settingOf 71 = .ok (.ireturn, 1) := by decide +kernel
theorem dX9_settingOf_72 : decode cX9_settingOf 72 = .ok (.aload_n 0, 1) := by decide +kernel
theorem dX9_settingOf_73 : decode cX9_settingOf 73 = .ok (.getfield 47, 3) := by decide +kernel
theorem dX9_settingOf_76 : decode cX9_settingOf 76 = .ok (.getfield 413, 3) := by decide +kernel
theorem dX9_settingOf_79 : decode cX9_settingOf 79 = .ok (.ireturn, 1) := by decide +kernel
theorem dX9_settingOf_80 : decode cX9_settingOf 80 = .ok (.aload_n 0, 1) := by decide +kernel
theorem dX9_settingOf_81 : decode cX9_settingOf 81 = .ok (.getfield 28, 3) := by decide +kernel
theorem dX9_settingOf_84 : decode cX9_settingOf 84 = .ok (.getfield 303, 3) := by decide +kernel
theorem dX9_settingOf_87 : decode cX9_settingOf 87 = .ok (.ireturn, 1) := by decide +kernel
theorem dX9_settingOf_88 : decode cX9_settingOf 88 = .ok (.ldc 105, 2) := by decide +kernel
theorem dX9_settingOf_90 : decode cX9_settingOf 90 = .ok (.ireturn, 1) := by decide +kernel
theorem dX9_lay_0 : decode cX9_lay 0 = .ok (.iload_n 2, 1) := by decide +kernel
theorem dX9_lay_1 : decode cX9_lay 1 = .ok (.tableswitch 90 3 7 #[35, 46, 57, 68, 79], 35) := by decide +kernel
theorem dX9_lay_36 : decode cX9_lay 36 = .ok (.aload_n 0, 1) := by decide +kernel
theorem dX9_lay_37 : decode cX9_lay 37 = .ok (.getfield 28, 3) := by decide +kernel
theorem dX9_lay_40 : decode cX9_lay 40 = .ok (.iload_n 3, 1) := by decide +kernel
theorem dX9_lay_41 : decode cX9_lay 41 = .ok (.putfield 410, 3) := by decide +kernel
theorem dX9_lay_44 : decode cX9_lay 44 = .ok (.goto 72, 3) := by decide +kernel
theorem dX9_lay_47 : decode cX9_lay 47 = .ok (.aload_n 0, 1) := by decide +kernel
theorem dX9_lay_48 : decode cX9_lay 48 = .ok (.getfield 28, 3) := by decide +kernel
theorem dX9_lay_51 : decode cX9_lay 51 = .ok (.iload_n 3, 1) := by decide +kernel
theorem dX9_lay_52 : decode cX9_lay 52 = .ok (.putfield 202, 3) := by decide +kernel
theorem dX9_lay_55 : decode cX9_lay 55 = .ok (.goto 61, 3) := by decide +kernel
theorem dX9_lay_58 : decode cX9_lay 58 = .ok (.aload_n 0, 1) := by decide +kernel
theorem dX9_lay_59 : decode cX9_lay 59 = .ok (.getfield 28, 3) := by decide +kernel
theorem dX9_lay_62 : decode cX9_lay 62 = .ok (.iload_n 3, 1) := by decide +kernel
theorem dX9_lay_63 : decode cX9_lay 63 = .ok (.putfield 205, 3) := by decide +kernel
theorem dX9_lay_66 : decode cX9_lay 66 = .ok (.goto 50, 3) := by decide +kernel
theorem dX9_lay_69 : decode cX9_lay 69 = .ok (.aload_n 0, 1) := by decide +kernel
theorem dX9_lay_70 : decode cX9_lay 70 = .ok (.getfield 28, 3) := by decide +kernel
theorem dX9_lay_73 : decode cX9_lay 73 = .ok (.iload_n 3, 1) := by decide +kernel
theorem dX9_lay_74 : decode cX9_lay 74 = .ok (.putfield 208, 3) := by decide +kernel
theorem dX9_lay_77 : decode cX9_lay 77 = .ok (.goto 39, 3) := by decide +kernel
theorem dX9_lay_80 : decode cX9_lay 80 = .ok (.aload_n 0, 1) := by decide +kernel
theorem dX9_lay_81 : decode cX9_lay 81 = .ok (.getfield 47, 3) := by decide +kernel
theorem dX9_lay_84 : decode cX9_lay 84 = .ok (.iload_n 3, 1) := by decide +kernel
theorem dX9_lay_85 : decode cX9_lay 85 = .ok (.putfield 413, 3) := by decide +kernel
theorem dX9_lay_88 : decode cX9_lay 88 = .ok (.goto 28, 3) := by decide +kernel
theorem dX9_lay_91 : decode cX9_lay 91 = .ok (.aload_n 0, 1) := by decide +kernel
theorem dX9_lay_92 : decode cX9_lay 92 = .ok (.getfield 28, 3) := by decide +kernel
theorem dX9_lay_95 : decode cX9_lay 95 = .ok (.iload_n 1, 1) := by decide +kernel
theorem dX9_lay_96 : decode cX9_lay 96 = .ok (.invokevirtual 118, 3) := by decide +kernel
theorem dX9_lay_99 : decode cX9_lay 99 = .ok (.ifCond .eq 17, 3) := by decide +kernel
theorem dX9_lay_102 : decode cX9_lay 102 = .ok (.aload_n 0, 1) := by decide +kernel
theorem dX9_lay_103 : decode cX9_lay 103 = .ok (.getfield 28, 3) := by decide +kernel
theorem dX9_lay_106 : decode cX9_lay 106 = .ok (.getfield 121, 3) := by decide +kernel
theorem dX9_lay_109 : decode cX9_lay 109 = .ok (.iload_n 1, 1) := by decide +kernel
theorem dX9_lay_110 : decode cX9_lay 110 = .ok (.aaload, 1) := by decide +kernel
theorem dX9_lay_111 : decode cX9_lay 111 = .ok (.iload_n 2, 1) := by decide +kernel
theorem dX9_lay_112 : decode cX9_lay 112 = .ok (.iload_n 3, 1) := by decide +kernel
theorem dX9_lay_113 : decode cX9_lay 113 = .ok (.invokevirtual 416, 3) := by decide +kernel
theorem dX9_lay_116 : decode cX9_lay 116 = .ok (.return_, 1) := by decide +kernel
theorem dJ6_bitCount_0f7a4_0 : decode cJ6_bitCount_0f7a4 0 = .ok (.iload_n 0, 1) := by decide +kernel
theorem dJ6_bitCount_0f7a4_1 : decode cJ6_bitCount_0f7a4 1 = .ok (.iload_n 0, 1) := by decide +kernel
theorem dJ6_bitCount_0f7a4_2 : decode cJ6_bitCount_0f7a4 2 = .ok (.iconst 1, 1) := by decide +kernel
theorem dJ6_bitCount_0f7a4_3 : decode cJ6_bitCount_0f7a4 3 = .ok (.iushr, 1) := by decide +kernel
theorem dJ6_bitCount_0f7a4_4 : decode cJ6_bitCount_0f7a4 4 = .ok (.ldc_w 265, 3) := by decide +kernel
theorem dJ6_bitCount_0f7a4_7 : decode cJ6_bitCount_0f7a4 7 = .ok (.iand, 1) := by decide +kernel
theorem dJ6_bitCount_0f7a4_8 : decode cJ6_bitCount_0f7a4 8 = .ok (.isub, 1) := by decide +kernel
theorem dJ6_bitCount_0f7a4_9 : decode cJ6_bitCount_0f7a4 9 = .ok (.istore_n 0, 1) := by decide +kernel
theorem dJ6_bitCount_0f7a4_10 : decode cJ6_bitCount_0f7a4 10 = .ok (.iload_n 0, 1) := by decide +kernel
theorem dJ6_bitCount_0f7a4_11 : decode cJ6_bitCount_0f7a4 11 = .ok (.ldc_w 266, 3) := by decide +kernel
theorem dJ6_bitCount_0f7a4_14 : decode cJ6_bitCount_0f7a4 14 = .ok (.iand, 1) := by decide +kernel
theorem dJ6_bitCount_0f7a4_15 : decode cJ6_bitCount_0f7a4 15 = .ok (.iload_n 0, 1) := by decide +kernel
theorem dJ6_bitCount_0f7a4_16 : decode cJ6_bitCount_0f7a4 16 = .ok (.iconst 2, 1) := by decide +kernel
theorem dJ6_bitCount_0f7a4_17 : decode cJ6_bitCount_0f7a4 17 = .ok (.iushr, 1) := by decide +kernel
theorem dJ6_bitCount_0f7a4_18 : decode cJ6_bitCount_0f7a4 18 = .ok (.ldc_w 266, 3) := by decide +kernel
theorem dJ6_bitCount_0f7a4_21 : decode cJ6_bitCount_0f7a4 21 = .ok (.iand, 1) := by decide +kernel
theorem dJ6_bitCount_0f7a4_22 : decode cJ6_bitCount_0f7a4 22 = .ok (.iadd, 1) := by decide +kernel
theorem dJ6_bitCount_0f7a4_23 : decode cJ6_bitCount_0f7a4 23 = .ok (.istore_n 0, 1) := by decide +kernel
theorem dJ6_bitCount_0f7a4_24 : decode cJ6_bitCount_0f7a4 24 = .ok (.iload_n 0, 1) := by decide +kernel
theorem dJ6_bitCount_0f7a4_25 : decode cJ6_bitCount_0f7a4 25 = .ok (.iload_n 0, 1) := by decide +kernel
theorem dJ6_bitCount_0f7a4_26 : decode cJ6_bitCount_0f7a4 26 = .ok (.iconst 4, 1) := by decide +kernel
theorem dJ6_bitCount_0f7a4_27 : decode cJ6_bitCount_0f7a4 27 = .ok (.iushr, 1) := by decide +kernel
theorem dJ6_bitCount_0f7a4_28 : decode cJ6_bitCount_0f7a4 28 = .ok (.iadd, 1) := by decide +kernel
theorem dJ6_bitCount_0f7a4_29 : decode cJ6_bitCount_0f7a4 29 = .ok (.ldc_w 267, 3) := by decide +kernel
theorem dJ6_bitCount_0f7a4_32 : decode cJ6_bitCount_0f7a4 32 = .ok (.iand, 1) := by decide +kernel
theorem dJ6_bitCount_0f7a4_33 : decode cJ6_bitCount_0f7a4 33 = .ok (.istore_n 0, 1) := by decide +kernel
theorem dJ6_bitCount_0f7a4_34 : decode cJ6_bitCount_0f7a4 34 = .ok (.iload_n 0, 1) := by decide +kernel
theorem dJ6_bitCount_0f7a4_35 : decode cJ6_bitCount_0f7a4 35 = .ok (.iload_n 0, 1) := by decide +kernel
theorem dJ6_bitCount_0f7a4_36 : decode cJ6_bitCount_0f7a4 36 = .ok (.bipush 8, 2) := by decide +kernel
theorem dJ6_bitCount_0f7a4_38 : decode cJ6_bitCount_0f7a4 38 = .ok (.iushr, 1) := by decide +kernel
theorem dJ6_bitCount_0f7a4_39 : decode cJ6_bitCount_0f7a4 39 = .ok (.iadd, 1) := by decide +kernel
theorem dJ6_bitCount_0f7a4_40 : decode cJ6_bitCount_0f7a4 40 = .ok (.istore_n 0, 1) := by decide +kernel
theorem dJ6_bitCount_0f7a4_41 : decode cJ6_bitCount_0f7a4 41 = .ok (.iload_n 0, 1) := by decide +kernel
theorem dJ6_bitCount_0f7a4_42 : decode cJ6_bitCount_0f7a4 42 = .ok (.iload_n 0, 1) := by decide +kernel
theorem dJ6_bitCount_0f7a4_43 : decode cJ6_bitCount_0f7a4 43 = .ok (.bipush 16, 2) := by decide +kernel
theorem dJ6_bitCount_0f7a4_45 : decode cJ6_bitCount_0f7a4 45 = .ok (.iushr, 1) := by decide +kernel
theorem dJ6_bitCount_0f7a4_46 : decode cJ6_bitCount_0f7a4 46 = .ok (.iadd, 1) := by decide +kernel
theorem dJ6_bitCount_0f7a4_47 : decode cJ6_bitCount_0f7a4 47 = .ok (.istore_n 0, 1) := by decide +kernel
theorem dJ6_bitCount_0f7a4_48 : decode cJ6_bitCount_0f7a4 48 = .ok (.iload_n 0, 1) := by decide +kernel
theorem dJ6_bitCount_0f7a4_49 : decode cJ6_bitCount_0f7a4 49 = .ok (.bipush 63, 2) := by decide +kernel
theorem dJ6_bitCount_0f7a4_51 : decode cJ6_bitCount_0f7a4 51 = .ok (.iand, 1) := by decide +kernel
theorem dJ6_bitCount_0f7a4_52 : decode cJ6_bitCount_0f7a4 52 = .ok (.ireturn, 1) := by decide +kernel
theorem dJ9_floorMod_7cf53_0 : decode cJ9_floorMod_7cf53 0 = .ok (.iload_n 0, 1) := by decide +kernel
theorem dJ9_floorMod_7cf53_1 : decode cJ9_floorMod_7cf53 1 = .ok (.iload_n 1, 1) := by decide +kernel
theorem dJ9_floorMod_7cf53_2 : decode cJ9_floorMod_7cf53 2 = .ok (.irem, 1) := by decide +kernel
theorem dJ9_floorMod_7cf53_3 : decode cJ9_floorMod_7cf53 3 = .ok (.istore_n 2, 1) := by decide +kernel
theorem dJ9_floorMod_7cf53_4 : decode cJ9_floorMod_7cf53 4 = .ok (.iload_n 0, 1) := by decide +kernel
theorem dJ9_floorMod_7cf53_5 : decode cJ9_floorMod_7cf53 5 = .ok (.iload_n 1, 1) := by decide +kernel
theorem dJ9_floorMod_7cf53_6 : decode cJ9_floorMod_7cf53 6 = .ok (.ixor, 1) := by decide +kernel
theorem dJ9_floorMod_7cf53_7 : decode cJ9_floorMod_7cf53 7 = .ok (.ifCond .ge 11, 3) := by decide +kernel
theorem dJ9_floorMod_7cf53_10 : decode cJ9_floorMod_7cf53 10 = .ok (.iload_n 2, 1) := by decide +kernel
theorem dJ9_floorMod_7cf53_11 : decode cJ9_floorMod_7cf53 11 = .ok (.ifCond .eq 7, 3) := by decide +kernel
theorem dJ9_floorMod_7cf53_14 : decode cJ9_floorMod_7cf53 14 = .ok (.iload_n 2, 1) := by decide +kernel
theorem dJ9_floorMod_7cf53_15 : decode cJ9_floorMod_7cf53 15 = .ok (.iload_n 1, 1) := by decide +kernel
theorem dJ9_floorMod_7cf53_16 : decode cJ9_floorMod_7cf53 16 = .ok (.iadd, 1) := by decide +kernel
theorem dJ9_floorMod_7cf53_17 : decode cJ9_floorMod_7cf53 17 = .ok (.ireturn, 1) := by decide +kernel
theorem dJ9_floorMod_7cf53_18 : decode cJ9_floorMod_7cf53 18 = .ok (.iload_n 2, 1) := by decide +kernel
theorem dJ9_floorMod_7cf53_19 : decode cJ9_floorMod_7cf53 19 = .ok (.ireturn, 1) := by decide +kernel
theorem dJ9_abs_0f7a4_0 : decode cJ9_abs_0f7a4 0 = .ok (.iload_n 0, 1) := by decide +kernel
theorem dJ9_abs_0f7a4_1 : decode cJ9_abs_0f7a4 1 = .ok (.ifCond .ge 8, 3) := by decide +kernel
theorem dJ9_abs_0f7a4_4 : decode cJ9_abs_0f7a4 4 = .ok (.iload_n 0, 1) := by decide +kernel
theorem dJ9_abs_0f7a4_5 : decode cJ9_abs_0f7a4 5 = .ok (.ineg, 1) := by decide +kernel
theorem dJ9_abs_0f7a4_6 : decode cJ9_abs_0f7a4 6 = .ok (.goto 4, 3) := by decide +kernel
theorem dJ9_abs_0f7a4_9 : decode cJ9_abs_0f7a4 9 = .ok (.iload_n 0, 1) := by decide +kernel
theorem dJ9_abs_0f7a4_10 : decode cJ9_abs_0f7a4 10 = .ok (.ireturn, 1) := by decide +kernel
theorem dJ9_max_7cf53_0 : decode cJ9_max_7cf53 0 = .ok (.iload_n 0, 1) := by decide +kernel
theorem dJ9_max_7cf53_1 : decode cJ9_max_7cf53 1 = .ok (.iload_n 1, 1) := by decide +kernel
theorem dJ9_max_7cf53_2 : decode cJ9_max_7cf53 2 = .ok (.if_icmp .lt 7, 3) := by decide +kernel
theorem dJ9_max_7cf53_5 : decode cJ9_max_7cf53 5 = .ok (.iload_n 0, 1) := by decide +kernel
theorem dJ9_max_7cf53_6 : decode cJ9_max_7cf53 6 = .ok (.goto 4, 3) := by decide +kernel
theorem dJ9_max_7cf53_9 : decode cJ9_max_7cf53 9 = .ok (.iload_n 1, 1) := by decide +kernel
theorem dJ9_max_7cf53_10 : decode cJ9_max_7cf53 10 = .ok (.ireturn, 1) := by decide +kernel
theorem dJ9_min_7cf53_0 : decode cJ9_min_7cf53 0 = .ok (.iload_n 0, 1) := by decide +kernel
theorem dJ9_min_7cf53_1 : decode cJ9_min_7cf53 1 = .ok (.iload_n 1, 1) := by decide +kernel
theorem dJ9_min_7cf53_2 : decode cJ9_min_7cf53 2 = .ok (.if_icmp .gt 7, 3) := by decide +kernel
theorem dJ9_min_7cf53_5 : decode cJ9_min_7cf53 5 = .ok (.iload_n 0, 1) := by decide +kernel
theorem dJ9_min_7cf53_6 : decode cJ9_min_7cf53 6 = .ok (.goto 4, 3) := by decide +kernel
theorem dJ9_min_7cf53_9 : decode cJ9_min_7cf53 9 = .ok (.iload_n 1, 1) := by decide +kernel
theorem dJ9_min_7cf53_10 : decode cJ9_min_7cf53 10 = .ok (.ireturn, 1) := by decide +kernel
end
section
theorem dX10_within_0 : decode cX10_within 0 = .ok (.lload_n 0, 1) := by decide +kernel
theorem dX10_within_1 : decode cX10_within 1 = .ok (.lload_n 2, 1) := by decide +kernel
theorem dX10_within_2 : decode cX10_within 2 = .ok (.lcmp, 1) := by decide +kernel
theorem dX10_within_3 : decode cX10_within 3 = .ok (.ifCond .lt 14, 3) := by decide +kernel
theorem dX10_within_6 : decode cX10_within 6 = .ok (.lload_n 0, 1) := by decide +kernel
theorem dX10_within_7 : decode cX10_within 7 = .ok (.lload 4, 2) := by decide +kernel
theorem dX10_within_9 : decode cX10_within 9 = .ok (.lcmp, 1) := by decide +kernel
theorem dX10_within_10 : decode cX10_within 10 = .ok (.ifCond .gt 7, 3) := by decide +kernel
theorem dX10_within_13 : decode cX10_within 13 = .ok (.iconst 1, 1) := by decide +kernel
theorem dX10_within_14 : decode cX10_within 14 = .ok (.goto 4, 3) := by decide +kernel
theorem dX10_within_17 : decode cX10_within 17 = .ok (.iconst 0, 1) := by decide +kernel
theorem dX10_within_18 : decode cX10_within 18 = .ok (.ireturn, 1) := by decide +kernel
theorem dX10_sizeOf_0 : decode cX10_sizeOf 0 = .ok (.iload_n 0, 1) := by decide +kernel
theorem dX10_sizeOf_1 : decode cX10_sizeOf 1 = .ok (.ifCond .ge 8, 3) := by decide +kernel
theorem dX10_sizeOf_4 : decode cX10_sizeOf 4 = .ok (.iload_n 0, 1) := by decide +kernel
theorem dX10_sizeOf_5 : decode cX10_sizeOf 5 = .ok (.ineg, 1) := by decide +kernel
theorem dX10_sizeOf_6 : decode cX10_sizeOf 6 = .ok (.goto 4, 3) := by decide +kernel
theorem dX10_sizeOf_9 : decode cX10_sizeOf 9 = .ok (.iload_n 0, 1) := by decide +kernel
theorem dX10_sizeOf_10 : decode cX10_sizeOf 10 = .ok (.ireturn, 1) := by decide +kernel
theorem dX10_isIn_0 : decode cX10_isIn 0 = .ok (.iload_n 0, 1) := by decide +kernel
theorem dX10_isIn_1 : decode cX10_isIn 1 = .ok (.iload_n 1, 1) := by decide +kernel
theorem dX10_isIn_2 : decode cX10_isIn 2 = .ok (.ishr, 1) := by decide +kernel
theorem dX10_isIn_3 : decode cX10_isIn 3 = .ok (.iconst 1, 1) := by decide +kernel
theorem dX10_isIn_4 : decode cX10_isIn 4 = .ok (.iand, 1) := by decide +kernel
theorem dX10_isIn_5 : decode cX10_isIn 5 = .ok (.iconst 1, 1) := by decide +kernel
theorem dX10_isIn_6 : decode cX10_isIn 6 = .ok (.if_icmp .ne 7, 3) := by decide +kernel
theorem dX10_isIn_9 : decode cX10_isIn 9 = .ok (.iconst 1, 1) := by decide +kernel
theorem dX10_isIn_10 : decode cX10_isIn 10 = .ok (.goto 4, 3) := by decide +kernel
theorem dX10_isIn_13 : decode cX10_isIn 13 = .ok (.iconst 0, 1) := by decide +kernel
theorem dX10_isIn_14 : decode cX10_isIn 14 = .ok (.ireturn, 1) := by decide +kernel
theorem dX10_bitsOf_0 : decode cX10_bitsOf 0 = .ok (.iconst 0, 1) := by decide +kernel
theorem dX10_bitsOf_1 : decode cX10_bitsOf 1 = .ok (.istore_n 1, 1) := by decide +kernel
theorem dX10_bitsOf_2 : decode cX10_bitsOf 2 = .ok (.iload_n 0, 1) := by decide +kernel
theorem dX10_bitsOf_3 : decode cX10_bitsOf 3 = .ok (.istore_n 2, 1) := by decide +kernel
theorem dX10_bitsOf_4 : decode cX10_bitsOf 4 = .ok (.iload_n 2, 1) := by decide +kernel
theorem dX10_bitsOf_5 : decode cX10_bitsOf 5 = .ok (.ifCond .eq 15, 3) := by decide +kernel
theorem dX10_bitsOf_8 : decode cX10_bitsOf 8 = .ok (.iinc 1 1, 3) := by decide +kernel
theorem dX10_bitsOf_11 : decode cX10_bitsOf 11 = .ok (.iload_n 2, 1) := by decide +kernel
theorem dX10_bitsOf_12 : decode cX10_bitsOf 12 = .ok (.iload_n 2, 1) := by decide +kernel
theorem dX10_bitsOf_13 : decode cX10_bitsOf 13 = .ok (.iconst 1, 1) := by decide +kernel
theorem dX10_bitsOf_14 : decode cX10_bitsOf 14 = .ok (.isub, 1) := by decide +kernel
theorem dX10_bitsOf_15 : decode cX10_bitsOf 15 = .ok (.iand, 1) := by decide +kernel
theorem dX10_bitsOf_16 : decode cX10_bitsOf 16 = .ok (.istore_n 2, 1) := by decide +kernel
theorem dX10_bitsOf_17 : decode cX10_bitsOf 17 = .ok (.goto (-13), 3) := by decide +kernel
theorem dX10_bitsOf_20 : decode cX10_bitsOf 20 = .ok (.iload_n 1, 1) := by decide +kernel
theorem dX10_bitsOf_21 : decode cX10_bitsOf 21 = .ok (.ireturn, 1) := by decide +kernel
theorem dX10_init_0 : decode cX10_init 0 = .ok (.aload_n 0, 1) := by decide +kernel
theorem dX10_init_1 : decode cX10_init 1 = .ok (.invokespecial 3, 3) := by decide +kernel
theorem dX10_init_4 : decode cX10_init 4 = .ok (.aload_n 0, 1) := by decide +kernel
theorem dX10_init_5 : decode cX10_init 5 = .ok (.bipush 20, 2) := by decide +kernel
theorem dX10_init_7 : decode cX10_init 7 = .ok (.newarray .int, 2) := by decide +kernel
theorem dX10_init_9 : decode cX10_init 9 = .ok (.putfield 9, 3) := by decide +kernel
theorem dX10_init_12 : decode cX10_init 12 = .ok (.aload_n 0, 1) := by decide +kernel
theorem dX10_init_13 : decode cX10_init 13 = .ok (.bipush 40, 2) := by decide +kernel
theorem dX10_init_15 : decode cX10_init 15 = .ok (.newarray .int, 2) := by decide +kernel
theorem dX10_init_17 : decode cX10_init 17 = .ok (.putfield 13, 3) := by decide +kernel
theorem dX10_init_20 : decode cX10_init 20 = .ok (.aload_n 0, 1) := by decide +kernel
theorem dX10_init_21 : decode cX10_init 21 = .ok (.bipush 40, 2) := by decide +kernel
theorem dX10_init_23 : decode cX10_init 23 = .ok (.newarray .int, 2) := by decide +kernel
theorem dX10_init_25 : decode cX10_init 25 = .ok (.putfield 16, 3) := by decide +kernel
theorem dX10_init_28 : decode cX10_init 28 = .ok (.aload_n 0, 1) := by decide +kernel
theorem dX10_init_29 : decode cX10_init 29 = .ok (.bipush 40, 2) := by decide +kernel
theorem dX10_init_31 : decode cX10_init 31 = .ok (.newarray .int, 2) := by decide +kernel
theorem dX10_init_33 : decode cX10_init 33 = .ok (.putfield 19, 3) := by decide +kernel
theorem dX10_init_36 : decode cX10_init 36 = .ok (.aload_n 0, 1) := by decide +kernel
theorem dX10_init_37 : decode cX10_init 37 = .ok (.iconst 5, 1) := by decide +kernel
theorem dX10_init_38 : decode cX10_init 38 = .ok (.newarray .int, 2) := by decide +kernel
theorem dX10_init_40 : decode cX10_init 40 = .ok (.putfield 22, 3) := by decide +kernel
theorem dX10_init_43 : decode cX10_init 43 = .ok (.aload_n 0, 1) := by decide +kernel
theorem dX10_init_44 : decode cX10_init 44 = .ok (.iconst 5, 1) := by decide +kernel
theorem dX10_init_45 : decode cX10_init 45 = .ok (.newarray .int, 2) := by decide +kernel
theorem dX10_init_47 : decode cX10_init 47 = .ok (.putfield 25, 3) := by decide +kernel
theorem dX10_init_50 : decode cX10_init 50 = .ok (.aload_n 0, 1) := by decide +kernel
theorem dX10_init_51 : decode cX10_init 51 = .ok (.bipush 120, 2) := by decide +kernel
theorem dX10_init_53 : decode cX10_init 53 = .ok (.newarray .int, 2) := by decide +kernel
theorem dX10_init_55 : decode cX10_init 55 = .ok (.putfield 28, 3) := by decide +kernel
theorem dX10_init_58 : decode cX10_init 58 = .ok (.aload_n 0, 1) := by decide +kernel
theorem dX10_init_59 : decode cX10_init 59 = .ok (.bipush 120, 2) := by decide +kernel
theorem dX10_init_61 : decode cX10_init 61 = .ok (.newarray .int, 2) := by decide +kernel
theorem dX10_init_63 : decode cX10_init 63 = .ok (.putfield 31, 3) := by decide +kernel
theorem dX10_init_66 : decode cX10_init 66 = .ok (.aload_n 0, 1) := by decide +kernel
theorem dX10_init_67 : decode cX10_init 67 = .ok (.bipush 6, 2) := by decide +kernel
theorem dX10_init_69 : decode cX10_init 69 = .ok (.newarray .int, 2) := by decide +kernel
theorem dX10_init_71 : decode cX10_init 71 = .ok (.putfield 34, 3) := by decide +kernel
theorem dX10_init_74 : decode cX10_init 74 = .ok (.aload_n 0, 1) := by decide +kernel
theorem dX10_init_75 : decode cX10_init 75 = .ok (.iconst 5, 1) := by decide +kernel
theorem dX10_init_76 : decode cX10_init 76 = .ok (.newarray .int, 2) := by decide +kernel
theorem dX10_init_78 : decode cX10_init 78 = .ok (.putfield 37, 3) := by decide +kernel
theorem dX10_init_81 : decode cX10_init 81 = .ok (.aload_n 0, 1) := by decide +kernel
theorem dX10_init_82 : decode cX10_init 82 = .ok (.iconst 5, 1) := by decide +kernel
theorem dX10_init_83 : decode cX10_init 83 = .ok (.newarray .int, 2) := by decide +kernel
theorem dX10_init_85 : decode cX10_init 85 = .ok (.putfield 40, 3) := by decide +kernel
theorem dX10_init_88 : decode cX10_init 88 = .ok (.aload_n 0, 1) := by decide +kernel
theorem dX10_init_89 : decode cX10_init 89 = .ok (.iconst 5, 1) := by decide +kernel
theorem dX10_init_90 : decode cX10_init 90 = .ok (.newarray .int, 2) := by decide +kernel
theorem dX10_init_92 : decode cX10_init 92 = .ok (.putfield 43, 3) := by decide +kernel
theorem dX10_init_95 : decode cX10_init 95 = .ok (.aload_n 0, 1) := by decide +kernel
theorem dX10_init_96 : decode cX10_init 96 = .ok (.bipush (-2), 2) := by decide +kernel
theorem dX10_init_98 : decode cX10_init 98 = .ok (.putfield 46, 3) := by decide +kernel
theorem dX10_init_101 : decode cX10_init 101 = .ok (.aload_n 0, 1) := by decide +kernel
theorem dX10_init_102 : decode cX10_init 102 = .ok (.bipush 25, 2) := by decide +kernel
theorem dX10_init_104 : decode cX10_init 104 = .ok (.newarray .int, 2) := by decide +kernel
theorem dX10_init_106 : decode cX10_init 106 = .ok (.putfield 50, 3) := by decide +kernel
theorem dX10_init_109 : decode cX10_init 109 = .ok (.aload_n 0, 1) := by decide +kernel
theorem dX10_init_110 : decode cX10_init 110 = .ok (.bipush 25, 2) := by decide +kernel
theorem dX10_init_112 : decode cX10_init 112 = .ok (.newarray .int, 2) := by decide +kernel
theorem dX10_init_114 : decode cX10_init 114 = .ok (.putfield 53, 3) := by decide +kernel
theorem dX10_init_117 : decode cX10_init 117 = .ok (.aload_n 0, 1) := by decide +kernel
theorem dX10_init_118 : decode cX10_init 118 = .ok (.bipush 25, 2) := by decide +kernel
theorem dX10_init_120 : decode cX10_init 120 = .ok (.newarray .boolean, 2) := by decide +kernel
theorem dX10_init_122 : decode cX10_init 122 = .ok (.putfield 56, 3) := by decide +kernel
theorem dX10_init_125 : decode cX10_init 125 = .ok (.aload_n 0, 1) := by decide +kernel
theorem dX10_init_126 : decode cX10_init 126 = .ok (.bipush 25, 2) := by decide +kernel
theorem dX10_init_128 : decode cX10_init 128 = .ok (.newarray .int, 2) := by decide +kernel
theorem dX10_init_130 : decode cX10_init 130 = .ok (.putfield 60, 3) := by decide +kernel
theorem dX10_init_133 : decode cX10_init 133 = .ok (.aload_n 0, 1) := by decide +kernel
theorem dX10_init_134 : decode cX10_init 134 = .ok (.bipush 25, 2) := by decide +kernel
theorem dX10_init_136 : decode cX10_init 136 = .ok (.newarray .int, 2) := by decide +kernel
theorem dX10_init_138 : decode cX10_init 138 = .ok (.putfield 63, 3) := by decide +kernel
theorem dX10_init_141 : decode cX10_init 141 = .ok (.aload_n 0, 1) := by decide +kernel
theorem dX10_init_142 : decode cX10_init 142 = .ok (.bipush 18, 2) := by decide +kernel
theorem dX10_init_144 : decode cX10_init 144 = .ok (.newarray .int, 2) := by decide +kernel
theorem dX10_init_146 : decode cX10_init 146 = .ok (.putfield 66, 3) := by decide +kernel
theorem dX10_init_149 : decode cX10_init 149 = .ok (.aload_n 0, 1) := by decide +kernel
theorem dX10_init_150 : decode cX10_init 150 = .ok (.bipush 50, 2) := by decide +kernel
theorem dX10_init_152 : decode cX10_init 152 = .ok (.newarray .int, 2) := by decide +kernel
theorem dX10_init_154 : decode cX10_init 154 = .ok (.putfield 69, 3) := by decide +kernel
theorem dX10_init_157 : decode cX10_init 157 = .ok (.aload_n 0, 1) := by decide +kernel
theorem dX10_init_158 : decode cX10_init 158 = .ok (.bipush 24, 2) := by decide +kernel
theorem dX10_init_160 : decode cX10_init 160 = .ok (.newarray .int, 2) := by decide +kernel
theorem dX10_init_162 : decode cX10_init 162 = .ok (.putfield 72, 3) := by decide +kernel
theorem dX10_init_165 : decode cX10_init 165 = .ok (.aload_n 0, 1) := by decide +kernel
theorem dX10_init_166 : decode cX10_init 166 = .ok (.bipush 6, 2) := by decide +kernel
theorem dX10_init_168 : decode cX10_init 168 = .ok (.newarray .int, 2) := by decide +kernel
theorem dX10_init_170 : decode cX10_init 170 = .ok (.putfield 75, 3) := by decide +kernel
theorem dX10_init_173 : decode cX10_init 173 = .ok (.aload_n 0, 1) := by decide +kernel
theorem dX10_init_174 : decode cX10_init 174 = .ok (.bipush 6, 2) := by decide +kernel
theorem dX10_init_176 : decode cX10_init 176 = .ok (.newarray .int, 2) := by decide +kernel
theorem dX10_init_178 : decode cX10_init 178 = .ok (.putfield 78, 3) := by decide +kernel
theorem dX10_init_181 : decode cX10_init 181 = .ok (.aload_n 0, 1) := by decide +kernel
theorem dX10_init_182 : decode cX10_init 182 = .ok (.sipush 360, 3) := by decide +kernel
theorem dX10_init_185 : decode cX10_init 185 = .ok (.newarray .long, 2) := by decide +kernel
theorem dX10_init_187 : decode cX10_init 187 = .ok (.putfield 81, 3) := by decide +kernel
theorem dX10_init_190 : decode cX10_init 190 = .ok (.aload_n 0, 1) := by decide +kernel
theorem dX10_init_191 : decode cX10_init 191 = .ok (.bipush 60, 2) := by decide +kernel
theorem dX10_init_193 : decode cX10_init 193 = .ok (.newarray .long, 2) := by decide +kernel
theorem dX10_init_195 : decode cX10_init 195 = .ok (.putfield 85, 3) := by decide +kernel
theorem dX10_init_198 : decode cX10_init 198 = .ok (.iconst 0, 1) := by decide +kernel
theorem dX10_init_199 : decode cX10_init 199 = .ok (.istore_n 1, 1) := by decide +kernel
theorem dX10_init_200 : decode cX10_init 200 = .ok (.iload_n 1, 1) := by decide +kernel
theorem dX10_init_201 : decode cX10_init 201 = .ok (.bipush 6, 2) := by decide +kernel
theorem dX10_init_203 : decode cX10_init 203 = .ok (.if_icmp .ge 16, 3) := by decide +kernel
theorem dX10_init_206 : decode cX10_init 206 = .ok (.aload_n 0, 1) := by decide +kernel
theorem dX10_init_207 : decode cX10_init 207 = .ok (.getfield 75, 3) := by decide +kernel
theorem dX10_init_210 : decode cX10_init 210 = .ok (.iload_n 1, 1) := by decide +kernel
theorem dX10_init_211 : decode cX10_init 211 = .ok (.iconst (-1), 1) := by decide +kernel
theorem dX10_init_212 : decode cX10_init 212 = .ok (.iastore, 1) := by decide +kernel
theorem dX10_init_213 : decode cX10_init 213 = .ok (.iinc 1 1, 3) := by decide +kernel
theorem dX10_init_216 : decode cX10_init 216 = .ok (.goto (-16), 3) := by decide +kernel
theorem dX10_init_219 : decode cX10_init 219 = .ok (.aload_n 0, 1) := by decide +kernel
theorem dX10_init_220 : decode cX10_init 220 = .ok (.iconst (-1), 1) := by decide +kernel
theorem dX10_init_221 : decode cX10_init 221 = .ok (.putfield 88, 3) := by decide +kernel
theorem dX10_init_224 : decode cX10_init 224 = .ok (.aload_n 0, 1) := by decide +kernel
theorem dX10_init_225 : decode cX10_init 225 = .ok (.getfield 9, 3) := by decide +kernel
theorem dX10_init_228 : decode cX10_init 228 = .ok (.bipush 15, 2) := by decide +kernel
theorem dX10_init_230 : decode cX10_init 230 = .ok (.iconst 1, 1) := by decide +kernel
theorem dX10_init_231 : decode cX10_init 231 = .ok (.iastore, 1) := by decide +kernel
theorem dX10_init_232 : decode cX10_init 232 = .ok (.aload_n 0, 1) := by decide +kernel
theorem dX10_init_233 : decode cX10_init 233 = .ok (.getfield 9, 3) := by decide +kernel
theorem dX10_init_236 : decode cX10_init 236 = .ok (.bipush 16, 2) := by decide +kernel
theorem dX10_init_238 : decode cX10_init 238 = .ok (.bipush 6, 2) := by decide +kernel
theorem dX10_init_240 : decode cX10_init 240 = .ok (.iastore, 1) := by decide +kernel
theorem dX10_init_241 : decode cX10_init 241 = .ok (.aload_n 0, 1) := by decide +kernel
theorem dX10_init_242 : decode cX10_init 242 = .ok (.getfield 9, 3) := by decide +kernel
theorem dX10_init_245 : decode cX10_init 245 = .ok (.bipush 18, 2) := by decide +kernel
theorem dX10_init_247 : decode cX10_init 247 = .ok (.iconst 2, 1) := by decide +kernel
theorem dX10_init_248 : decode cX10_init 248 = .ok (.iastore, 1) := by decide +kernel
theorem dX10_init_249 : decode cX10_init 249 = .ok (.aload_n 0, 1) := by decide +kernel
theorem dX10_init_250 : decode cX10_init 250 = .ok (.getfield 9, 3) := by decide +kernel
theorem dX10_init_253 : decode cX10_init 253 = .ok (.bipush 19, 2) := by decide +kernel
theorem dX10_init_255 : decode cX10_init 255 = .ok (.iconst 1, 1) := by decide +kernel
theorem dX10_init_256 : decode cX10_init 256 = .ok (.iastore, 1) := by decide +kernel
theorem dX10_init_257 : decode cX10_init 257 = .ok (.iconst 0, 1) := by decide +kernel
theorem dX10_init_258 : decode cX10_init 258 = .ok (.istore_n 1, 1) := by decide +kernel
theorem dX10_init_259 : decode cX10_init 259 = .ok (.iload_n 1, 1) := by decide +kernel
theorem dX10_init_260 : decode cX10_init 260 = .ok (.bipush 25, 2) := by decide +kernel
theorem dX10_init_262 : decode cX10_init 262 = .ok (.if_icmp .ge 17, 3) := by decide +kernel
theorem dX10_init_265 : decode cX10_init 265 = .ok (.aload_n 0, 1) := by decide +kernel
theorem dX10_init_266 : decode cX10_init 266 = .ok (.getfield 50, 3) := by decide +kernel
theorem dX10_init_269 : decode cX10_init 269 = .ok (.iload_n 1, 1) := by decide +kernel
theorem dX10_init_270 : decode cX10_init 270 = .ok (.bipush 9, 2) := by decide +kernel
theorem dX10_init_272 : decode cX10_init 272 = .ok (.iastore, 1) := by decide +kernel
theorem dX10_init_273 : decode cX10_init 273 = .ok (.iinc 1 1, 3) := by decide +kernel
theorem dX10_init_276 : decode cX10_init 276 = .ok (.goto (-17), 3) := by decide +kernel
theorem dX10_init_279 : decode cX10_init 279 = .ok (.return_, 1) := by decide +kernel
theorem dX10_becomes_0 : decode cX10_becomes 0 = .ok (.aload_n 0, 1) := by decide +kernel
theorem dX10_becomes_1 : decode cX10_becomes 1 = .ok (.getfield 9, 3) := by decide +kernel
theorem dX10_becomes_4 : decode cX10_becomes 4 = .ok (.iload_n 1, 1) := by decide +kernel
theorem dX10_becomes_5 : decode cX10_becomes 5 = .ok (.iaload, 1) := by decide +kernel
theorem dX10_becomes_6 : decode cX10_becomes 6 = .ok (.istore_n 3, 1) := by decide +kernel
theorem dX10_becomes_7 : decode cX10_becomes 7 = .ok (.iload_n 3, 1) := by decide +kernel
theorem dX10_becomes_8 : decode cX10_becomes 8 = .ok (.iload_n 2, 1) := by decide +kernel
theorem dX10_becomes_9 : decode cX10_becomes 9 = .ok (.if_icmp .ne 5, 3) := by decide +kernel
theorem dX10_becomes_12 : decode cX10_becomes 12 = .ok (.iload_n 3, 1) := by decide +kernel
theorem dX10_becomes_13 : decode cX10_becomes 13 = .ok (.ireturn, 1) := by decide +kernel
theorem dX10_becomes_14 : decode cX10_becomes 14 = .ok (.aload_n 0, 1) := by decide +kernel
theorem dX10_becomes_15 : decode cX10_becomes 15 = .ok (.getfield 91, 3) := by decide +kernel
theorem dX10_becomes_18 : decode cX10_becomes 18 = .ok (.bipush 40, 2) := by decide +kernel
theorem dX10_becomes_20 : decode cX10_becomes 20 = .ok (.if_icmp .ne 77, 3) := by decide +kernel
theorem dX10_becomes_23 : decode cX10_becomes 23 = .ok (.iconst 1, 1) := by decide +kernel
theorem dX10_becomes_24 : decode cX10_becomes 24 = .ok (.istore 4, 2) := by decide +kernel
theorem dX10_becomes_26 : decode cX10_becomes 26 = .ok (.iload 4, 2) := by decide +kernel
theorem dX10_becomes_28 : decode cX10_becomes 28 = .ok (.bipush 40, 2) := by decide +kernel
theorem dX10_becomes_30 : decode cX10_becomes 30 = .ok (.if_icmp .ge 57, 3) := by decide +kernel
theorem dX10_becomes_33 : decode cX10_becomes 33 = .ok (.aload_n 0, 1) := by decide +kernel
theorem dX10_becomes_34 : decode cX10_becomes 34 = .ok (.getfield 13, 3) := by decide +kernel
theorem dX10_becomes_37 : decode cX10_becomes 37 = .ok (.iload 4, 2) := by decide +kernel
theorem dX10_becomes_39 : decode cX10_becomes 39 = .ok (.iconst 1, 1) := by decide +kernel
theorem dX10_becomes_40 : decode cX10_becomes 40 = .ok (.isub, 1) := by decide +kernel
theorem dX10_becomes_41 : decode cX10_becomes 41 = .ok (.aload_n 0, 1) := by decide +kernel
theorem dX10_becomes_42 : decode cX10_becomes 42 = .ok (.getfield 13, 3) := by decide +kernel
theorem dX10_becomes_45 : decode cX10_becomes 45 = .ok (.iload 4, 2) := by decide +kernel
theorem dX10_becomes_47 : decode cX10_becomes 47 = .ok (.iaload, 1) := by decide +kernel
theorem dX10_becomes_48 : decode cX10_becomes 48 = .ok (.iastore, 1) := by decide +kernel
theorem dX10_becomes_49 : decode cX10_becomes 49 = .ok (.aload_n 0, 1) := by decide +kernel
theorem dX10_becomes_50 : decode cX10_becomes 50 = .ok (.getfield 16, 3) := by decide +kernel
theorem dX10_becomes_53 : decode cX10_becomes 53 = .ok (.iload 4, 2) := by decide +kernel
theorem dX10_becomes_55 : decode cX10_becomes 55 = .ok (.iconst 1, 1) := by decide +kernel
theorem dX10_becomes_56 : decode cX10_becomes 56 = .ok (.isub, 1) := by decide +kernel
theorem dX10_becomes_57 : decode cX10_becomes 57 = .ok (.aload_n 0, 1) := by decide +kernel
theorem dX10_becomes_58 : decode cX10_becomes 58 = .ok (.getfield 16, 3) := by decide +kernel
theorem dX10_becomes_61 : decode cX10_becomes 61 = .ok (.iload 4, 2) := by decide +kernel
theorem dX10_becomes_63 : decode cX10_becomes 63 = .ok (.iaload, 1) := by decide +kernel
theorem dX10_becomes_64 : decode cX10_becomes 64 = .ok (.iastore, 1) := by decide +kernel
theorem dX10_becomes_65 : decode cX10_becomes 65 = .ok (.aload_n 0, 1) := by decide +kernel
theorem dX10_becomes_66 : decode cX10_becomes 66 = .ok (.getfield 19, 3) := by decide +kernel
theorem dX10_becomes_69 : decode cX10_becomes 69 = .ok (.iload 4, 2) := by decide +kernel
theorem dX10_becomes_71 : decode cX10_becomes 71 = .ok (.iconst 1, 1) := by decide +kernel
theorem dX10_becomes_72 : decode cX10_becomes 72 = .ok (.isub, 1) := by decide +kernel
theorem dX10_becomes_73 : decode cX10_becomes 73 = .ok (.aload_n 0, 1) := by decide +kernel
theorem dX10_becomes_74 : decode cX10_becomes 74 = .ok (.getfield 19, 3) := by decide +kernel
theorem dX10_becomes_77 : decode cX10_becomes 77 = .ok (.iload 4, 2) := by decide +kernel
theorem dX10_becomes_79 : decode cX10_becomes 79 = .ok (.iaload, 1) := by decide +kernel
theorem dX10_becomes_80 : decode cX10_becomes 80 = .ok (.iastore, 1) := by decide +kernel
theorem dX10_becomes_81 : decode cX10_becomes 81 = .ok (.iinc 4 1, 3) := by decide +kernel
theorem dX10_becomes_84 : decode cX10_becomes 84 = .ok (.goto (-58), 3) := by decide +kernel
theorem dX10_becomes_87 : decode cX10_becomes 87 = .ok (.aload_n 0, 1) := by decide +kernel
theorem dX10_becomes_88 : decode cX10_becomes 88 = .ok (.dup, 1) := by decide +kernel
theorem dX10_becomes_89 : decode cX10_becomes 89 = .ok (.getfield 91, 3) := by decide +kernel
theorem dX10_becomes_92 : decode cX10_becomes 92 = .ok (.iconst 1, 1) := by decide +kernel
theorem dX10_becomes_93 : decode cX10_becomes 93 = .ok (.isub, 1) := by decide +kernel
theorem dX10_becomes_94 : decode cX10_becomes 94 = .ok (.putfield 91, 3) := by decide +kernel
theorem dX10_becomes_97 : decode cX10_becomes 97 = .ok (.aload_n 0, 1) := by decide +kernel
theorem dX10_becomes_98 : decode cX10_becomes 98 = .ok (.getfield 13, 3) := by decide +kernel
theorem dX10_becomes_101 : decode cX10_becomes 101 = .ok (.aload_n 0, 1) := by decide +kernel
theorem dX10_becomes_102 : decode cX10_becomes 102 = .ok (.getfield 91, 3) := by decide +kernel
theorem dX10_becomes_105 : decode cX10_becomes 105 = .ok (.iload_n 1, 1) := by decide +kernel
theorem dX10_becomes_106 : decode cX10_becomes 106 = .ok (.iastore, 1) := by decide +kernel
theorem dX10_becomes_107 : decode cX10_becomes 107 = .ok (.aload_n 0, 1) := by decide +kernel
theorem dX10_becomes_108 : decode cX10_becomes 108 = .ok (.getfield 16, 3) := by decide +kernel
theorem dX10_becomes_111 : decode cX10_becomes 111 = .ok (.aload_n 0, 1) := by decide +kernel
theorem dX10_becomes_112 : decode cX10_becomes 112 = .ok (.getfield 91, 3) := by decide +kernel
theorem dX10_becomes_115 : decode cX10_becomes 115 = .ok (.iload_n 3, 1) := by decide +kernel
theorem dX10_becomes_116 : decode cX10_becomes 116 = .ok (.iastore, 1) := by decide +kernel
theorem dX10_becomes_117 : decode cX10_becomes 117 = .ok (.aload_n 0, 1) := by decide +kernel
theorem dX10_becomes_118 : decode cX10_becomes 118 = .ok (.getfield 19, 3) := by decide +kernel
theorem dX10_becomes_121 : decode cX10_becomes 121 = .ok (.aload_n 0, 1) := by decide +kernel
theorem dX10_becomes_122 : decode cX10_becomes 122 = .ok (.getfield 91, 3) := by decide +kernel
theorem dX10_becomes_125 : decode cX10_becomes 125 = .ok (.iload_n 2, 1) := by decide +kernel
theorem dX10_becomes_126 : decode cX10_becomes 126 = .ok (.iastore, 1) := by decide +kernel
theorem dX10_becomes_127 : decode cX10_becomes 127 = .ok (.aload_n 0, 1) := by decide +kernel
theorem dX10_becomes_128 : decode cX10_becomes 128 = .ok (.dup, 1) := by decide +kernel
theorem dX10_becomes_129 : decode cX10_becomes 129 = .ok (.getfield 91, 3) := by decide +kernel
theorem dX10_becomes_132 : decode cX10_becomes 132 = .ok (.iconst 1, 1) := by decide +kernel
theorem dX10_becomes_133 : decode cX10_becomes 133 = .ok (.iadd, 1) := by decide +kernel
theorem dX10_becomes_134 : decode cX10_becomes 134 = .ok (.putfield 91, 3) := by decide +kernel
theorem dX10_becomes_137 : decode cX10_becomes 137 = .ok (.aload_n 0, 1) := by decide +kernel
theorem dX10_becomes_138 : decode cX10_becomes 138 = .ok (.aload_n 0, 1) := by decide +kernel
theorem dX10_becomes_139 : decode cX10_becomes 139 = .ok (.getfield 91, 3) := by decide +kernel
theorem dX10_becomes_142 : decode cX10_becomes 142 = .ok (.putfield 94, 3) := by decide +kernel
theorem dX10_becomes_145 : decode cX10_becomes 145 = .ok (.aload_n 0, 1) := by decide +kernel
theorem dX10_becomes_146 : decode cX10_becomes 146 = .ok (.getfield 9, 3) := by decide +kernel
theorem dX10_becomes_149 : decode cX10_becomes 149 = .ok (.iload_n 1, 1) := by decide +kernel
theorem dX10_becomes_150 : decode cX10_becomes 150 = .ok (.iload_n 2, 1) := by decide +kernel
theorem dX10_becomes_151 : decode cX10_becomes 151 = .ok (.iastore, 1) := by decide +kernel
theorem dX10_becomes_152 : decode cX10_becomes 152 = .ok (.iload_n 3, 1) := by decide +kernel
theorem dX10_becomes_153 : decode cX10_becomes 153 = .ok (.ireturn, 1) := by decide +kernel
theorem dX10_lays_0 : decode cX10_lays 0 = .ok (.iload_n 1, 1) := by decide +kernel
theorem dX10_lays_1 : decode cX10_lays 1 = .ok (.i2l, 1) := by decide +kernel
theorem dX10_lays_2 : decode cX10_lays 2 = .ok (.ldc2_w 97, 3) := by decide +kernel
theorem dX10_lays_5 : decode cX10_lays 5 = .ok (.ldc2_w 99, 3) := by decide +kernel
theorem dX10_lays_8 : decode cX10_lays 8 = .ok (.invokestatic 101, 3) := by decide +kernel
theorem dX10_lays_11 : decode cX10_lays 11 = .ok (.ifCond .eq 19, 3) := by decide +kernel
theorem dX10_lays_14 : decode cX10_lays 14 = .ok (.aload_n 0, 1) := by decide +kernel
theorem dX10_lays_15 : decode cX10_lays 15 = .ok (.getfield 25, 3) := by decide +kernel
theorem dX10_lays_18 : decode cX10_lays 18 = .ok (.iload_n 1, 1) := by decide +kernel
theorem dX10_lays_19 : decode cX10_lays 19 = .ok (.bipush 10, 2) := by decide +kernel
theorem dX10_lays_21 : decode cX10_lays 21 = .ok (.isub, 1) := by decide +kernel
theorem dX10_lays_22 : decode cX10_lays 22 = .ok (.iaload, 1) := by decide +kernel
theorem dX10_lays_23 : decode cX10_lays 23 = .ok (.ifCond .ne 7, 3) := by decide +kernel
theorem dX10_lays_26 : decode cX10_lays 26 = .ok (.iconst 1, 1) := by decide +kernel
theorem dX10_lays_27 : decode cX10_lays 27 = .ok (.goto 4, 3) := by decide +kernel
theorem dX10_lays_30 : decode cX10_lays 30 = .ok (.iconst 0, 1) := by decide +kernel
theorem dX10_lays_31 : decode cX10_lays 31 = .ok (.istore_n 3, 1) := by decide +kernel
theorem dX10_lays_32 : decode cX10_lays 32 = .ok (.aload_n 0, 1) := by decide +kernel
theorem dX10_lays_33 : decode cX10_lays 33 = .ok (.getfield 9, 3) := by decide +kernel
theorem dX10_lays_36 : decode cX10_lays 36 = .ok (.iload_n 1, 1) := by decide +kernel
theorem dX10_lays_37 : decode cX10_lays 37 = .ok (.iload_n 3, 1) := by decide +kernel
theorem dX10_lays_38 : decode cX10_lays 38 = .ok (.ifCond .eq 7, 3) := by decide +kernel
theorem dX10_lays_41 : decode cX10_lays 41 = .ok (.iconst 0, 1) := by decide +kernel
theorem dX10_lays_42 : decode cX10_lays 42 = .ok (.goto 4, 3) := by decide +kernel
theorem dX10_lays_45 : decode cX10_lays 45 = .ok (.iload_n 2, 1) := by decide +kernel
theorem dX10_lays_46 : decode cX10_lays 46 = .ok (.iastore, 1) := by decide +kernel
theorem dX10_lays_47 : decode cX10_lays 47 = .ok (.return_, 1) := by decide +kernel
theorem dX10_undo_0 : decode cX10_undo 0 = .ok (.aload_n 0, 1) := by decide +kernel
theorem dX10_undo_1 : decode cX10_undo 1 = .ok (.getfield 91, 3) := by decide +kernel
theorem dX10_undo_4 : decode cX10_undo 4 = .ok (.ifCond .ne 6, 3) := by decide +kernel
theorem dX10_undo_7 : decode cX10_undo 7 = .ok (.bipush (-5), 2) := by decide +kernel
theorem dX10_undo_9 : decode cX10_undo 9 = .ok (.ireturn, 1) := by decide +kernel
theorem dX10_undo_10 : decode cX10_undo 10 = .ok (.aload_n 0, 1) := by decide +kernel
theorem dX10_undo_11 : decode cX10_undo 11 = .ok (.dup, 1) := by decide +kernel
theorem dX10_undo_12 : decode cX10_undo 12 = .ok (.getfield 91, 3) := by decide +kernel
theorem dX10_undo_15 : decode cX10_undo 15 = .ok (.iconst 1, 1) := by decide +kernel
theorem dX10_undo_16 : decode cX10_undo 16 = .ok (.isub, 1) := by decide +kernel
theorem dX10_undo_17 : decode cX10_undo 17 = .ok (.putfield 91, 3) := by decide +kernel
theorem dX10_undo_20 : decode cX10_undo 20 = .ok (.aload_n 0, 1) := by decide +kernel
theorem dX10_undo_21 : decode cX10_undo 21 = .ok (.aload_n 0, 1) := by decide +kernel
theorem dX10_undo_22 : decode cX10_undo 22 = .ok (.getfield 13, 3) := by decide +kernel
theorem dX10_undo_25 : decode cX10_undo 25 = .ok (.aload_n 0, 1) := by decide +kernel
theorem dX10_undo_26 : decode cX10_undo 26 = .ok (.getfield 91, 3) := by decide +kernel
theorem dX10_undo_29 : decode cX10_undo 29 = .ok (.iaload, 1) := by decide +kernel
theorem dX10_undo_30 : decode cX10_undo 30 = .ok (.aload_n 0, 1) := by decide +kernel
theorem dX10_undo_31 : decode cX10_undo 31 = .ok (.getfield 16, 3) := by decide +kernel
theorem dX10_undo_34 : decode cX10_undo 34 = .ok (.aload_n 0, 1) := by decide +kernel
theorem dX10_undo_35 : decode cX10_undo 35 = .ok (.getfield 91, 3) := by decide +kernel
theorem dX10_undo_38 : decode cX10_undo 38 = .ok (.iaload, 1) := by decide +kernel
theorem dX10_undo_39 : decode cX10_undo 39 = .ok (.invokevirtual 105, 3) := by decide +kernel
theorem dX10_undo_42 : decode cX10_undo 42 = .ok (.aload_n 0, 1) := by decide +kernel
theorem dX10_undo_43 : decode cX10_undo 43 = .ok (.getfield 91, 3) := by decide +kernel
theorem dX10_undo_46 : decode cX10_undo 46 = .ok (.ireturn, 1) := by decide +kernel
theorem dX10_redo_0 : decode cX10_redo 0 = .ok (.aload_n 0, 1) := by decide +kernel
theorem dX10_redo_1 : decode cX10_redo 1 = .ok (.getfield 91, 3) := by decide +kernel
theorem dX10_redo_4 : decode cX10_redo 4 = .ok (.aload_n 0, 1) := by decide +kernel
theorem dX10_redo_5 : decode cX10_redo 5 = .ok (.getfield 94, 3) := by decide +kernel
theorem dX10_redo_8 : decode cX10_redo 8 = .ok (.if_icmp .ne 6, 3) := by decide +kernel
theorem dX10_redo_11 : decode cX10_redo 11 = .ok (.bipush (-5), 2) := by decide +kernel
theorem dX10_redo_13 : decode cX10_redo 13 = .ok (.ireturn, 1) := by decide +kernel
theorem dX10_redo_14 : decode cX10_redo 14 = .ok (.aload_n 0, 1) := by decide +kernel
theorem dX10_redo_15 : decode cX10_redo 15 = .ok (.aload_n 0, 1) := by decide +kernel
theorem dX10_redo_16 : decode cX10_redo 16 = .ok (.getfield 13, 3) := by decide +kernel
theorem dX10_redo_19 : decode cX10_redo 19 = .ok (.aload_n 0, 1) := by decide +kernel
theorem dX10_redo_20 : decode cX10_redo 20 = .ok (.getfield 91, 3) := by decide +kernel
theorem dX10_redo_23 : decode cX10_redo 23 = .ok (.iaload, 1) := by decide +kernel
theorem dX10_redo_24 : decode cX10_redo 24 = .ok (.aload_n 0, 1) := by decide +kernel
theorem dX10_redo_25 : decode cX10_redo 25 = .ok (.getfield 19, 3) := by decide +kernel
theorem dX10_redo_28 : decode cX10_redo 28 = .ok (.aload_n 0, 1) := by decide +kernel
theorem dX10_redo_29 : decode cX10_redo 29 = .ok (.getfield 91, 3) := by decide +kernel
theorem dX10_redo_32 : decode cX10_redo 32 = .ok (.iaload, 1) := by decide +kernel
theorem dX10_redo_33 : decode cX10_redo 33 = .ok (.invokevirtual 105, 3) := by decide +kernel
theorem dX10_redo_36 : decode cX10_redo 36 = .ok (.aload_n 0, 1) := by decide +kernel
theorem dX10_redo_37 : decode cX10_redo 37 = .ok (.dup, 1) := by decide +kernel
theorem dX10_redo_38 : decode cX10_redo 38 = .ok (.getfield 91, 3) := by decide +kernel
theorem dX10_redo_41 : decode cX10_redo 41 = .ok (.iconst 1, 1) := by decide +kernel
theorem dX10_redo_42 : decode cX10_redo 42 = .ok (.iadd, 1) := by decide +kernel
theorem dX10_redo_43 : decode cX10_redo 43 = .ok (.putfield 91, 3) := by decide +kernel
theorem dX10_redo_46 : decode cX10_redo 46 = .ok (.aload_n 0, 1) := by decide +kernel
theorem dX10_redo_47 : decode cX10_redo 47 = .ok (.getfield 94, 3) := by decide +kernel
theorem dX10_redo_50 : decode cX10_redo 50 = .ok (.aload_n 0, 1) := by decide +kernel
theorem dX10_redo_51 : decode cX10_redo 51 = .ok (.getfield 91, 3) := by decide +kernel
theorem dX10_redo_54 : decode cX10_redo 54 = .ok (.isub, 1) := by decide +kernel
theorem dX10_redo_55 : decode cX10_redo 55 = .ok (.ireturn, 1) := by decide +kernel
theorem dX10_isHoop_0 : decode cX10_isHoop 0 = .ok (.iload_n 1, 1) := by decide +kernel
theorem dX10_isHoop_1 : decode cX10_isHoop 1 = .ok (.i2l, 1) := by decide +kernel
theorem dX10_isHoop_2 : decode cX10_isHoop 2 = .ok (.lconst 0, 1) := by decide +kernel
theorem dX10_isHoop_3 : decode cX10_isHoop 3 = .ok (.aload_n 0, 1) := by decide +kernel
theorem dX10_isHoop_4 : decode cX10_isHoop 4 = .ok (.getfield 109, 3) := by decide +kernel
theorem dX10_isHoop_7 : decode cX10_isHoop 7 = .ok (.iconst 1, 1) := by decide +kernel
theorem dX10_isHoop_8 : decode cX10_isHoop 8 = .ok (.isub, 1) := by decide +kernel
theorem dX10_isHoop_9 : decode cX10_isHoop 9 = .ok (.i2l, 1) := by decide +kernel
theorem dX10_isHoop_10 : decode cX10_isHoop 10 = .ok (.invokestatic 101, 3) := by decide +kernel
theorem dX10_isHoop_13 : decode cX10_isHoop 13 = .ok (.ireturn, 1) := by decide +kernel
theorem dX10_isOne_0 : decode cX10_isOne 0 = .ok (.lload_n 0, 1) := by decide +kernel
theorem dX10_isOne_1 : decode cX10_isOne 1 = .ok (.lconst 1, 1) := by decide +kernel
theorem dX10_isOne_2 : decode cX10_isOne 2 = .ok (.ldc2_w 112, 3) := by decide +kernel
theorem dX10_isOne_5 : decode cX10_isOne 5 = .ok (.invokestatic 101, 3) := by decide +kernel
theorem dX10_isOne_8 : decode cX10_isOne 8 = .ok (.ifCond .eq 32, 3) := by decide +kernel
theorem dX10_isOne_11 : decode cX10_isOne 11 = .ok (.lload_n 2, 1) := by decide +kernel
theorem dX10_isOne_12 : decode cX10_isOne 12 = .ok (.lconst 1, 1) := by decide +kernel
theorem dX10_isOne_13 : decode cX10_isOne 13 = .ok (.ldc2_w 112, 3) := by decide +kernel
theorem dX10_isOne_16 : decode cX10_isOne 16 = .ok (.invokestatic 101, 3) := by decide +kernel
theorem dX10_isOne_19 : decode cX10_isOne 19 = .ok (.ifCond .eq 21, 3) := by decide +kernel
theorem dX10_isOne_22 : decode cX10_isOne 22 = .ok (.lload 4, 2) := by decide +kernel
theorem dX10_isOne_24 : decode cX10_isOne 24 = .ok (.ldc2_w 114, 3) := by decide +kernel
theorem dX10_isOne_27 : decode cX10_isOne 27 = .ok (.ldc2_w 112, 3) := by decide +kernel
theorem dX10_isOne_30 : decode cX10_isOne 30 = .ok (.invokestatic 101, 3) := by decide +kernel
theorem dX10_isOne_33 : decode cX10_isOne 33 = .ok (.ifCond .eq 7, 3) := by decide +kernel
theorem dX10_isOne_36 : decode cX10_isOne 36 = .ok (.iconst 1, 1) := by decide +kernel
theorem dX10_isOne_37 : decode cX10_isOne 37 = .ok (.goto 4, 3) := by decide +kernel
theorem dX10_isOne_40 : decode cX10_isOne 40 = .ok (.iconst 0, 1) := by decide +kernel
theorem dX10_isOne_41 : decode cX10_isOne 41 = .ok (.ireturn, 1) := by decide +kernel
theorem dX10_adds_0 : decode cX10_adds 0 = .ok (.aload_n 0, 1) := by decide +kernel
theorem dX10_adds_1 : decode cX10_adds 1 = .ok (.getfield 9, 3) := by decide +kernel
theorem dX10_adds_4 : decode cX10_adds 4 = .ok (.aload_n 0, 1) := by decide +kernel
theorem dX10_adds_5 : decode cX10_adds 5 = .ok (.getfield 109, 3) := by decide +kernel
theorem dX10_adds_8 : decode cX10_adds 8 = .ok (.iload_n 1, 1) := by decide +kernel
theorem dX10_adds_9 : decode cX10_adds 9 = .ok (.iastore, 1) := by decide +kernel
theorem dX10_adds_10 : decode cX10_adds 10 = .ok (.aload_n 0, 1) := by decide +kernel
theorem dX10_adds_11 : decode cX10_adds 11 = .ok (.getfield 9, 3) := by decide +kernel
theorem dX10_adds_14 : decode cX10_adds 14 = .ok (.iconst 5, 1) := by decide +kernel
theorem dX10_adds_15 : decode cX10_adds 15 = .ok (.aload_n 0, 1) := by decide +kernel
theorem dX10_adds_16 : decode cX10_adds 16 = .ok (.getfield 109, 3) := by decide +kernel
theorem dX10_adds_19 : decode cX10_adds 19 = .ok (.iadd, 1) := by decide +kernel
theorem dX10_adds_20 : decode cX10_adds 20 = .ok (.iload_n 2, 1) := by decide +kernel
theorem dX10_adds_21 : decode cX10_adds 21 = .ok (.iastore, 1) := by decide +kernel
theorem dX10_adds_22 : decode cX10_adds 22 = .ok (.aload_n 0, 1) := by decide +kernel
theorem dX10_adds_23 : decode cX10_adds 23 = .ok (.getfield 9, 3) := by decide +kernel
theorem dX10_adds_26 : decode cX10_adds 26 = .ok (.bipush 10, 2) := by decide +kernel
theorem dX10_adds_28 : decode cX10_adds 28 = .ok (.aload_n 0, 1) := by decide +kernel
theorem dX10_adds_29 : decode cX10_adds 29 = .ok (.getfield 109, 3) := by decide +kernel
theorem dX10_adds_32 : decode cX10_adds 32 = .ok (.iadd, 1) := by decide +kernel
theorem dX10_adds_33 : decode cX10_adds 33 = .ok (.iload_n 3, 1) := by decide +kernel
theorem dX10_adds_34 : decode cX10_adds 34 = .ok (.iastore, 1) := by decide +kernel
theorem dX10_adds_35 : decode cX10_adds 35 = .ok (.aload_n 0, 1) := by decide +kernel
theorem dX10_adds_36 : decode cX10_adds 36 = .ok (.getfield 22, 3) := by decide +kernel
theorem dX10_adds_39 : decode cX10_adds 39 = .ok (.aload_n 0, 1) := by decide +kernel
theorem dX10_adds_40 : decode cX10_adds 40 = .ok (.getfield 109, 3) := by decide +kernel
theorem dX10_adds_43 : decode cX10_adds 43 = .ok (.iconst 0, 1) := by decide +kernel
theorem dX10_adds_44 : decode cX10_adds 44 = .ok (.iastore, 1) := by decide +kernel
theorem dX10_adds_45 : decode cX10_adds 45 = .ok (.aload_n 0, 1) := by decide +kernel
theorem dX10_adds_46 : decode cX10_adds 46 = .ok (.getfield 25, 3) := by decide +kernel
theorem dX10_adds_49 : decode cX10_adds 49 = .ok (.aload_n 0, 1) := by decide +kernel
theorem dX10_adds_50 : decode cX10_adds 50 = .ok (.getfield 109, 3) := by decide +kernel
theorem dX10_adds_53 : decode cX10_adds 53 = .ok (.bipush 20, 2) := by decide +kernel
theorem dX10_adds_55 : decode cX10_adds 55 = .ok (.iastore, 1) := by decide +kernel
theorem dX10_adds_56 : decode cX10_adds 56 = .ok (.aload_n 0, 1) := by decide +kernel
theorem dX10_adds_57 : decode cX10_adds 57 = .ok (.dup, 1) := by decide +kernel
theorem dX10_adds_58 : decode cX10_adds 58 = .ok (.getfield 109, 3) := by decide +kernel
theorem dX10_adds_61 : decode cX10_adds 61 = .ok (.iconst 1, 1) := by decide +kernel
theorem dX10_adds_62 : decode cX10_adds 62 = .ok (.iadd, 1) := by decide +kernel
theorem dX10_adds_63 : decode cX10_adds 63 = .ok (.putfield 109, 3) := by decide +kernel
theorem dX10_adds_66 : decode cX10_adds 66 = .ok (.return_, 1) := by decide +kernel
theorem dX10_hoop_0 : decode cX10_hoop 0 = .ok (.iload_n 1, 1) := by decide +kernel
theorem dX10_hoop_1 : decode cX10_hoop 1 = .ok (.ifCond .lt 22, 3) := by decide +kernel
theorem dX10_hoop_4 : decode cX10_hoop 4 = .ok (.iload_n 1, 1) := by decide +kernel
theorem dX10_hoop_5 : decode cX10_hoop 5 = .ok (.bipush 10, 2) := by decide +kernel
theorem dX10_hoop_7 : decode cX10_hoop 7 = .ok (.idiv, 1) := by decide +kernel
theorem dX10_hoop_8 : decode cX10_hoop 8 = .ok (.i2l, 1) := by decide +kernel
theorem dX10_hoop_9 : decode cX10_hoop 9 = .ok (.iload_n 1, 1) := by decide +kernel
theorem dX10_hoop_10 : decode cX10_hoop 10 = .ok (.bipush 10, 2) := by decide +kernel
theorem dX10_hoop_12 : decode cX10_hoop 12 = .ok (.irem, 1) := by decide +kernel
theorem dX10_hoop_13 : decode cX10_hoop 13 = .ok (.i2l, 1) := by decide +kernel
theorem dX10_hoop_14 : decode cX10_hoop 14 = .ok (.ldc2_w 116, 3) := by decide +kernel
theorem dX10_hoop_17 : decode cX10_hoop 17 = .ok (.invokestatic 118, 3) := by decide +kernel
theorem dX10_hoop_20 : decode cX10_hoop 20 = .ok (.ifCond .ne 5, 3) := by decide +kernel
theorem dX10_hoop_23 : decode cX10_hoop 23 = .ok (.iconst (-1), 1) := by decide +kernel
theorem dX10_hoop_24 : decode cX10_hoop 24 = .ok (.ireturn, 1) := by decide +kernel
theorem dX10_hoop_25 : decode cX10_hoop 25 = .ok (.aload_n 0, 1) := by decide +kernel
theorem dX10_hoop_26 : decode cX10_hoop 26 = .ok (.getfield 109, 3) := by decide +kernel
theorem dX10_hoop_29 : decode cX10_hoop 29 = .ok (.iconst 5, 1) := by decide +kernel
theorem dX10_hoop_30 : decode cX10_hoop 30 = .ok (.if_icmp .ne 6, 3) := by decide +kernel
theorem dX10_hoop_33 : decode cX10_hoop 33 = .ok (.bipush (-3), 2) := by decide +kernel
theorem dX10_hoop_35 : decode cX10_hoop 35 = .ok (.ireturn, 1) := by decide +kernel
theorem dX10_hoop_36 : decode cX10_hoop 36 = .ok (.aload_n 0, 1) := by decide +kernel
theorem dX10_hoop_37 : decode cX10_hoop 37 = .ok (.iload_n 1, 1) := by decide +kernel
theorem dX10_hoop_38 : decode cX10_hoop 38 = .ok (.bipush 10, 2) := by decide +kernel
theorem dX10_hoop_40 : decode cX10_hoop 40 = .ok (.idiv, 1) := by decide +kernel
theorem dX10_hoop_41 : decode cX10_hoop 41 = .ok (.iload_n 1, 1) := by decide +kernel
theorem dX10_hoop_42 : decode cX10_hoop 42 = .ok (.bipush 10, 2) := by decide +kernel
theorem dX10_hoop_44 : decode cX10_hoop 44 = .ok (.irem, 1) := by decide +kernel
theorem dX10_hoop_45 : decode cX10_hoop 45 = .ok (.iconst 4, 1) := by decide +kernel
theorem dX10_hoop_46 : decode cX10_hoop 46 = .ok (.invokevirtual 121, 3) := by decide +kernel
theorem dX10_hoop_49 : decode cX10_hoop 49 = .ok (.aload_n 0, 1) := by decide +kernel
theorem dX10_hoop_50 : decode cX10_hoop 50 = .ok (.getfield 109, 3) := by decide +kernel
theorem dX10_hoop_53 : decode cX10_hoop 53 = .ok (.iconst 1, 1) := by decide +kernel
theorem dX10_hoop_54 : decode cX10_hoop 54 = .ok (.isub, 1) := by decide +kernel
theorem dX10_hoop_55 : decode cX10_hoop 55 = .ok (.ireturn, 1) := by decide +kernel
theorem dX10_hoops_0 : decode cX10_hoops 0 = .ok (.iload_n 1, 1) := by decide +kernel
theorem dX10_hoops_1 : decode cX10_hoops 1 = .ok (.invokestatic 125, 3) := by decide +kernel
theorem dX10_hoops_4 : decode cX10_hoops 4 = .ok (.ifCond .eq 15, 3) := by decide +kernel
theorem dX10_hoops_7 : decode cX10_hoops 7 = .ok (.iload_n 3, 1) := by decide +kernel
theorem dX10_hoops_8 : decode cX10_hoops 8 = .ok (.i2l, 1) := by decide +kernel
theorem dX10_hoops_9 : decode cX10_hoops 9 = .ok (.lconst 1, 1) := by decide +kernel
theorem dX10_hoops_10 : decode cX10_hoops 10 = .ok (.ldc2_w 129, 3) := by decide +kernel
theorem dX10_hoops_13 : decode cX10_hoops 13 = .ok (.invokestatic 101, 3) := by decide +kernel
theorem dX10_hoops_16 : decode cX10_hoops 16 = .ok (.ifCond .ne 5, 3) := by decide +kernel
theorem dX10_hoops_19 : decode cX10_hoops 19 = .ok (.iconst (-1), 1) := by decide +kernel
theorem dX10_hoops_20 : decode cX10_hoops 20 = .ok (.ireturn, 1) := by decide +kernel
theorem dX10_hoops_21 : decode cX10_hoops 21 = .ok (.aload_n 0, 1) := by decide +kernel
theorem dX10_hoops_22 : decode cX10_hoops 22 = .ok (.getfield 75, 3) := by decide +kernel
theorem dX10_hoops_25 : decode cX10_hoops 25 = .ok (.iload_n 1, 1) := by decide +kernel
theorem dX10_hoops_26 : decode cX10_hoops 26 = .ok (.iaload, 1) := by decide +kernel
theorem dX10_hoops_27 : decode cX10_hoops 27 = .ok (.ifCond .lt 17, 3) := by decide +kernel
theorem dX10_hoops_30 : decode cX10_hoops 30 = .ok (.aload_n 0, 1) := by decide +kernel
theorem dX10_hoops_31 : decode cX10_hoops 31 = .ok (.getfield 75, 3) := by decide +kernel
theorem dX10_hoops_34 : decode cX10_hoops 34 = .ok (.iload_n 1, 1) := by decide +kernel
theorem dX10_hoops_35 : decode cX10_hoops 35 = .ok (.iaload, 1) := by decide +kernel
theorem dX10_hoops_36 : decode cX10_hoops 36 = .ok (.bipush 50, 2) := by decide +kernel
theorem dX10_hoops_38 : decode cX10_hoops 38 = .ok (.if_icmp .eq 6, 3) := by decide +kernel
theorem dX10_hoops_41 : decode cX10_hoops 41 = .ok (.bipush (-12), 2) := by decide +kernel
theorem dX10_hoops_43 : decode cX10_hoops 43 = .ok (.ireturn, 1) := by decide +kernel
theorem dX10_hoops_44 : decode cX10_hoops 44 = .ok (.iconst 0, 1) := by decide +kernel
theorem dX10_hoops_45 : decode cX10_hoops 45 = .ok (.istore 4, 2) := by decide +kernel
theorem dX10_hoops_47 : decode cX10_hoops 47 = .ok (.aload_n 0, 1) := by decide +kernel
theorem dX10_hoops_48 : decode cX10_hoops 48 = .ok (.getfield 75, 3) := by decide +kernel
theorem dX10_hoops_51 : decode cX10_hoops 51 = .ok (.iload_n 1, 1) := by decide +kernel
theorem dX10_hoops_52 : decode cX10_hoops 52 = .ok (.iaload, 1) := by decide +kernel
theorem dX10_hoops_53 : decode cX10_hoops 53 = .ok (.bipush 50, 2) := by decide +kernel
theorem dX10_hoops_55 : decode cX10_hoops 55 = .ok (.if_icmp .ne 11, 3) := by decide +kernel
theorem dX10_hoops_58 : decode cX10_hoops 58 = .ok (.iload_n 2, 1) := by decide +kernel
theorem dX10_hoops_59 : decode cX10_hoops 59 = .ok (.ifCond .lt 7, 3) := by decide +kernel
theorem dX10_hoops_62 : decode cX10_hoops 62 = .ok (.iconst 1, 1) := by decide +kernel
theorem dX10_hoops_63 : decode cX10_hoops 63 = .ok (.goto 4, 3) := by decide +kernel
theorem dX10_hoops_66 : decode cX10_hoops 66 = .ok (.iconst 0, 1) := by decide +kernel
theorem dX10_hoops_67 : decode cX10_hoops 67 = .ok (.istore 5, 2) := by decide +kernel
theorem dX10_hoops_69 : decode cX10_hoops 69 = .ok (.iload 5, 2) := by decide +kernel
theorem dX10_hoops_71 : decode cX10_hoops 71 = .ok (.ifCond .eq 140, 3) := by decide +kernel
theorem dX10_hoops_74 : decode cX10_hoops 74 = .ok (.iload 4, 2) := by decide +kernel
theorem dX10_hoops_76 : decode cX10_hoops 76 = .ok (.iload_n 3, 1) := by decide +kernel
theorem dX10_hoops_77 : decode cX10_hoops 77 = .ok (.if_icmp .ge 134, 3) := by decide +kernel
theorem dX10_hoops_80 : decode cX10_hoops 80 = .ok (.iload_n 2, 1) := by decide +kernel
theorem dX10_hoops_81 : decode cX10_hoops 81 = .ok (.aload_n 0, 1) := by decide +kernel
theorem dX10_hoops_82 : decode cX10_hoops 82 = .ok (.getfield 78, 3) := by decide +kernel
theorem dX10_hoops_85 : decode cX10_hoops 85 = .ok (.iload_n 1, 1) := by decide +kernel
theorem dX10_hoops_86 : decode cX10_hoops 86 = .ok (.iaload, 1) := by decide +kernel
theorem dX10_hoops_87 : decode cX10_hoops 87 = .ok (.iconst 3, 1) := by decide +kernel
theorem dX10_hoops_88 : decode cX10_hoops 88 = .ok (.isub, 1) := by decide +kernel
theorem dX10_hoops_89 : decode cX10_hoops 89 = .ok (.iconst 3, 1) := by decide +kernel
theorem dX10_hoops_90 : decode cX10_hoops 90 = .ok (.iload 4, 2) := by decide +kernel
theorem dX10_hoops_92 : decode cX10_hoops 92 = .ok (.imul, 1) := by decide +kernel
theorem dX10_hoops_93 : decode cX10_hoops 93 = .ok (.isub, 1) := by decide +kernel
theorem dX10_hoops_94 : decode cX10_hoops 94 = .ok (.if_icmp .gt 15, 3) := by decide +kernel
theorem dX10_hoops_97 : decode cX10_hoops 97 = .ok (.aload_n 0, 1) := by decide +kernel
theorem dX10_hoops_98 : decode cX10_hoops 98 = .ok (.getfield 109, 3) := by decide +kernel
theorem dX10_hoops_101 : decode cX10_hoops 101 = .ok (.iconst 5, 1) := by decide +kernel
theorem dX10_hoops_102 : decode cX10_hoops 102 = .ok (.if_icmp .ge 7, 3) := by decide +kernel
theorem dX10_hoops_105 : decode cX10_hoops 105 = .ok (.iconst 1, 1) := by decide +kernel
theorem dX10_hoops_106 : decode cX10_hoops 106 = .ok (.goto 4, 3) := by decide +kernel
theorem dX10_hoops_109 : decode cX10_hoops 109 = .ok (.iconst 0, 1) := by decide +kernel
theorem dX10_hoops_110 : decode cX10_hoops 110 = .ok (.istore 5, 2) := by decide +kernel
theorem dX10_hoops_112 : decode cX10_hoops 112 = .ok (.bipush 60, 2) := by decide +kernel
theorem dX10_hoops_114 : decode cX10_hoops 114 = .ok (.iload_n 1, 1) := by decide +kernel
theorem dX10_hoops_115 : decode cX10_hoops 115 = .ok (.imul, 1) := by decide +kernel
theorem dX10_hoops_116 : decode cX10_hoops 116 = .ok (.iload_n 2, 1) := by decide +kernel
theorem dX10_hoops_117 : decode cX10_hoops 117 = .ok (.iadd, 1) := by decide +kernel
theorem dX10_hoops_118 : decode cX10_hoops 118 = .ok (.iconst 3, 1) := by decide +kernel
theorem dX10_hoops_119 : decode cX10_hoops 119 = .ok (.iload 4, 2) := by decide +kernel
theorem dX10_hoops_121 : decode cX10_hoops 121 = .ok (.imul, 1) := by decide +kernel
theorem dX10_hoops_122 : decode cX10_hoops 122 = .ok (.iadd, 1) := by decide +kernel
theorem dX10_hoops_123 : decode cX10_hoops 123 = .ok (.istore 6, 2) := by decide +kernel
theorem dX10_hoops_125 : decode cX10_hoops 125 = .ok (.iload 5, 2) := by decide +kernel
theorem dX10_hoops_127 : decode cX10_hoops 127 = .ok (.ifCond .eq 38, 3) := by decide +kernel
theorem dX10_hoops_130 : decode cX10_hoops 130 = .ok (.aload_n 0, 1) := by decide +kernel
theorem dX10_hoops_131 : decode cX10_hoops 131 = .ok (.getfield 81, 3) := by decide +kernel
theorem dX10_hoops_134 : decode cX10_hoops 134 = .ok (.iload 6, 2) := by decide +kernel
theorem dX10_hoops_136 : decode cX10_hoops 136 = .ok (.laload, 1) := by decide +kernel
theorem dX10_hoops_137 : decode cX10_hoops 137 = .ok (.aload_n 0, 1) := by decide +kernel
theorem dX10_hoops_138 : decode cX10_hoops 138 = .ok (.getfield 81, 3) := by decide +kernel
theorem dX10_hoops_141 : decode cX10_hoops 141 = .ok (.iload 6, 2) := by decide +kernel
theorem dX10_hoops_143 : decode cX10_hoops 143 = .ok (.iconst 1, 1) := by decide +kernel
theorem dX10_hoops_144 : decode cX10_hoops 144 = .ok (.iadd, 1) := by decide +kernel
theorem dX10_hoops_145 : decode cX10_hoops 145 = .ok (.laload, 1) := by decide +kernel
theorem dX10_hoops_146 : decode cX10_hoops 146 = .ok (.aload_n 0, 1) := by decide +kernel
theorem dX10_hoops_147 : decode cX10_hoops 147 = .ok (.getfield 81, 3) := by decide +kernel
theorem dX10_hoops_150 : decode cX10_hoops 150 = .ok (.iload 6, 2) := by decide +kernel
theorem dX10_hoops_152 : decode cX10_hoops 152 = .ok (.iconst 2, 1) := by decide +kernel
theorem dX10_hoops_153 : decode cX10_hoops 153 = .ok (.iadd, 1) := by decide +kernel
theorem dX10_hoops_154 : decode cX10_hoops 154 = .ok (.laload, 1) := by decide +kernel
theorem dX10_hoops_155 : decode cX10_hoops 155 = .ok (.invokestatic 118, 3) := by decide +kernel
theorem dX10_hoops_158 : decode cX10_hoops 158 = .ok (.ifCond .eq 7, 3) := by decide +kernel
theorem dX10_hoops_161 : decode cX10_hoops 161 = .ok (.iconst 1, 1) := by decide +kernel
theorem dX10_hoops_162 : decode cX10_hoops 162 = .ok (.goto 4, 3) := by decide +kernel
theorem dX10_hoops_165 : decode cX10_hoops 165 = .ok (.iconst 0, 1) := by decide +kernel
theorem dX10_hoops_166 : decode cX10_hoops 166 = .ok (.istore 5, 2) := by decide +kernel
theorem dX10_hoops_168 : decode cX10_hoops 168 = .ok (.iload 5, 2) := by decide +kernel
theorem dX10_hoops_170 : decode cX10_hoops 170 = .ok (.ifCond .eq 38, 3) := by decide +kernel
theorem dX10_hoops_173 : decode cX10_hoops 173 = .ok (.aload_n 0, 1) := by decide +kernel
theorem dX10_hoops_174 : decode cX10_hoops 174 = .ok (.aload_n 0, 1) := by decide +kernel
theorem dX10_hoops_175 : decode cX10_hoops 175 = .ok (.getfield 81, 3) := by decide +kernel
theorem dX10_hoops_178 : decode cX10_hoops 178 = .ok (.iload 6, 2) := by decide +kernel
theorem dX10_hoops_180 : decode cX10_hoops 180 = .ok (.laload, 1) := by decide +kernel
theorem dX10_hoops_181 : decode cX10_hoops 181 = .ok (.l2i, 1) := by decide +kernel
theorem dX10_hoops_182 : decode cX10_hoops 182 = .ok (.aload_n 0, 1) := by decide +kernel
theorem dX10_hoops_183 : decode cX10_hoops 183 = .ok (.getfield 81, 3) := by decide +kernel
theorem dX10_hoops_186 : decode cX10_hoops 186 = .ok (.iload 6, 2) := by decide +kernel
theorem dX10_hoops_188 : decode cX10_hoops 188 = .ok (.iconst 1, 1) := by decide +kernel
theorem dX10_hoops_189 : decode cX10_hoops 189 = .ok (.iadd, 1) := by decide +kernel
theorem dX10_hoops_190 : decode cX10_hoops 190 = .ok (.laload, 1) := by decide +kernel
theorem dX10_hoops_191 : decode cX10_hoops 191 = .ok (.l2i, 1) := by decide +kernel
theorem dX10_hoops_192 : decode cX10_hoops 192 = .ok (.aload_n 0, 1) := by decide +kernel
theorem dX10_hoops_193 : decode cX10_hoops 193 = .ok (.getfield 81, 3) := by decide +kernel
theorem dX10_hoops_196 : decode cX10_hoops 196 = .ok (.iload 6, 2) := by decide +kernel
theorem dX10_hoops_198 : decode cX10_hoops 198 = .ok (.iconst 2, 1) := by decide +kernel
theorem dX10_hoops_199 : decode cX10_hoops 199 = .ok (.iadd, 1) := by decide +kernel
theorem dX10_hoops_200 : decode cX10_hoops 200 = .ok (.laload, 1) := by decide +kernel
theorem dX10_hoops_201 : decode cX10_hoops 201 = .ok (.l2i, 1) := by decide +kernel
theorem dX10_hoops_202 : decode cX10_hoops 202 = .ok (.invokevirtual 121, 3) := by decide +kernel
theorem dX10_hoops_205 : decode cX10_hoops 205 = .ok (.iinc 4 1, 3) := by decide +kernel
theorem dX10_hoops_208 : decode cX10_hoops 208 = .ok (.goto (-139), 3) := by decide +kernel
theorem dX10_hoops_211 : decode cX10_hoops 211 = .ok (.iload 4, 2) := by decide +kernel
theorem dX10_hoops_213 : decode cX10_hoops 213 = .ok (.ireturn, 1) := by decide +kernel
theorem dX10_mend_0 : decode cX10_mend 0 = .ok (.iload_n 2, 1) := by decide +kernel
theorem dX10_mend_1 : decode cX10_mend 1 = .ok (.i2l, 1) := by decide +kernel
theorem dX10_mend_2 : decode cX10_mend 2 = .ok (.lconst 0, 1) := by decide +kernel
theorem dX10_mend_3 : decode cX10_mend 3 = .ok (.ldc2_w 131, 3) := by decide +kernel
theorem dX10_mend_6 : decode cX10_mend 6 = .ok (.invokestatic 101, 3) := by decide +kernel
theorem dX10_mend_9 : decode cX10_mend 9 = .ok (.ifCond .eq 86, 3) := by decide +kernel
theorem dX10_mend_12 : decode cX10_mend 12 = .ok (.aload_n 0, 1) := by decide +kernel
theorem dX10_mend_13 : decode cX10_mend 13 = .ok (.iload_n 1, 1) := by decide +kernel
theorem dX10_mend_14 : decode cX10_mend 14 = .ok (.invokevirtual 133, 3) := by decide +kernel
theorem dX10_mend_17 : decode cX10_mend 17 = .ok (.ifCond .eq 54, 3) := by decide +kernel
theorem dX10_mend_20 : decode cX10_mend 20 = .ok (.iload_n 2, 1) := by decide +kernel
theorem dX10_mend_21 : decode cX10_mend 21 = .ok (.iconst 2, 1) := by decide +kernel
theorem dX10_mend_22 : decode cX10_mend 22 = .ok (.if_icmp .ge 18, 3) := by decide +kernel
theorem dX10_mend_25 : decode cX10_mend 25 = .ok (.iload_n 3, 1) := by decide +kernel
theorem dX10_mend_26 : decode cX10_mend 26 = .ok (.i2l, 1) := by decide +kernel
theorem dX10_mend_27 : decode cX10_mend 27 = .ok (.lconst 1, 1) := by decide +kernel
theorem dX10_mend_28 : decode cX10_mend 28 = .ok (.ldc2_w 112, 3) := by decide +kernel
theorem dX10_mend_31 : decode cX10_mend 31 = .ok (.invokestatic 101, 3) := by decide +kernel
theorem dX10_mend_34 : decode cX10_mend 34 = .ok (.ifCond .eq 37, 3) := by decide +kernel
theorem dX10_mend_37 : decode cX10_mend 37 = .ok (.goto 30, 3) := by decide +kernel
theorem dX10_mend_40 : decode cX10_mend 40 = .ok (.iload_n 3, 1) := by decide +kernel
theorem dX10_mend_41 : decode cX10_mend 41 = .ok (.i2l, 1) := by decide +kernel
theorem dX10_mend_42 : decode cX10_mend 42 = .ok (.ldc2_w 114, 3) := by decide +kernel
theorem dX10_mend_45 : decode cX10_mend 45 = .ok (.ldc2_w 112, 3) := by decide +kernel
theorem dX10_mend_48 : decode cX10_mend 48 = .ok (.invokestatic 101, 3) := by decide +kernel
theorem dX10_mend_51 : decode cX10_mend 51 = .ok (.ifCond .eq 20, 3) := by decide +kernel
theorem dX10_mend_54 : decode cX10_mend 54 = .ok (.aload_n 0, 1) := by decide +kernel
theorem dX10_mend_55 : decode cX10_mend 55 = .ok (.getfield 25, 3) := by decide +kernel
theorem dX10_mend_58 : decode cX10_mend 58 = .ok (.iload_n 1, 1) := by decide +kernel
theorem dX10_mend_59 : decode cX10_mend 59 = .ok (.iaload, 1) := by decide +kernel
theorem dX10_mend_60 : decode cX10_mend 60 = .ok (.ifCond .gt 7, 3) := by decide +kernel
theorem dX10_mend_63 : decode cX10_mend 63 = .ok (.iload_n 3, 1) := by decide +kernel
theorem dX10_mend_64 : decode cX10_mend 64 = .ok (.ifCond .ne 7, 3) := by decide +kernel
theorem dX10_mend_67 : decode cX10_mend 67 = .ok (.iconst 1, 1) := by decide +kernel
theorem dX10_mend_68 : decode cX10_mend 68 = .ok (.goto 4, 3) := by decide +kernel
theorem dX10_mend_71 : decode cX10_mend 71 = .ok (.iconst 0, 1) := by decide +kernel
theorem dX10_mend_72 : decode cX10_mend 72 = .ok (.istore 4, 2) := by decide +kernel
theorem dX10_mend_74 : decode cX10_mend 74 = .ok (.iload 4, 2) := by decide +kernel
theorem dX10_mend_76 : decode cX10_mend 76 = .ok (.ifCond .eq 16, 3) := by decide +kernel
theorem dX10_mend_79 : decode cX10_mend 79 = .ok (.aload_n 0, 1) := by decide +kernel
theorem dX10_mend_80 : decode cX10_mend 80 = .ok (.iconst 5, 1) := by decide +kernel
theorem dX10_mend_81 : decode cX10_mend 81 = .ok (.iload_n 2, 1) := by decide +kernel
theorem dX10_mend_82 : decode cX10_mend 82 = .ok (.imul, 1) := by decide +kernel
theorem dX10_mend_83 : decode cX10_mend 83 = .ok (.iload_n 1, 1) := by decide +kernel
theorem dX10_mend_84 : decode cX10_mend 84 = .ok (.iadd, 1) := by decide +kernel
theorem dX10_mend_85 : decode cX10_mend 85 = .ok (.iload_n 3, 1) := by decide +kernel
theorem dX10_mend_86 : decode cX10_mend 86 = .ok (.invokevirtual 136, 3) := by decide +kernel
theorem dX10_mend_89 : decode cX10_mend 89 = .ok (.goto 5, 3) := by decide +kernel
theorem dX10_mend_92 : decode cX10_mend 92 = .ok (.ldc 140, 2) := by decide +kernel
theorem dX10_mend_94 : decode cX10_mend 94 = .ok (.ireturn, 1) := by decide +kernel
theorem dX10_mend_95 : decode cX10_mend 95 = .ok (.iload_n 1, 1) := by decide +kernel
theorem dX10_mend_96 : decode cX10_mend 96 = .ok (.ifCond .ne 17, 3) := by decide +kernel
theorem dX10_mend_99 : decode cX10_mend 99 = .ok (.iload_n 2, 1) := by decide +kernel
theorem dX10_mend_100 : decode cX10_mend 100 = .ok (.i2l, 1) := by decide +kernel
theorem dX10_mend_101 : decode cX10_mend 101 = .ok (.ldc2_w 141, 3) := by decide +kernel
theorem dX10_mend_104 : decode cX10_mend 104 = .ok (.ldc2_w 143, 3) := by decide +kernel
theorem dX10_mend_107 : decode cX10_mend 107 = .ok (.invokestatic 101, 3) := by decide +kernel
theorem dX10_mend_110 : decode cX10_mend 110 = .ok (.ifCond .ne 6, 3) := by decide +kernel
theorem dX10_mend_113 : decode cX10_mend 113 = .ok (.ldc 140, 2) := by decide +kernel
theorem dX10_mend_115 : decode cX10_mend 115 = .ok (.ireturn, 1) := by decide +kernel
theorem dX10_mend_116 : decode cX10_mend 116 = .ok (.iload_n 2, 1) := by decide +kernel
theorem dX10_mend_117 : decode cX10_mend 117 = .ok (.iconst 4, 1) := by decide +kernel
theorem dX10_mend_118 : decode cX10_mend 118 = .ok (.if_icmp .ne 7, 3) := by decide +kernel
theorem dX10_mend_121 : decode cX10_mend 121 = .ok (.iconst 2, 1) := by decide +kernel
theorem dX10_mend_122 : decode cX10_mend 122 = .ok (.goto 4, 3) := by decide +kernel
theorem dX10_mend_125 : decode cX10_mend 125 = .ok (.iconst 0, 1) := by decide +kernel
theorem dX10_mend_126 : decode cX10_mend 126 = .ok (.istore 4, 2) := by decide +kernel
theorem dX10_mend_128 : decode cX10_mend 128 = .ok (.iload_n 2, 1) := by decide +kernel
theorem dX10_mend_129 : decode cX10_mend 129 = .ok (.iconst 3, 1) := by decide +kernel
theorem dX10_mend_130 : decode cX10_mend 130 = .ok (.if_icmp .ne 7, 3) := by decide +kernel
theorem dX10_mend_133 : decode cX10_mend 133 = .ok (.iconst 3, 1) := by decide +kernel
theorem dX10_mend_134 : decode cX10_mend 134 = .ok (.goto 42, 3) := by decide +kernel
theorem dX10_mend_137 : decode cX10_mend 137 = .ok (.iload_n 2, 1) := by decide +kernel
theorem dX10_mend_138 : decode cX10_mend 138 = .ok (.iconst 4, 1) := by decide +kernel
theorem dX10_mend_139 : decode cX10_mend 139 = .ok (.if_icmp .ne 8, 3) := by decide +kernel
theorem dX10_mend_142 : decode cX10_mend 142 = .ok (.bipush 24, 2) := by decide +kernel
theorem dX10_mend_144 : decode cX10_mend 144 = .ok (.goto 32, 3) := by decide +kernel
theorem dX10_mend_147 : decode cX10_mend 147 = .ok (.iload_n 2, 1) := by decide +kernel
theorem dX10_mend_148 : decode cX10_mend 148 = .ok (.iconst 5, 1) := by decide +kernel
theorem dX10_mend_149 : decode cX10_mend 149 = .ok (.if_icmp .ne 15, 3) := by decide +kernel
theorem dX10_mend_152 : decode cX10_mend 152 = .ok (.aload_n 0, 1) := by decide +kernel
theorem dX10_mend_153 : decode cX10_mend 153 = .ok (.getfield 9, 3) := by decide +kernel
theorem dX10_mend_156 : decode cX10_mend 156 = .ok (.bipush 16, 2) := by decide +kernel
theorem dX10_mend_158 : decode cX10_mend 158 = .ok (.iaload, 1) := by decide +kernel
theorem dX10_mend_159 : decode cX10_mend 159 = .ok (.iconst 1, 1) := by decide +kernel
theorem dX10_mend_160 : decode cX10_mend 160 = .ok (.isub, 1) := by decide +kernel
theorem dX10_mend_161 : decode cX10_mend 161 = .ok (.goto 15, 3) := by decide +kernel
theorem dX10_mend_164 : decode cX10_mend 164 = .ok (.iload_n 2, 1) := by decide +kernel
theorem dX10_mend_165 : decode cX10_mend 165 = .ok (.bipush 6, 2) := by decide +kernel
theorem dX10_mend_167 : decode cX10_mend 167 = .ok (.if_icmp .ne 7, 3) := by decide +kernel
theorem dX10_mend_170 : decode cX10_mend 170 = .ok (.iconst 5, 1) := by decide +kernel
theorem dX10_mend_171 : decode cX10_mend 171 = .ok (.goto 5, 3) := by decide +kernel
theorem dX10_mend_174 : decode cX10_mend 174 = .ok (.bipush 12, 2) := by decide +kernel
theorem dX10_mend_176 : decode cX10_mend 176 = .ok (.istore 5, 2) := by decide +kernel
theorem dX10_mend_178 : decode cX10_mend 178 = .ok (.iload_n 3, 1) := by decide +kernel
theorem dX10_mend_179 : decode cX10_mend 179 = .ok (.i2l, 1) := by decide +kernel
theorem dX10_mend_180 : decode cX10_mend 180 = .ok (.iload 4, 2) := by decide +kernel
theorem dX10_mend_182 : decode cX10_mend 182 = .ok (.i2l, 1) := by decide +kernel
theorem dX10_mend_183 : decode cX10_mend 183 = .ok (.iload 5, 2) := by decide +kernel
theorem dX10_mend_185 : decode cX10_mend 185 = .ok (.i2l, 1) := by decide +kernel
theorem dX10_mend_186 : decode cX10_mend 186 = .ok (.invokestatic 101, 3) := by decide +kernel
theorem dX10_mend_189 : decode cX10_mend 189 = .ok (.ifCond .eq 17, 3) := by decide +kernel
theorem dX10_mend_192 : decode cX10_mend 192 = .ok (.aload_n 0, 1) := by decide +kernel
theorem dX10_mend_193 : decode cX10_mend 193 = .ok (.bipush 15, 2) := by decide +kernel
theorem dX10_mend_195 : decode cX10_mend 195 = .ok (.iload_n 2, 1) := by decide +kernel
theorem dX10_mend_196 : decode cX10_mend 196 = .ok (.iadd, 1) := by decide +kernel
theorem dX10_mend_197 : decode cX10_mend 197 = .ok (.iconst 3, 1) := by decide +kernel
theorem dX10_mend_198 : decode cX10_mend 198 = .ok (.isub, 1) := by decide +kernel
theorem dX10_mend_199 : decode cX10_mend 199 = .ok (.iload_n 3, 1) := by decide +kernel
theorem dX10_mend_200 : decode cX10_mend 200 = .ok (.invokevirtual 136, 3) := by decide +kernel
theorem dX10_mend_203 : decode cX10_mend 203 = .ok (.goto 5, 3) := by decide +kernel
theorem dX10_mend_206 : decode cX10_mend 206 = .ok (.ldc 140, 2) := by decide +kernel
theorem dX10_mend_208 : decode cX10_mend 208 = .ok (.ireturn, 1) := by decide +kernel
theorem dX10_needOf_0 : decode cX10_needOf 0 = .ok (.bipush 10, 2) := by decide +kernel
theorem dX10_needOf_2 : decode cX10_needOf 2 = .ok (.aload_n 0, 1) := by decide +kernel
theorem dX10_needOf_3 : decode cX10_needOf 3 = .ok (.getfield 9, 3) := by decide +kernel
theorem dX10_needOf_6 : decode cX10_needOf 6 = .ok (.iload_n 1, 1) := by decide +kernel
theorem dX10_needOf_7 : decode cX10_needOf 7 = .ok (.iaload, 1) := by decide +kernel
theorem dX10_needOf_8 : decode cX10_needOf 8 = .ok (.isub, 1) := by decide +kernel
theorem dX10_needOf_9 : decode cX10_needOf 9 = .ok (.iconst 2, 1) := by decide +kernel
theorem dX10_needOf_10 : decode cX10_needOf 10 = .ok (.idiv, 1) := by decide +kernel
theorem dX10_needOf_11 : decode cX10_needOf 11 = .ok (.iconst 1, 1) := by decide +kernel
theorem dX10_needOf_12 : decode cX10_needOf 12 = .ok (.iadd, 1) := by decide +kernel
theorem dX10_needOf_13 : decode cX10_needOf 13 = .ok (.ireturn, 1) := by decide +kernel
theorem dX10_of_0 : decode cX10_of 0 = .ok (.iload_n 2, 1) := by decide +kernel
theorem dX10_of_1 : decode cX10_of 1 = .ok (.i2l, 1) := by decide +kernel
theorem dX10_of_2 : decode cX10_of 2 = .ok (.lconst 0, 1) := by decide +kernel
theorem dX10_of_3 : decode cX10_of 3 = .ok (.ldc2_w 129, 3) := by decide +kernel
theorem dX10_of_6 : decode cX10_of 6 = .ok (.invokestatic 101, 3) := by decide +kernel
theorem dX10_of_9 : decode cX10_of 9 = .ok (.ifCond .eq 66, 3) := by decide +kernel
theorem dX10_of_12 : decode cX10_of 12 = .ok (.aload_n 0, 1) := by decide +kernel
theorem dX10_of_13 : decode cX10_of 13 = .ok (.iload_n 1, 1) := by decide +kernel
theorem dX10_of_14 : decode cX10_of 14 = .ok (.invokevirtual 133, 3) := by decide +kernel
theorem dX10_of_17 : decode cX10_of 17 = .ok (.ifCond .ne 6, 3) := by decide +kernel
theorem dX10_of_20 : decode cX10_of 20 = .ok (.ldc 140, 2) := by decide +kernel
theorem dX10_of_22 : decode cX10_of 22 = .ok (.ireturn, 1) := by decide +kernel
theorem dX10_of_23 : decode cX10_of 23 = .ok (.iload_n 2, 1) := by decide +kernel
theorem dX10_of_24 : decode cX10_of 24 = .ok (.iconst 3, 1) := by decide +kernel
theorem dX10_of_25 : decode cX10_of 25 = .ok (.if_icmp .ge 16, 3) := by decide +kernel
theorem dX10_of_28 : decode cX10_of 28 = .ok (.aload_n 0, 1) := by decide +kernel
theorem dX10_of_29 : decode cX10_of 29 = .ok (.getfield 9, 3) := by decide +kernel
theorem dX10_of_32 : decode cX10_of 32 = .ok (.iconst 5, 1) := by decide +kernel
theorem dX10_of_33 : decode cX10_of 33 = .ok (.iload_n 2, 1) := by decide +kernel
theorem dX10_of_34 : decode cX10_of 34 = .ok (.imul, 1) := by decide +kernel
theorem dX10_of_35 : decode cX10_of 35 = .ok (.iload_n 1, 1) := by decide +kernel
theorem dX10_of_36 : decode cX10_of 36 = .ok (.iadd, 1) := by decide +kernel
theorem dX10_of_37 : decode cX10_of 37 = .ok (.iaload, 1) := by decide +kernel
theorem dX10_of_38 : decode cX10_of 38 = .ok (.goto 36, 3) := by decide +kernel
theorem dX10_of_41 : decode cX10_of 41 = .ok (.iload_n 2, 1) := by decide +kernel
theorem dX10_of_42 : decode cX10_of 42 = .ok (.iconst 3, 1) := by decide +kernel
theorem dX10_of_43 : decode cX10_of 43 = .ok (.if_icmp .ne 12, 3) := by decide +kernel
theorem dX10_of_46 : decode cX10_of 46 = .ok (.aload_n 0, 1) := by decide +kernel
theorem dX10_of_47 : decode cX10_of 47 = .ok (.getfield 22, 3) := by decide +kernel
theorem dX10_of_50 : decode cX10_of 50 = .ok (.iload_n 1, 1) := by decide +kernel
theorem dX10_of_51 : decode cX10_of 51 = .ok (.iaload, 1) := by decide +kernel
theorem dX10_of_52 : decode cX10_of 52 = .ok (.goto 22, 3) := by decide +kernel
theorem dX10_of_55 : decode cX10_of 55 = .ok (.iload_n 2, 1) := by decide +kernel
theorem dX10_of_56 : decode cX10_of 56 = .ok (.iconst 4, 1) := by decide +kernel
theorem dX10_of_57 : decode cX10_of 57 = .ok (.if_icmp .ne 12, 3) := by decide +kernel
theorem dX10_of_60 : decode cX10_of 60 = .ok (.aload_n 0, 1) := by decide +kernel
theorem dX10_of_61 : decode cX10_of 61 = .ok (.getfield 25, 3) := by decide +kernel
theorem dX10_of_64 : decode cX10_of 64 = .ok (.iload_n 1, 1) := by decide +kernel
theorem dX10_of_65 : decode cX10_of 65 = .ok (.iaload, 1) := by decide +kernel
theorem dX10_of_66 : decode cX10_of 66 = .ok (.goto 8, 3) := by decide +kernel
theorem dX10_of_69 : decode cX10_of 69 = .ok (.aload_n 0, 1) := by decide +kernel
theorem dX10_of_70 : decode cX10_of 70 = .ok (.iload_n 1, 1) := by decide +kernel
theorem dX10_of_71 : decode cX10_of 71 = .ok (.invokevirtual 145, 3) := by decide +kernel
theorem dX10_of_74 : decode cX10_of 74 = .ok (.ireturn, 1) := by decide +kernel
theorem dX10_of_75 : decode cX10_of 75 = .ok (.iload_n 2, 1) := by decide +kernel
theorem dX10_of_76 : decode cX10_of 76 = .ok (.i2l, 1) := by decide +kernel
theorem dX10_of_77 : decode cX10_of 77 = .ok (.ldc2_w 97, 3) := by decide +kernel
theorem dX10_of_80 : decode cX10_of 80 = .ok (.ldc2_w 149, 3) := by decide +kernel
theorem dX10_of_83 : decode cX10_of 83 = .ok (.invokestatic 101, 3) := by decide +kernel
theorem dX10_of_86 : decode cX10_of 86 = .ok (.ifCond .eq 38, 3) := by decide +kernel
theorem dX10_of_89 : decode cX10_of 89 = .ok (.iload_n 1, 1) := by decide +kernel
theorem dX10_of_90 : decode cX10_of 90 = .ok (.ifCond .eq 8, 3) := by decide +kernel
theorem dX10_of_93 : decode cX10_of 93 = .ok (.ldc 140, 2) := by decide +kernel
theorem dX10_of_95 : decode cX10_of 95 = .ok (.goto 28, 3) := by decide +kernel
theorem dX10_of_98 : decode cX10_of 98 = .ok (.iload_n 2, 1) := by decide +kernel
theorem dX10_of_99 : decode cX10_of 99 = .ok (.bipush 15, 2) := by decide +kernel
theorem dX10_of_101 : decode cX10_of 101 = .ok (.if_icmp .ne 10, 3) := by decide +kernel
theorem dX10_of_104 : decode cX10_of 104 = .ok (.aload_n 0, 1) := by decide +kernel
theorem dX10_of_105 : decode cX10_of 105 = .ok (.getfield 151, 3) := by decide +kernel
theorem dX10_of_108 : decode cX10_of 108 = .ok (.goto 15, 3) := by decide +kernel
theorem dX10_of_111 : decode cX10_of 111 = .ok (.aload_n 0, 1) := by decide +kernel
theorem dX10_of_112 : decode cX10_of 112 = .ok (.getfield 9, 3) := by decide +kernel
theorem dX10_of_115 : decode cX10_of 115 = .ok (.bipush 15, 2) := by decide +kernel
theorem dX10_of_117 : decode cX10_of 117 = .ok (.iload_n 2, 1) := by decide +kernel
theorem dX10_of_118 : decode cX10_of 118 = .ok (.iadd, 1) := by decide +kernel
theorem dX10_of_119 : decode cX10_of 119 = .ok (.bipush 10, 2) := by decide +kernel
theorem dX10_of_121 : decode cX10_of 121 = .ok (.isub, 1) := by decide +kernel
theorem dX10_of_122 : decode cX10_of 122 = .ok (.iaload, 1) := by decide +kernel
theorem dX10_of_123 : decode cX10_of 123 = .ok (.ireturn, 1) := by decide +kernel
theorem dX10_of_124 : decode cX10_of 124 = .ok (.iload_n 2, 1) := by decide +kernel
theorem dX10_of_125 : decode cX10_of 125 = .ok (.i2l, 1) := by decide +kernel
theorem dX10_of_126 : decode cX10_of 126 = .ok (.ldc2_w 154, 3) := by decide +kernel
theorem dX10_of_129 : decode cX10_of 129 = .ok (.ldc2_w 156, 3) := by decide +kernel
theorem dX10_of_132 : decode cX10_of 132 = .ok (.invokestatic 101, 3) := by decide +kernel
theorem dX10_of_135 : decode cX10_of 135 = .ok (.ifCond .eq 15, 3) := by decide +kernel
theorem dX10_of_138 : decode cX10_of 138 = .ok (.iload_n 1, 1) := by decide +kernel
theorem dX10_of_139 : decode cX10_of 139 = .ok (.i2l, 1) := by decide +kernel
theorem dX10_of_140 : decode cX10_of 140 = .ok (.lconst 0, 1) := by decide +kernel
theorem dX10_of_141 : decode cX10_of 141 = .ok (.ldc2_w 158, 3) := by decide +kernel
theorem dX10_of_144 : decode cX10_of 144 = .ok (.invokestatic 101, 3) := by decide +kernel
theorem dX10_of_147 : decode cX10_of 147 = .ok (.ifCond .ne 8, 3) := by decide +kernel
theorem dX10_of_150 : decode cX10_of 150 = .ok (.ldc 140, 2) := by decide +kernel
theorem dX10_of_152 : decode cX10_of 152 = .ok (.goto 24, 3) := by decide +kernel
theorem dX10_of_155 : decode cX10_of 155 = .ok (.iload_n 2, 1) := by decide +kernel
theorem dX10_of_156 : decode cX10_of 156 = .ok (.bipush 20, 2) := by decide +kernel
theorem dX10_of_158 : decode cX10_of 158 = .ok (.if_icmp .ne 12, 3) := by decide +kernel
theorem dX10_of_161 : decode cX10_of 161 = .ok (.aload_n 0, 1) := by decide +kernel
theorem dX10_of_162 : decode cX10_of 162 = .ok (.getfield 50, 3) := by decide +kernel
theorem dX10_of_165 : decode cX10_of 165 = .ok (.iload_n 1, 1) := by decide +kernel
theorem dX10_of_166 : decode cX10_of 166 = .ok (.iaload, 1) := by decide +kernel
theorem dX10_of_167 : decode cX10_of 167 = .ok (.goto 9, 3) := by decide +kernel
theorem dX10_of_170 : decode cX10_of 170 = .ok (.aload_n 0, 1) := by decide +kernel
theorem dX10_of_171 : decode cX10_of 171 = .ok (.getfield 53, 3) := by decide +kernel
theorem dX10_of_174 : decode cX10_of 174 = .ok (.iload_n 1, 1) := by decide +kernel
theorem dX10_of_175 : decode cX10_of 175 = .ok (.iaload, 1) := by decide +kernel
theorem dX10_of_176 : decode cX10_of 176 = .ok (.ireturn, 1) := by decide +kernel
theorem dX10_feed_0 : decode cX10_feed 0 = .ok (.iload_n 1, 1) := by decide +kernel
theorem dX10_feed_1 : decode cX10_feed 1 = .ok (.i2l, 1) := by decide +kernel
theorem dX10_feed_2 : decode cX10_feed 2 = .ok (.lconst 0, 1) := by decide +kernel
theorem dX10_feed_3 : decode cX10_feed 3 = .ok (.ldc2_w 160, 3) := by decide +kernel
theorem dX10_feed_6 : decode cX10_feed 6 = .ok (.invokestatic 101, 3) := by decide +kernel
theorem dX10_feed_9 : decode cX10_feed 9 = .ok (.ifCond .ne 5, 3) := by decide +kernel
theorem dX10_feed_12 : decode cX10_feed 12 = .ok (.iconst (-1), 1) := by decide +kernel
theorem dX10_feed_13 : decode cX10_feed 13 = .ok (.ireturn, 1) := by decide +kernel
theorem dX10_feed_14 : decode cX10_feed 14 = .ok (.aload_n 0, 1) := by decide +kernel
theorem dX10_feed_15 : decode cX10_feed 15 = .ok (.getfield 162, 3) := by decide +kernel
theorem dX10_feed_18 : decode cX10_feed 18 = .ok (.bipush 120, 2) := by decide +kernel
theorem dX10_feed_20 : decode cX10_feed 20 = .ok (.if_icmp .ne 6, 3) := by decide +kernel
theorem dX10_feed_23 : decode cX10_feed 23 = .ok (.bipush (-3), 2) := by decide +kernel
theorem dX10_feed_25 : decode cX10_feed 25 = .ok (.ireturn, 1) := by decide +kernel
theorem dX10_feed_26 : decode cX10_feed 26 = .ok (.aload_n 0, 1) := by decide +kernel
theorem dX10_feed_27 : decode cX10_feed 27 = .ok (.getfield 28, 3) := by decide +kernel
theorem dX10_feed_30 : decode cX10_feed 30 = .ok (.aload_n 0, 1) := by decide +kernel
theorem dX10_feed_31 : decode cX10_feed 31 = .ok (.getfield 162, 3) := by decide +kernel
theorem dX10_feed_34 : decode cX10_feed 34 = .ok (.iload_n 1, 1) := by decide +kernel
theorem dX10_feed_35 : decode cX10_feed 35 = .ok (.iastore, 1) := by decide +kernel
theorem dX10_feed_36 : decode cX10_feed 36 = .ok (.aload_n 0, 1) := by decide +kernel
theorem dX10_feed_37 : decode cX10_feed 37 = .ok (.dup, 1) := by decide +kernel
theorem dX10_feed_38 : decode cX10_feed 38 = .ok (.getfield 162, 3) := by decide +kernel
theorem dX10_feed_41 : decode cX10_feed 41 = .ok (.iconst 1, 1) := by decide +kernel
theorem dX10_feed_42 : decode cX10_feed 42 = .ok (.iadd, 1) := by decide +kernel
theorem dX10_feed_43 : decode cX10_feed 43 = .ok (.putfield 162, 3) := by decide +kernel
theorem dX10_feed_46 : decode cX10_feed 46 = .ok (.aload_n 0, 1) := by decide +kernel
theorem dX10_feed_47 : decode cX10_feed 47 = .ok (.getfield 162, 3) := by decide +kernel
theorem dX10_feed_50 : decode cX10_feed 50 = .ok (.ireturn, 1) := by decide +kernel
theorem dX10_byteAt_0 : decode cX10_byteAt 0 = .ok (.aload_n 0, 1) := by decide +kernel
theorem dX10_byteAt_1 : decode cX10_byteAt 1 = .ok (.getfield 165, 3) := by decide +kernel
theorem dX10_byteAt_4 : decode cX10_byteAt 4 = .ok (.aload_n 0, 1) := by decide +kernel
theorem dX10_byteAt_5 : decode cX10_byteAt 5 = .ok (.getfield 168, 3) := by decide +kernel
theorem dX10_byteAt_8 : decode cX10_byteAt 8 = .ok (.if_icmp .ge 39, 3) := by decide +kernel
theorem dX10_byteAt_11 : decode cX10_byteAt 11 = .ok (.aload_n 0, 1) := by decide +kernel
theorem dX10_byteAt_12 : decode cX10_byteAt 12 = .ok (.getfield 171, 3) := by decide +kernel
theorem dX10_byteAt_15 : decode cX10_byteAt 15 = .ok (.ifCond .ge 15, 3) := by decide +kernel
theorem dX10_byteAt_18 : decode cX10_byteAt 18 = .ok (.aload_n 0, 1) := by decide +kernel
theorem dX10_byteAt_19 : decode cX10_byteAt 19 = .ok (.getfield 28, 3) := by decide +kernel
theorem dX10_byteAt_22 : decode cX10_byteAt 22 = .ok (.aload_n 0, 1) := by decide +kernel
theorem dX10_byteAt_23 : decode cX10_byteAt 23 = .ok (.getfield 165, 3) := by decide +kernel
theorem dX10_byteAt_26 : decode cX10_byteAt 26 = .ok (.iaload, 1) := by decide +kernel
theorem dX10_byteAt_27 : decode cX10_byteAt 27 = .ok (.goto 21, 3) := by decide +kernel
theorem dX10_byteAt_30 : decode cX10_byteAt 30 = .ok (.aload_n 0, 1) := by decide +kernel
theorem dX10_byteAt_31 : decode cX10_byteAt 31 = .ok (.getfield 31, 3) := by decide +kernel
theorem dX10_byteAt_34 : decode cX10_byteAt 34 = .ok (.aload_n 0, 1) := by decide +kernel
theorem dX10_byteAt_35 : decode cX10_byteAt 35 = .ok (.getfield 171, 3) := by decide +kernel
theorem dX10_byteAt_38 : decode cX10_byteAt 38 = .ok (.aload_n 0, 1) := by decide +kernel
theorem dX10_byteAt_39 : decode cX10_byteAt 39 = .ok (.getfield 165, 3) := by decide +kernel
theorem dX10_byteAt_42 : decode cX10_byteAt 42 = .ok (.iadd, 1) := by decide +kernel
theorem dX10_byteAt_43 : decode cX10_byteAt 43 = .ok (.iaload, 1) := by decide +kernel
theorem dX10_byteAt_44 : decode cX10_byteAt 44 = .ok (.goto 4, 3) := by decide +kernel
theorem dX10_byteAt_47 : decode cX10_byteAt 47 = .ok (.iconst 0, 1) := by decide +kernel
theorem dX10_byteAt_48 : decode cX10_byteAt 48 = .ok (.ireturn, 1) := by decide +kernel
theorem dX10_wrong_0 : decode cX10_wrong 0 = .ok (.aload_n 0, 1) := by decide +kernel
theorem dX10_wrong_1 : decode cX10_wrong 1 = .ok (.aload_n 0, 1) := by decide +kernel
theorem dX10_wrong_2 : decode cX10_wrong 2 = .ok (.getfield 174, 3) := by decide +kernel
theorem dX10_wrong_5 : decode cX10_wrong 5 = .ok (.ifCond .ge 10, 3) := by decide +kernel
theorem dX10_wrong_8 : decode cX10_wrong 8 = .ok (.aload_n 0, 1) := by decide +kernel
theorem dX10_wrong_9 : decode cX10_wrong 9 = .ok (.getfield 165, 3) := by decide +kernel
theorem dX10_wrong_12 : decode cX10_wrong 12 = .ok (.goto 7, 3) := by decide +kernel
theorem dX10_wrong_15 : decode cX10_wrong 15 = .ok (.aload_n 0, 1) := by decide +kernel
theorem dX10_wrong_16 : decode cX10_wrong 16 = .ok (.getfield 174, 3) := by decide +kernel
theorem dX10_wrong_19 : decode cX10_wrong 19 = .ok (.putfield 174, 3) := by decide +kernel
theorem dX10_wrong_22 : decode cX10_wrong 22 = .ok (.iconst 0, 1) := by decide +kernel
theorem dX10_wrong_23 : decode cX10_wrong 23 = .ok (.ireturn, 1) := by decide +kernel
theorem dX10_takes_0 : decode cX10_takes 0 = .ok (.aload_n 0, 1) := by decide +kernel
theorem dX10_takes_1 : decode cX10_takes 1 = .ok (.getfield 174, 3) := by decide +kernel
theorem dX10_takes_4 : decode cX10_takes 4 = .ok (.ifCond .ge 11, 3) := by decide +kernel
theorem dX10_takes_7 : decode cX10_takes 7 = .ok (.aload_n 0, 1) := by decide +kernel
theorem dX10_takes_8 : decode cX10_takes 8 = .ok (.invokevirtual 177, 3) := by decide +kernel
theorem dX10_takes_11 : decode cX10_takes 11 = .ok (.iload_n 1, 1) := by decide +kernel
theorem dX10_takes_12 : decode cX10_takes 12 = .ok (.if_icmp .eq 5, 3) := by decide +kernel
theorem dX10_takes_15 : decode cX10_takes 15 = .ok (.iconst 0, 1) := by decide +kernel
theorem dX10_takes_16 : decode cX10_takes 16 = .ok (.ireturn, 1) := by decide +kernel
theorem dX10_takes_17 : decode cX10_takes 17 = .ok (.aload_n 0, 1) := by decide +kernel
theorem dX10_takes_18 : decode cX10_takes 18 = .ok (.dup, 1) := by decide +kernel
theorem dX10_takes_19 : decode cX10_takes 19 = .ok (.getfield 165, 3) := by decide +kernel
theorem dX10_takes_22 : decode cX10_takes 22 = .ok (.iconst 1, 1) := by decide +kernel
theorem dX10_takes_23 : decode cX10_takes 23 = .ok (.iadd, 1) := by decide +kernel
theorem dX10_takes_24 : decode cX10_takes 24 = .ok (.putfield 165, 3) := by decide +kernel
theorem dX10_takes_27 : decode cX10_takes 27 = .ok (.iconst 1, 1) := by decide +kernel
theorem dX10_takes_28 : decode cX10_takes 28 = .ok (.ireturn, 1) := by decide +kernel
theorem dX10_either_0 : decode cX10_either 0 = .ok (.aload_n 0, 1) := by decide +kernel
theorem dX10_either_1 : decode cX10_either 1 = .ok (.invokevirtual 181, 3) := by decide +kernel
theorem dX10_either_4 : decode cX10_either 4 = .ok (.istore_n 1, 1) := by decide +kernel
theorem dX10_either_5 : decode cX10_either 5 = .ok (.aload_n 0, 1) := by decide +kernel
theorem dX10_either_6 : decode cX10_either 6 = .ok (.bipush 124, 2) := by decide +kernel
theorem dX10_either_8 : decode cX10_either 8 = .ok (.invokevirtual 184, 3) := by decide +kernel
theorem dX10_either_11 : decode cX10_either 11 = .ok (.ifCond .eq 25, 3) := by decide +kernel
theorem dX10_either_14 : decode cX10_either 14 = .ok (.aload_n 0, 1) := by decide +kernel
theorem dX10_either_15 : decode cX10_either 15 = .ok (.invokevirtual 181, 3) := by decide +kernel
theorem dX10_either_18 : decode cX10_either 18 = .ok (.istore_n 2, 1) := by decide +kernel
theorem dX10_either_19 : decode cX10_either 19 = .ok (.iload_n 1, 1) := by decide +kernel
theorem dX10_either_20 : decode cX10_either 20 = .ok (.ifCond .ne 7, 3) := by decide +kernel
theorem dX10_either_23 : decode cX10_either 23 = .ok (.iload_n 2, 1) := by decide +kernel
theorem dX10_either_24 : decode cX10_either 24 = .ok (.ifCond .eq 7, 3) := by decide +kernel
theorem dX10_either_27 : decode cX10_either 27 = .ok (.iconst 1, 1) := by decide +kernel
theorem dX10_either_28 : decode cX10_either 28 = .ok (.goto 4, 3) := by decide +kernel
theorem dX10_either_31 : decode cX10_either 31 = .ok (.iconst 0, 1) := by decide +kernel
theorem dX10_either_32 : decode cX10_either 32 = .ok (.istore_n 1, 1) := by decide +kernel
theorem dX10_either_33 : decode cX10_either 33 = .ok (.goto (-28), 3) := by decide +kernel
theorem dX10_either_36 : decode cX10_either 36 = .ok (.iload_n 1, 1) := by decide +kernel
theorem dX10_either_37 : decode cX10_either 37 = .ok (.ireturn, 1) := by decide +kernel
theorem dX10_both_0 : decode cX10_both 0 = .ok (.aload_n 0, 1) := by decide +kernel
theorem dX10_both_1 : decode cX10_both 1 = .ok (.invokevirtual 187, 3) := by decide +kernel
theorem dX10_both_4 : decode cX10_both 4 = .ok (.istore_n 1, 1) := by decide +kernel
theorem dX10_both_5 : decode cX10_both 5 = .ok (.aload_n 0, 1) := by decide +kernel
theorem dX10_both_6 : decode cX10_both 6 = .ok (.bipush 38, 2) := by decide +kernel
theorem dX10_both_8 : decode cX10_both 8 = .ok (.invokevirtual 184, 3) := by decide +kernel
theorem dX10_both_11 : decode cX10_both 11 = .ok (.ifCond .eq 25, 3) := by decide +kernel
theorem dX10_both_14 : decode cX10_both 14 = .ok (.aload_n 0, 1) := by decide +kernel
theorem dX10_both_15 : decode cX10_both 15 = .ok (.invokevirtual 187, 3) := by decide +kernel
theorem dX10_both_18 : decode cX10_both 18 = .ok (.istore_n 2, 1) := by decide +kernel
theorem dX10_both_19 : decode cX10_both 19 = .ok (.iload_n 1, 1) := by decide +kernel
theorem dX10_both_20 : decode cX10_both 20 = .ok (.ifCond .eq 11, 3) := by decide +kernel
theorem dX10_both_23 : decode cX10_both 23 = .ok (.iload_n 2, 1) := by decide +kernel
theorem dX10_both_24 : decode cX10_both 24 = .ok (.ifCond .eq 7, 3) := by decide +kernel
theorem dX10_both_27 : decode cX10_both 27 = .ok (.iconst 1, 1) := by decide +kernel
theorem dX10_both_28 : decode cX10_both 28 = .ok (.goto 4, 3) := by decide +kernel
theorem dX10_both_31 : decode cX10_both 31 = .ok (.iconst 0, 1) := by decide +kernel
theorem dX10_both_32 : decode cX10_both 32 = .ok (.istore_n 1, 1) := by decide +kernel
theorem dX10_both_33 : decode cX10_both 33 = .ok (.goto (-28), 3) := by decide +kernel
theorem dX10_both_36 : decode cX10_both 36 = .ok (.iload_n 1, 1) := by decide +kernel
theorem dX10_both_37 : decode cX10_both 37 = .ok (.ireturn, 1) := by decide +kernel
theorem dX10_compared_0 : decode cX10_compared 0 = .ok (.aload_n 0, 1) := by decide +kernel
theorem dX10_compared_1 : decode cX10_compared 1 = .ok (.invokevirtual 190, 3) := by decide +kernel
theorem dX10_compared_4 : decode cX10_compared 4 = .ok (.istore_n 1, 1) := by decide +kernel
theorem dX10_compared_5 : decode cX10_compared 5 = .ok (.aload_n 0, 1) := by decide +kernel
theorem dX10_compared_6 : decode cX10_compared 6 = .ok (.invokevirtual 177, 3) := by decide +kernel
theorem dX10_compared_9 : decode cX10_compared 9 = .ok (.istore_n 2, 1) := by decide +kernel
theorem dX10_compared_10 : decode cX10_compared 10 = .ok (.aload_n 0, 1) := by decide +kernel
theorem dX10_compared_11 : decode cX10_compared 11 = .ok (.getfield 174, 3) := by decide +kernel
theorem dX10_compared_14 : decode cX10_compared 14 = .ok (.ifCond .ge 21, 3) := by decide +kernel
theorem dX10_compared_17 : decode cX10_compared 17 = .ok (.iload_n 2, 1) := by decide +kernel
theorem dX10_compared_18 : decode cX10_compared 18 = .ok (.bipush 60, 2) := by decide +kernel
theorem dX10_compared_20 : decode cX10_compared 20 = .ok (.if_icmp .eq 17, 3) := by decide +kernel
theorem dX10_compared_23 : decode cX10_compared 23 = .ok (.iload_n 2, 1) := by decide +kernel
theorem dX10_compared_24 : decode cX10_compared 24 = .ok (.bipush 61, 2) := by decide +kernel
theorem dX10_compared_26 : decode cX10_compared 26 = .ok (.if_icmp .eq 11, 3) := by decide +kernel
theorem dX10_compared_29 : decode cX10_compared 29 = .ok (.iload_n 2, 1) := by decide +kernel
theorem dX10_compared_30 : decode cX10_compared 30 = .ok (.bipush 62, 2) := by decide +kernel
theorem dX10_compared_32 : decode cX10_compared 32 = .ok (.if_icmp .eq 5, 3) := by decide +kernel
theorem dX10_compared_35 : decode cX10_compared 35 = .ok (.iload_n 1, 1) := by decide +kernel
theorem dX10_compared_36 : decode cX10_compared 36 = .ok (.ireturn, 1) := by decide +kernel
theorem dX10_compared_37 : decode cX10_compared 37 = .ok (.aload_n 0, 1) := by decide +kernel
theorem dX10_compared_38 : decode cX10_compared 38 = .ok (.dup, 1) := by decide +kernel
theorem dX10_compared_39 : decode cX10_compared 39 = .ok (.getfield 165, 3) := by decide +kernel
theorem dX10_compared_42 : decode cX10_compared 42 = .ok (.iconst 1, 1) := by decide +kernel
theorem dX10_compared_43 : decode cX10_compared 43 = .ok (.iadd, 1) := by decide +kernel
theorem dX10_compared_44 : decode cX10_compared 44 = .ok (.putfield 165, 3) := by decide +kernel
theorem dX10_compared_47 : decode cX10_compared 47 = .ok (.aload_n 0, 1) := by decide +kernel
theorem dX10_compared_48 : decode cX10_compared 48 = .ok (.invokevirtual 190, 3) := by decide +kernel
theorem dX10_compared_51 : decode cX10_compared 51 = .ok (.istore_n 3, 1) := by decide +kernel
theorem dX10_compared_52 : decode cX10_compared 52 = .ok (.iload_n 2, 1) := by decide +kernel
theorem dX10_compared_53 : decode cX10_compared 53 = .ok (.bipush 60, 2) := by decide +kernel
theorem dX10_compared_55 : decode cX10_compared 55 = .ok (.if_icmp .ne 11, 3) := by decide +kernel
theorem dX10_compared_58 : decode cX10_compared 58 = .ok (.iload_n 1, 1) := by decide +kernel
theorem dX10_compared_59 : decode cX10_compared 59 = .ok (.iload_n 3, 1) := by decide +kernel
theorem dX10_compared_60 : decode cX10_compared 60 = .ok (.if_icmp .ge 29, 3) := by decide +kernel
theorem dX10_compared_63 : decode cX10_compared 63 = .ok (.goto 22, 3) := by decide +kernel
theorem dX10_compared_66 : decode cX10_compared 66 = .ok (.iload_n 2, 1) := by decide +kernel
theorem dX10_compared_67 : decode cX10_compared 67 = .ok (.bipush 61, 2) := by decide +kernel
theorem dX10_compared_69 : decode cX10_compared 69 = .ok (.if_icmp .ne 11, 3) := by decide +kernel
theorem dX10_compared_72 : decode cX10_compared 72 = .ok (.iload_n 1, 1) := by decide +kernel
theorem dX10_compared_73 : decode cX10_compared 73 = .ok (.iload_n 3, 1) := by decide +kernel
theorem dX10_compared_74 : decode cX10_compared 74 = .ok (.if_icmp .ne 15, 3) := by decide +kernel
theorem dX10_compared_77 : decode cX10_compared 77 = .ok (.goto 8, 3) := by decide +kernel
theorem dX10_compared_80 : decode cX10_compared 80 = .ok (.iload_n 1, 1) := by decide +kernel
theorem dX10_compared_81 : decode cX10_compared 81 = .ok (.iload_n 3, 1) := by decide +kernel
theorem dX10_compared_82 : decode cX10_compared 82 = .ok (.if_icmp .le 7, 3) := by decide +kernel
theorem dX10_compared_85 : decode cX10_compared 85 = .ok (.iconst 1, 1) := by decide +kernel
theorem dX10_compared_86 : decode cX10_compared 86 = .ok (.goto 4, 3) := by decide +kernel
theorem dX10_compared_89 : decode cX10_compared 89 = .ok (.iconst 0, 1) := by decide +kernel
theorem dX10_compared_90 : decode cX10_compared 90 = .ok (.ireturn, 1) := by decide +kernel
theorem dX10_sums_0 : decode cX10_sums 0 = .ok (.aload_n 0, 1) := by decide +kernel
theorem dX10_sums_1 : decode cX10_sums 1 = .ok (.invokevirtual 193, 3) := by decide +kernel
theorem dX10_sums_4 : decode cX10_sums 4 = .ok (.istore_n 1, 1) := by decide +kernel
theorem dX10_sums_5 : decode cX10_sums 5 = .ok (.aload_n 0, 1) := by decide +kernel
theorem dX10_sums_6 : decode cX10_sums 6 = .ok (.getfield 174, 3) := by decide +kernel
theorem dX10_sums_9 : decode cX10_sums 9 = .ok (.ifCond .ge 68, 3) := by decide +kernel
theorem dX10_sums_12 : decode cX10_sums 12 = .ok (.aload_n 0, 1) := by decide +kernel
theorem dX10_sums_13 : decode cX10_sums 13 = .ok (.invokevirtual 177, 3) := by decide +kernel
theorem dX10_sums_16 : decode cX10_sums 16 = .ok (.bipush 43, 2) := by decide +kernel
theorem dX10_sums_18 : decode cX10_sums 18 = .ok (.if_icmp .eq 12, 3) := by decide +kernel
theorem dX10_sums_21 : decode cX10_sums 21 = .ok (.aload_n 0, 1) := by decide +kernel
theorem dX10_sums_22 : decode cX10_sums 22 = .ok (.invokevirtual 177, 3) := by decide +kernel
theorem dX10_sums_25 : decode cX10_sums 25 = .ok (.bipush 45, 2) := by decide +kernel
theorem dX10_sums_27 : decode cX10_sums 27 = .ok (.if_icmp .ne 50, 3) := by decide +kernel
theorem dX10_sums_30 : decode cX10_sums 30 = .ok (.aload_n 0, 1) := by decide +kernel
theorem dX10_sums_31 : decode cX10_sums 31 = .ok (.invokevirtual 177, 3) := by decide +kernel
theorem dX10_sums_34 : decode cX10_sums 34 = .ok (.bipush 43, 2) := by decide +kernel
theorem dX10_sums_36 : decode cX10_sums 36 = .ok (.if_icmp .ne 7, 3) := by decide +kernel
theorem dX10_sums_39 : decode cX10_sums 39 = .ok (.iconst 1, 1) := by decide +kernel
theorem dX10_sums_40 : decode cX10_sums 40 = .ok (.goto 4, 3) := by decide +kernel
theorem dX10_sums_43 : decode cX10_sums 43 = .ok (.iconst 0, 1) := by decide +kernel
theorem dX10_sums_44 : decode cX10_sums 44 = .ok (.istore_n 2, 1) := by decide +kernel
theorem dX10_sums_45 : decode cX10_sums 45 = .ok (.aload_n 0, 1) := by decide +kernel
theorem dX10_sums_46 : decode cX10_sums 46 = .ok (.dup, 1) := by decide +kernel
theorem dX10_sums_47 : decode cX10_sums 47 = .ok (.getfield 165, 3) := by decide +kernel
theorem dX10_sums_50 : decode cX10_sums 50 = .ok (.iconst 1, 1) := by decide +kernel
theorem dX10_sums_51 : decode cX10_sums 51 = .ok (.iadd, 1) := by decide +kernel
theorem dX10_sums_52 : decode cX10_sums 52 = .ok (.putfield 165, 3) := by decide +kernel
theorem dX10_sums_55 : decode cX10_sums 55 = .ok (.aload_n 0, 1) := by decide +kernel
theorem dX10_sums_56 : decode cX10_sums 56 = .ok (.invokevirtual 193, 3) := by decide +kernel
theorem dX10_sums_59 : decode cX10_sums 59 = .ok (.istore_n 3, 1) := by decide +kernel
theorem dX10_sums_60 : decode cX10_sums 60 = .ok (.iload_n 2, 1) := by decide +kernel
theorem dX10_sums_61 : decode cX10_sums 61 = .ok (.ifCond .eq 9, 3) := by decide +kernel
theorem dX10_sums_64 : decode cX10_sums 64 = .ok (.iload_n 1, 1) := by decide +kernel
theorem dX10_sums_65 : decode cX10_sums 65 = .ok (.iload_n 3, 1) := by decide +kernel
theorem dX10_sums_66 : decode cX10_sums 66 = .ok (.iadd, 1) := by decide +kernel
theorem dX10_sums_67 : decode cX10_sums 67 = .ok (.goto 6, 3) := by decide +kernel
theorem dX10_sums_70 : decode cX10_sums 70 = .ok (.iload_n 1, 1) := by decide +kernel
theorem dX10_sums_71 : decode cX10_sums 71 = .ok (.iload_n 3, 1) := by decide +kernel
theorem dX10_sums_72 : decode cX10_sums 72 = .ok (.isub, 1) := by decide +kernel
theorem dX10_sums_73 : decode cX10_sums 73 = .ok (.istore_n 1, 1) := by decide +kernel
theorem dX10_sums_74 : decode cX10_sums 74 = .ok (.goto (-69), 3) := by decide +kernel
theorem dX10_sums_77 : decode cX10_sums 77 = .ok (.iload_n 1, 1) := by decide +kernel
theorem dX10_sums_78 : decode cX10_sums 78 = .ok (.ireturn, 1) := by decide +kernel
theorem dX10_product_0 : decode cX10_product 0 = .ok (.aload_n 0, 1) := by decide +kernel
theorem dX10_product_1 : decode cX10_product 1 = .ok (.invokevirtual 196, 3) := by decide +kernel
theorem dX10_product_4 : decode cX10_product 4 = .ok (.istore_n 1, 1) := by decide +kernel
theorem dX10_product_5 : decode cX10_product 5 = .ok (.aload_n 0, 1) := by decide +kernel
theorem dX10_product_6 : decode cX10_product 6 = .ok (.invokevirtual 177, 3) := by decide +kernel
theorem dX10_product_9 : decode cX10_product 9 = .ok (.istore_n 2, 1) := by decide +kernel
theorem dX10_product_10 : decode cX10_product 10 = .ok (.aload_n 0, 1) := by decide +kernel
theorem dX10_product_11 : decode cX10_product 11 = .ok (.getfield 174, 3) := by decide +kernel
theorem dX10_product_14 : decode cX10_product 14 = .ok (.ifCond .ge 80, 3) := by decide +kernel
theorem dX10_product_17 : decode cX10_product 17 = .ok (.iload_n 2, 1) := by decide +kernel
theorem dX10_product_18 : decode cX10_product 18 = .ok (.bipush 42, 2) := by decide +kernel
theorem dX10_product_20 : decode cX10_product 20 = .ok (.if_icmp .eq 15, 3) := by decide +kernel
theorem dX10_product_23 : decode cX10_product 23 = .ok (.iload_n 2, 1) := by decide +kernel
theorem dX10_product_24 : decode cX10_product 24 = .ok (.bipush 47, 2) := by decide +kernel
theorem dX10_product_26 : decode cX10_product 26 = .ok (.if_icmp .eq 9, 3) := by decide +kernel
theorem dX10_product_29 : decode cX10_product 29 = .ok (.iload_n 2, 1) := by decide +kernel
theorem dX10_product_30 : decode cX10_product 30 = .ok (.bipush 37, 2) := by decide +kernel
theorem dX10_product_32 : decode cX10_product 32 = .ok (.if_icmp .ne 62, 3) := by decide +kernel
theorem dX10_product_35 : decode cX10_product 35 = .ok (.aload_n 0, 1) := by decide +kernel
theorem dX10_product_36 : decode cX10_product 36 = .ok (.dup, 1) := by decide +kernel
theorem dX10_product_37 : decode cX10_product 37 = .ok (.getfield 165, 3) := by decide +kernel
theorem dX10_product_40 : decode cX10_product 40 = .ok (.iconst 1, 1) := by decide +kernel
theorem dX10_product_41 : decode cX10_product 41 = .ok (.iadd, 1) := by decide +kernel
theorem dX10_product_42 : decode cX10_product 42 = .ok (.putfield 165, 3) := by decide +kernel
theorem dX10_product_45 : decode cX10_product 45 = .ok (.aload_n 0, 1) := by decide +kernel
theorem dX10_product_46 : decode cX10_product 46 = .ok (.invokevirtual 196, 3) := by decide +kernel
theorem dX10_product_49 : decode cX10_product 49 = .ok (.istore_n 3, 1) := by decide +kernel
theorem dX10_product_50 : decode cX10_product 50 = .ok (.iload_n 2, 1) := by decide +kernel
theorem dX10_product_51 : decode cX10_product 51 = .ok (.bipush 42, 2) := by decide +kernel
theorem dX10_product_53 : decode cX10_product 53 = .ok (.if_icmp .ne 9, 3) := by decide +kernel
theorem dX10_product_56 : decode cX10_product 56 = .ok (.iload_n 1, 1) := by decide +kernel
theorem dX10_product_57 : decode cX10_product 57 = .ok (.iload_n 3, 1) := by decide +kernel
theorem dX10_product_58 : decode cX10_product 58 = .ok (.imul, 1) := by decide +kernel
theorem dX10_product_59 : decode cX10_product 59 = .ok (.goto 26, 3) := by decide +kernel
theorem dX10_product_62 : decode cX10_product 62 = .ok (.iload_n 3, 1) := by decide +kernel
theorem dX10_product_63 : decode cX10_product 63 = .ok (.ifCond .ne 7, 3) := by decide +kernel
theorem dX10_product_66 : decode cX10_product 66 = .ok (.iconst 0, 1) := by decide +kernel
theorem dX10_product_67 : decode cX10_product 67 = .ok (.goto 18, 3) := by decide +kernel
theorem dX10_product_70 : decode cX10_product 70 = .ok (.iload_n 2, 1) := by decide +kernel
theorem dX10_product_71 : decode cX10_product 71 = .ok (.bipush 47, 2) := by decide +kernel
theorem dX10_product_73 : decode cX10_product 73 = .ok (.if_icmp .ne 9, 3) := by decide +kernel
theorem dX10_product_76 : decode cX10_product 76 = .ok (.iload_n 1, 1) := by decide +kernel
theorem dX10_product_77 : decode cX10_product 77 = .ok (.iload_n 3, 1) := by decide +kernel
theorem dX10_product_78 : decode cX10_product 78 = .ok (.idiv, 1) := by decide +kernel
theorem dX10_product_79 : decode cX10_product 79 = .ok (.goto 6, 3) := by decide +kernel
theorem dX10_product_82 : decode cX10_product 82 = .ok (.iload_n 1, 1) := by decide +kernel
theorem dX10_product_83 : decode cX10_product 83 = .ok (.iload_n 3, 1) := by decide +kernel
theorem dX10_product_84 : decode cX10_product 84 = .ok (.irem, 1) := by decide +kernel
theorem dX10_product_85 : decode cX10_product 85 = .ok (.istore_n 1, 1) := by decide +kernel
theorem dX10_product_86 : decode cX10_product 86 = .ok (.aload_n 0, 1) := by decide +kernel
theorem dX10_product_87 : decode cX10_product 87 = .ok (.invokevirtual 177, 3) := by decide +kernel
theorem dX10_product_90 : decode cX10_product 90 = .ok (.istore_n 2, 1) := by decide +kernel
theorem dX10_product_91 : decode cX10_product 91 = .ok (.goto (-81), 3) := by decide +kernel
theorem dX10_product_94 : decode cX10_product 94 = .ok (.iload_n 1, 1) := by decide +kernel
theorem dX10_product_95 : decode cX10_product 95 = .ok (.ireturn, 1) := by decide +kernel
theorem dX10_nameOf_0 : decode cX10_nameOf 0 = .ok (.iload_n 0, 1) := by decide +kernel
theorem dX10_nameOf_1 : decode cX10_nameOf 1 = .ok (.tableswitch 107 102 121 #[103, 107, 101, 107, 107, 107, 107, 107, 95, 107, 107, 107, 107, 99, 107, 107, 97, 107, 107, 105], 95) := by decide +kernel
theorem dX10_nameOf_96 : decode cX10_nameOf 96 = .ok (.iconst 0, 1) := by decide +kernel
theorem dX10_nameOf_97 : decode cX10_nameOf 97 = .ok (.ireturn, 1) := by decide +kernel
theorem dX10_nameOf_98 : decode cX10_nameOf 98 = .ok (.iconst 1, 1) := by decide +kernel
theorem dX10_nameOf_99 : decode cX10_nameOf 99 = .ok (.ireturn, 1) := by decide +kernel
theorem dX10_nameOf_100 : decode cX10_nameOf 100 = .ok (.iconst 2, 1) := by decide +kernel
theorem dX10_nameOf_101 : decode cX10_nameOf 101 = .ok (.ireturn, 1) := by decide +kernel
theorem dX10_nameOf_102 : decode cX10_nameOf 102 = .ok (.iconst 3, 1) := by decide +kernel
theorem dX10_nameOf_103 : decode cX10_nameOf 103 = .ok (.ireturn, 1) := by decide +kernel
theorem dX10_nameOf_104 : decode cX10_nameOf 104 = .ok (.iconst 4, 1) := by decide +kernel
theorem dX10_nameOf_105 : decode cX10_nameOf 105 = .ok (.ireturn, 1) := by decide +kernel
theorem dX10_nameOf_106 : decode cX10_nameOf 106 = .ok (.iconst 5, 1) := by decide +kernel
theorem dX10_nameOf_107 : decode cX10_nameOf 107 = .ok (.ireturn, 1) := by decide +kernel
theorem dX10_nameOf_108 : decode cX10_nameOf 108 = .ok (.iconst (-1), 1) := by decide +kernel
theorem dX10_nameOf_109 : decode cX10_nameOf 109 = .ok (.ireturn, 1) := by decide +kernel
theorem dX10_one_0 : decode cX10_one 0 = .ok (.aload_n 0, 1) := by decide +kernel
theorem dX10_one_1 : decode cX10_one 1 = .ok (.getfield 174, 3) := by decide +kernel
theorem dX10_one_4 : decode cX10_one 4 = .ok (.ifCond .lt 5, 3) := by decide +kernel
theorem dX10_one_7 : decode cX10_one 7 = .ok (.iconst 0, 1) := by decide +kernel
theorem dX10_one_8 : decode cX10_one 8 = .ok (.ireturn, 1) := by decide +kernel
theorem dX10_one_9 : decode cX10_one 9 = .ok (.aload_n 0, 1) := by decide +kernel
theorem dX10_one_10 : decode cX10_one 10 = .ok (.invokevirtual 177, 3) := by decide +kernel
theorem dX10_one_13 : decode cX10_one 13 = .ok (.istore_n 1, 1) := by decide +kernel
theorem dX10_one_14 : decode cX10_one 14 = .ok (.iload_n 1, 1) := by decide +kernel
theorem dX10_one_15 : decode cX10_one 15 = .ok (.bipush 33, 2) := by decide +kernel
theorem dX10_one_17 : decode cX10_one 17 = .ok (.if_icmp .eq 15, 3) := by decide +kernel
theorem dX10_one_20 : decode cX10_one 20 = .ok (.iload_n 1, 1) := by decide +kernel
theorem dX10_one_21 : decode cX10_one 21 = .ok (.bipush 45, 2) := by decide +kernel
theorem dX10_one_23 : decode cX10_one 23 = .ok (.if_icmp .eq 9, 3) := by decide +kernel
theorem dX10_one_26 : decode cX10_one 26 = .ok (.iload_n 1, 1) := by decide +kernel
theorem dX10_one_27 : decode cX10_one 27 = .ok (.bipush 40, 2) := by decide +kernel
theorem dX10_one_29 : decode cX10_one 29 = .ok (.if_icmp .ne 116, 3) := by decide +kernel
theorem dX10_one_32 : decode cX10_one 32 = .ok (.aload_n 0, 1) := by decide +kernel
theorem dX10_one_33 : decode cX10_one 33 = .ok (.getfield 199, 3) := by decide +kernel
theorem dX10_one_36 : decode cX10_one 36 = .ok (.bipush 6, 2) := by decide +kernel
theorem dX10_one_38 : decode cX10_one 38 = .ok (.if_icmp .ne 8, 3) := by decide +kernel
theorem dX10_one_41 : decode cX10_one 41 = .ok (.aload_n 0, 1) := by decide +kernel
theorem dX10_one_42 : decode cX10_one 42 = .ok (.invokevirtual 202, 3) := by decide +kernel
theorem dX10_one_45 : decode cX10_one 45 = .ok (.ireturn, 1) := by decide +kernel
theorem dX10_one_46 : decode cX10_one 46 = .ok (.aload_n 0, 1) := by decide +kernel
theorem dX10_one_47 : decode cX10_one 47 = .ok (.dup, 1) := by decide +kernel
theorem dX10_one_48 : decode cX10_one 48 = .ok (.getfield 199, 3) := by decide +kernel
theorem dX10_one_51 : decode cX10_one 51 = .ok (.iconst 1, 1) := by decide +kernel
theorem dX10_one_52 : decode cX10_one 52 = .ok (.iadd, 1) := by decide +kernel
theorem dX10_one_53 : decode cX10_one 53 = .ok (.putfield 199, 3) := by decide +kernel
theorem dX10_one_56 : decode cX10_one 56 = .ok (.aload_n 0, 1) := by decide +kernel
theorem dX10_one_57 : decode cX10_one 57 = .ok (.dup, 1) := by decide +kernel
theorem dX10_one_58 : decode cX10_one 58 = .ok (.getfield 165, 3) := by decide +kernel
theorem dX10_one_61 : decode cX10_one 61 = .ok (.iconst 1, 1) := by decide +kernel
theorem dX10_one_62 : decode cX10_one 62 = .ok (.iadd, 1) := by decide +kernel
theorem dX10_one_63 : decode cX10_one 63 = .ok (.putfield 165, 3) := by decide +kernel
theorem dX10_one_66 : decode cX10_one 66 = .ok (.iload_n 1, 1) := by decide +kernel
theorem dX10_one_67 : decode cX10_one 67 = .ok (.bipush 40, 2) := by decide +kernel
theorem dX10_one_69 : decode cX10_one 69 = .ok (.if_icmp .ne 10, 3) := by decide +kernel
theorem dX10_one_72 : decode cX10_one 72 = .ok (.aload_n 0, 1) := by decide +kernel
theorem dX10_one_73 : decode cX10_one 73 = .ok (.invokevirtual 205, 3) := by decide +kernel
theorem dX10_one_76 : decode cX10_one 76 = .ok (.goto 7, 3) := by decide +kernel
theorem dX10_one_79 : decode cX10_one 79 = .ok (.aload_n 0, 1) := by decide +kernel
theorem dX10_one_80 : decode cX10_one 80 = .ok (.invokevirtual 196, 3) := by decide +kernel
theorem dX10_one_83 : decode cX10_one 83 = .ok (.istore_n 2, 1) := by decide +kernel
theorem dX10_one_84 : decode cX10_one 84 = .ok (.iload_n 1, 1) := by decide +kernel
theorem dX10_one_85 : decode cX10_one 85 = .ok (.bipush 40, 2) := by decide +kernel
theorem dX10_one_87 : decode cX10_one 87 = .ok (.if_icmp .ne 17, 3) := by decide +kernel
theorem dX10_one_90 : decode cX10_one 90 = .ok (.aload_n 0, 1) := by decide +kernel
theorem dX10_one_91 : decode cX10_one 91 = .ok (.bipush 41, 2) := by decide +kernel
theorem dX10_one_93 : decode cX10_one 93 = .ok (.invokevirtual 184, 3) := by decide +kernel
theorem dX10_one_96 : decode cX10_one 96 = .ok (.ifCond .ne 8, 3) := by decide +kernel
theorem dX10_one_99 : decode cX10_one 99 = .ok (.aload_n 0, 1) := by decide +kernel
theorem dX10_one_100 : decode cX10_one 100 = .ok (.invokevirtual 202, 3) := by decide +kernel
theorem dX10_one_103 : decode cX10_one 103 = .ok (.ireturn, 1) := by decide +kernel
theorem dX10_one_104 : decode cX10_one 104 = .ok (.aload_n 0, 1) := by decide +kernel
theorem dX10_one_105 : decode cX10_one 105 = .ok (.dup, 1) := by decide +kernel
theorem dX10_one_106 : decode cX10_one 106 = .ok (.getfield 199, 3) := by decide +kernel
theorem dX10_one_109 : decode cX10_one 109 = .ok (.iconst 1, 1) := by decide +kernel
theorem dX10_one_110 : decode cX10_one 110 = .ok (.isub, 1) := by decide +kernel
theorem dX10_one_111 : decode cX10_one 111 = .ok (.putfield 199, 3) := by decide +kernel
theorem dX10_one_114 : decode cX10_one 114 = .ok (.iload_n 1, 1) := by decide +kernel
theorem dX10_one_115 : decode cX10_one 115 = .ok (.bipush 40, 2) := by decide +kernel
theorem dX10_one_117 : decode cX10_one 117 = .ok (.if_icmp .ne 7, 3) := by decide +kernel
theorem dX10_one_120 : decode cX10_one 120 = .ok (.iload_n 2, 1) := by decide +kernel
theorem dX10_one_121 : decode cX10_one 121 = .ok (.goto 23, 3) := by decide +kernel
theorem dX10_one_124 : decode cX10_one 124 = .ok (.iload_n 1, 1) := by decide +kernel
theorem dX10_one_125 : decode cX10_one 125 = .ok (.bipush 45, 2) := by decide +kernel
theorem dX10_one_127 : decode cX10_one 127 = .ok (.if_icmp .ne 8, 3) := by decide +kernel
theorem dX10_one_130 : decode cX10_one 130 = .ok (.iload_n 2, 1) := by decide +kernel
theorem dX10_one_131 : decode cX10_one 131 = .ok (.ineg, 1) := by decide +kernel
theorem dX10_one_132 : decode cX10_one 132 = .ok (.goto 12, 3) := by decide +kernel
theorem dX10_one_135 : decode cX10_one 135 = .ok (.iload_n 2, 1) := by decide +kernel
theorem dX10_one_136 : decode cX10_one 136 = .ok (.ifCond .ne 7, 3) := by decide +kernel
theorem dX10_one_139 : decode cX10_one 139 = .ok (.iconst 1, 1) := by decide +kernel
theorem dX10_one_140 : decode cX10_one 140 = .ok (.goto 4, 3) := by decide +kernel
theorem dX10_one_143 : decode cX10_one 143 = .ok (.iconst 0, 1) := by decide +kernel
theorem dX10_one_144 : decode cX10_one 144 = .ok (.ireturn, 1) := by decide +kernel
theorem dX10_one_145 : decode cX10_one 145 = .ok (.iload_n 1, 1) := by decide +kernel
theorem dX10_one_146 : decode cX10_one 146 = .ok (.invokestatic 208, 3) := by decide +kernel
theorem dX10_one_149 : decode cX10_one 149 = .ok (.istore_n 2, 1) := by decide +kernel
theorem dX10_one_150 : decode cX10_one 150 = .ok (.iload_n 2, 1) := by decide +kernel
theorem dX10_one_151 : decode cX10_one 151 = .ok (.ifCond .lt 20, 3) := by decide +kernel
theorem dX10_one_154 : decode cX10_one 154 = .ok (.aload_n 0, 1) := by decide +kernel
theorem dX10_one_155 : decode cX10_one 155 = .ok (.dup, 1) := by decide +kernel
theorem dX10_one_156 : decode cX10_one 156 = .ok (.getfield 165, 3) := by decide +kernel
theorem dX10_one_159 : decode cX10_one 159 = .ok (.iconst 1, 1) := by decide +kernel
theorem dX10_one_160 : decode cX10_one 160 = .ok (.iadd, 1) := by decide +kernel
theorem dX10_one_161 : decode cX10_one 161 = .ok (.putfield 165, 3) := by decide +kernel
theorem dX10_one_164 : decode cX10_one 164 = .ok (.aload_n 0, 1) := by decide +kernel
theorem dX10_one_165 : decode cX10_one 165 = .ok (.getfield 34, 3) := by decide +kernel
theorem dX10_one_168 : decode cX10_one 168 = .ok (.iload_n 2, 1) := by decide +kernel
theorem dX10_one_169 : decode cX10_one 169 = .ok (.iaload, 1) := by decide +kernel
theorem dX10_one_170 : decode cX10_one 170 = .ok (.ireturn, 1) := by decide +kernel
theorem dX10_one_171 : decode cX10_one 171 = .ok (.iconst 0, 1) := by decide +kernel
theorem dX10_one_172 : decode cX10_one 172 = .ok (.istore_n 3, 1) := by decide +kernel
theorem dX10_one_173 : decode cX10_one 173 = .ok (.iconst 0, 1) := by decide +kernel
theorem dX10_one_174 : decode cX10_one 174 = .ok (.istore 4, 2) := by decide +kernel
theorem dX10_one_176 : decode cX10_one 176 = .ok (.iload 4, 2) := by decide +kernel
theorem dX10_one_178 : decode cX10_one 178 = .ok (.iconst 4, 1) := by decide +kernel
theorem dX10_one_179 : decode cX10_one 179 = .ok (.if_icmp .ge 50, 3) := by decide +kernel
theorem dX10_one_182 : decode cX10_one 182 = .ok (.aload_n 0, 1) := by decide +kernel
theorem dX10_one_183 : decode cX10_one 183 = .ok (.invokevirtual 177, 3) := by decide +kernel
theorem dX10_one_186 : decode cX10_one 186 = .ok (.bipush 48, 2) := by decide +kernel
theorem dX10_one_188 : decode cX10_one 188 = .ok (.if_icmp .lt 41, 3) := by decide +kernel
theorem dX10_one_191 : decode cX10_one 191 = .ok (.aload_n 0, 1) := by decide +kernel
theorem dX10_one_192 : decode cX10_one 192 = .ok (.invokevirtual 177, 3) := by decide +kernel
theorem dX10_one_195 : decode cX10_one 195 = .ok (.bipush 57, 2) := by decide +kernel
theorem dX10_one_197 : decode cX10_one 197 = .ok (.if_icmp .gt 32, 3) := by decide +kernel
theorem dX10_one_200 : decode cX10_one 200 = .ok (.bipush 10, 2) := by decide +kernel
theorem dX10_one_202 : decode cX10_one 202 = .ok (.iload_n 3, 1) := by decide +kernel
theorem dX10_one_203 : decode cX10_one 203 = .ok (.imul, 1) := by decide +kernel
theorem dX10_one_204 : decode cX10_one 204 = .ok (.aload_n 0, 1) := by decide +kernel
theorem dX10_one_205 : decode cX10_one 205 = .ok (.invokevirtual 177, 3) := by decide +kernel
theorem dX10_one_208 : decode cX10_one 208 = .ok (.iadd, 1) := by decide +kernel
theorem dX10_one_209 : decode cX10_one 209 = .ok (.bipush 48, 2) := by decide +kernel
theorem dX10_one_211 : decode cX10_one 211 = .ok (.isub, 1) := by decide +kernel
theorem dX10_one_212 : decode cX10_one 212 = .ok (.istore_n 3, 1) := by decide +kernel
theorem dX10_one_213 : decode cX10_one 213 = .ok (.iinc 4 1, 3) := by decide +kernel
theorem dX10_one_216 : decode cX10_one 216 = .ok (.aload_n 0, 1) := by decide +kernel
theorem dX10_one_217 : decode cX10_one 217 = .ok (.dup, 1) := by decide +kernel
theorem dX10_one_218 : decode cX10_one 218 = .ok (.getfield 165, 3) := by decide +kernel
theorem dX10_one_221 : decode cX10_one 221 = .ok (.iconst 1, 1) := by decide +kernel
theorem dX10_one_222 : decode cX10_one 222 = .ok (.iadd, 1) := by decide +kernel
theorem dX10_one_223 : decode cX10_one 223 = .ok (.putfield 165, 3) := by decide +kernel
theorem dX10_one_226 : decode cX10_one 226 = .ok (.goto (-50), 3) := by decide +kernel
theorem dX10_one_229 : decode cX10_one 229 = .ok (.iload 4, 2) := by decide +kernel
theorem dX10_one_231 : decode cX10_one 231 = .ok (.ifCond .ne 10, 3) := by decide +kernel
theorem dX10_one_234 : decode cX10_one 234 = .ok (.aload_n 0, 1) := by decide +kernel
theorem dX10_one_235 : decode cX10_one 235 = .ok (.invokevirtual 202, 3) := by decide +kernel
theorem dX10_one_238 : decode cX10_one 238 = .ok (.goto 4, 3) := by decide +kernel
theorem dX10_one_241 : decode cX10_one 241 = .ok (.iload_n 3, 1) := by decide +kernel
theorem dX10_one_242 : decode cX10_one 242 = .ok (.ireturn, 1) := by decide +kernel
theorem dX10_workOut_0 : decode cX10_workOut 0 = .ok (.aload_n 0, 1) := by decide +kernel
theorem dX10_workOut_1 : decode cX10_workOut 1 = .ok (.iload_n 1, 1) := by decide +kernel
theorem dX10_workOut_2 : decode cX10_workOut 2 = .ok (.putfield 171, 3) := by decide +kernel
theorem dX10_workOut_5 : decode cX10_workOut 5 = .ok (.aload_n 0, 1) := by decide +kernel
theorem dX10_workOut_6 : decode cX10_workOut 6 = .ok (.iconst 0, 1) := by decide +kernel
theorem dX10_workOut_7 : decode cX10_workOut 7 = .ok (.putfield 165, 3) := by decide +kernel
theorem dX10_workOut_10 : decode cX10_workOut 10 = .ok (.aload_n 0, 1) := by decide +kernel
theorem dX10_workOut_11 : decode cX10_workOut 11 = .ok (.iload_n 2, 1) := by decide +kernel
theorem dX10_workOut_12 : decode cX10_workOut 12 = .ok (.putfield 168, 3) := by decide +kernel
theorem dX10_workOut_15 : decode cX10_workOut 15 = .ok (.aload_n 0, 1) := by decide +kernel
theorem dX10_workOut_16 : decode cX10_workOut 16 = .ok (.iconst (-1), 1) := by decide +kernel
theorem dX10_workOut_17 : decode cX10_workOut 17 = .ok (.putfield 174, 3) := by decide +kernel
theorem dX10_workOut_20 : decode cX10_workOut 20 = .ok (.aload_n 0, 1) := by decide +kernel
theorem dX10_workOut_21 : decode cX10_workOut 21 = .ok (.iconst 0, 1) := by decide +kernel
theorem dX10_workOut_22 : decode cX10_workOut 22 = .ok (.putfield 199, 3) := by decide +kernel
theorem dX10_workOut_25 : decode cX10_workOut 25 = .ok (.iconst 0, 1) := by decide +kernel
theorem dX10_workOut_26 : decode cX10_workOut 26 = .ok (.istore_n 3, 1) := by decide +kernel
theorem dX10_workOut_27 : decode cX10_workOut 27 = .ok (.iconst 0, 1) := by decide +kernel
theorem dX10_workOut_28 : decode cX10_workOut 28 = .ok (.istore 4, 2) := by decide +kernel
theorem dX10_workOut_30 : decode cX10_workOut 30 = .ok (.iconst 1, 1) := by decide +kernel
theorem dX10_workOut_31 : decode cX10_workOut 31 = .ok (.istore 5, 2) := by decide +kernel
theorem dX10_workOut_33 : decode cX10_workOut 33 = .ok (.iload 5, 2) := by decide +kernel
theorem dX10_workOut_35 : decode cX10_workOut 35 = .ok (.ifCond .eq 72, 3) := by decide +kernel
theorem dX10_workOut_38 : decode cX10_workOut 38 = .ok (.aload_n 0, 1) := by decide +kernel
theorem dX10_workOut_39 : decode cX10_workOut 39 = .ok (.invokevirtual 205, 3) := by decide +kernel
theorem dX10_workOut_42 : decode cX10_workOut 42 = .ok (.istore 6, 2) := by decide +kernel
theorem dX10_workOut_44 : decode cX10_workOut 44 = .ok (.iconst 1, 1) := by decide +kernel
theorem dX10_workOut_45 : decode cX10_workOut 45 = .ok (.istore 7, 2) := by decide +kernel
theorem dX10_workOut_47 : decode cX10_workOut 47 = .ok (.aload_n 0, 1) := by decide +kernel
theorem dX10_workOut_48 : decode cX10_workOut 48 = .ok (.bipush 63, 2) := by decide +kernel
theorem dX10_workOut_50 : decode cX10_workOut 50 = .ok (.invokevirtual 184, 3) := by decide +kernel
theorem dX10_workOut_53 : decode cX10_workOut 53 = .ok (.ifCond .eq 21, 3) := by decide +kernel
theorem dX10_workOut_56 : decode cX10_workOut 56 = .ok (.iload 6, 2) := by decide +kernel
theorem dX10_workOut_58 : decode cX10_workOut 58 = .ok (.ifCond .eq 7, 3) := by decide +kernel
theorem dX10_workOut_61 : decode cX10_workOut 61 = .ok (.iconst 1, 1) := by decide +kernel
theorem dX10_workOut_62 : decode cX10_workOut 62 = .ok (.goto 4, 3) := by decide +kernel
theorem dX10_workOut_65 : decode cX10_workOut 65 = .ok (.iconst 0, 1) := by decide +kernel
theorem dX10_workOut_66 : decode cX10_workOut 66 = .ok (.istore 7, 2) := by decide +kernel
theorem dX10_workOut_68 : decode cX10_workOut 68 = .ok (.aload_n 0, 1) := by decide +kernel
theorem dX10_workOut_69 : decode cX10_workOut 69 = .ok (.invokevirtual 205, 3) := by decide +kernel
theorem dX10_workOut_72 : decode cX10_workOut 72 = .ok (.istore 6, 2) := by decide +kernel
theorem dX10_workOut_74 : decode cX10_workOut 74 = .ok (.aload_n 0, 1) := by decide +kernel
theorem dX10_workOut_75 : decode cX10_workOut 75 = .ok (.getfield 174, 3) := by decide +kernel
theorem dX10_workOut_78 : decode cX10_workOut 78 = .ok (.ifCond .ge 18, 3) := by decide +kernel
theorem dX10_workOut_81 : decode cX10_workOut 81 = .ok (.iload 7, 2) := by decide +kernel
theorem dX10_workOut_83 : decode cX10_workOut 83 = .ok (.ifCond .eq 13, 3) := by decide +kernel
theorem dX10_workOut_86 : decode cX10_workOut 86 = .ok (.iload_n 3, 1) := by decide +kernel
theorem dX10_workOut_87 : decode cX10_workOut 87 = .ok (.ifCond .ne 9, 3) := by decide +kernel
theorem dX10_workOut_90 : decode cX10_workOut 90 = .ok (.iconst 1, 1) := by decide +kernel
theorem dX10_workOut_91 : decode cX10_workOut 91 = .ok (.istore_n 3, 1) := by decide +kernel
theorem dX10_workOut_92 : decode cX10_workOut 92 = .ok (.iload 6, 2) := by decide +kernel
theorem dX10_workOut_94 : decode cX10_workOut 94 = .ok (.istore 4, 2) := by decide +kernel
theorem dX10_workOut_96 : decode cX10_workOut 96 = .ok (.aload_n 0, 1) := by decide +kernel
theorem dX10_workOut_97 : decode cX10_workOut 97 = .ok (.bipush 59, 2) := by decide +kernel
theorem dX10_workOut_99 : decode cX10_workOut 99 = .ok (.invokevirtual 184, 3) := by decide +kernel
theorem dX10_workOut_102 : decode cX10_workOut 102 = .ok (.istore 5, 2) := by decide +kernel
theorem dX10_workOut_104 : decode cX10_workOut 104 = .ok (.goto (-71), 3) := by decide +kernel
theorem dX10_workOut_107 : decode cX10_workOut 107 = .ok (.aload_n 0, 1) := by decide +kernel
theorem dX10_workOut_108 : decode cX10_workOut 108 = .ok (.getfield 174, 3) := by decide +kernel
theorem dX10_workOut_111 : decode cX10_workOut 111 = .ok (.ifCond .ge 19, 3) := by decide +kernel
theorem dX10_workOut_114 : decode cX10_workOut 114 = .ok (.aload_n 0, 1) := by decide +kernel
theorem dX10_workOut_115 : decode cX10_workOut 115 = .ok (.getfield 165, 3) := by decide +kernel
theorem dX10_workOut_118 : decode cX10_workOut 118 = .ok (.aload_n 0, 1) := by decide +kernel
theorem dX10_workOut_119 : decode cX10_workOut 119 = .ok (.getfield 168, 3) := by decide +kernel
theorem dX10_workOut_122 : decode cX10_workOut 122 = .ok (.if_icmp .ge 8, 3) := by decide +kernel
theorem dX10_workOut_125 : decode cX10_workOut 125 = .ok (.aload_n 0, 1) := by decide +kernel
theorem dX10_workOut_126 : decode cX10_workOut 126 = .ok (.invokevirtual 202, 3) := by decide +kernel
theorem dX10_workOut_129 : decode cX10_workOut 129 = .ok (.ireturn, 1) := by decide +kernel
theorem dX10_workOut_130 : decode cX10_workOut 130 = .ok (.iload 4, 2) := by decide +kernel
theorem dX10_workOut_132 : decode cX10_workOut 132 = .ok (.ireturn, 1) := by decide +kernel
theorem dX10_law_0 : decode cX10_law 0 = .ok (.aload_n 0, 1) := by decide +kernel
theorem dX10_law_1 : decode cX10_law 1 = .ok (.iconst (-1), 1) := by decide +kernel
theorem dX10_law_2 : decode cX10_law 2 = .ok (.aload_n 0, 1) := by decide +kernel
theorem dX10_law_3 : decode cX10_law 3 = .ok (.getfield 162, 3) := by decide +kernel
theorem dX10_law_6 : decode cX10_law 6 = .ok (.invokevirtual 211, 3) := by decide +kernel
theorem dX10_law_9 : decode cX10_law 9 = .ok (.istore_n 1, 1) := by decide +kernel
theorem dX10_law_10 : decode cX10_law 10 = .ok (.aload_n 0, 1) := by decide +kernel
theorem dX10_law_11 : decode cX10_law 11 = .ok (.getfield 162, 3) := by decide +kernel
theorem dX10_law_14 : decode cX10_law 14 = .ok (.istore_n 2, 1) := by decide +kernel
theorem dX10_law_15 : decode cX10_law 15 = .ok (.aload_n 0, 1) := by decide +kernel
theorem dX10_law_16 : decode cX10_law 16 = .ok (.iconst 0, 1) := by decide +kernel
theorem dX10_law_17 : decode cX10_law 17 = .ok (.putfield 162, 3) := by decide +kernel
theorem dX10_law_20 : decode cX10_law 20 = .ok (.aload_n 0, 1) := by decide +kernel
theorem dX10_law_21 : decode cX10_law 21 = .ok (.getfield 174, 3) := by decide +kernel
theorem dX10_law_24 : decode cX10_law 24 = .ok (.ifCond .lt 11, 3) := by decide +kernel
theorem dX10_law_27 : decode cX10_law 27 = .ok (.bipush (-100), 2) := by decide +kernel
theorem dX10_law_29 : decode cX10_law 29 = .ok (.aload_n 0, 1) := by decide +kernel
theorem dX10_law_30 : decode cX10_law 30 = .ok (.getfield 174, 3) := by decide +kernel
theorem dX10_law_33 : decode cX10_law 33 = .ok (.isub, 1) := by decide +kernel
theorem dX10_law_34 : decode cX10_law 34 = .ok (.ireturn, 1) := by decide +kernel
theorem dX10_law_35 : decode cX10_law 35 = .ok (.iconst 0, 1) := by decide +kernel
theorem dX10_law_36 : decode cX10_law 36 = .ok (.istore_n 3, 1) := by decide +kernel
theorem dX10_law_37 : decode cX10_law 37 = .ok (.iload_n 3, 1) := by decide +kernel
theorem dX10_law_38 : decode cX10_law 38 = .ok (.iload_n 2, 1) := by decide +kernel
theorem dX10_law_39 : decode cX10_law 39 = .ok (.if_icmp .ge 21, 3) := by decide +kernel
theorem dX10_law_42 : decode cX10_law 42 = .ok (.aload_n 0, 1) := by decide +kernel
theorem dX10_law_43 : decode cX10_law 43 = .ok (.getfield 31, 3) := by decide +kernel
theorem dX10_law_46 : decode cX10_law 46 = .ok (.iload_n 3, 1) := by decide +kernel
theorem dX10_law_47 : decode cX10_law 47 = .ok (.aload_n 0, 1) := by decide +kernel
theorem dX10_law_48 : decode cX10_law 48 = .ok (.getfield 28, 3) := by decide +kernel
theorem dX10_law_51 : decode cX10_law 51 = .ok (.iload_n 3, 1) := by decide +kernel
theorem dX10_law_52 : decode cX10_law 52 = .ok (.iaload, 1) := by decide +kernel
theorem dX10_law_53 : decode cX10_law 53 = .ok (.iastore, 1) := by decide +kernel
theorem dX10_law_54 : decode cX10_law 54 = .ok (.iinc 3 1, 3) := by decide +kernel
theorem dX10_law_57 : decode cX10_law 57 = .ok (.goto (-20), 3) := by decide +kernel
theorem dX10_law_60 : decode cX10_law 60 = .ok (.aload_n 0, 1) := by decide +kernel
theorem dX10_law_61 : decode cX10_law 61 = .ok (.iload_n 2, 1) := by decide +kernel
theorem dX10_law_62 : decode cX10_law 62 = .ok (.putfield 88, 3) := by decide +kernel
theorem dX10_law_65 : decode cX10_law 65 = .ok (.iconst 1, 1) := by decide +kernel
theorem dX10_law_66 : decode cX10_law 66 = .ok (.ireturn, 1) := by decide +kernel
theorem dX10_begins1_0 : decode cX10_begins1 0 = .ok (.iconst 0, 1) := by decide +kernel
theorem dX10_begins1_1 : decode cX10_begins1 1 = .ok (.istore_n 2, 1) := by decide +kernel
theorem dX10_begins1_2 : decode cX10_begins1 2 = .ok (.iload_n 2, 1) := by decide +kernel
theorem dX10_begins1_3 : decode cX10_begins1 3 = .ok (.aload_n 0, 1) := by decide +kernel
theorem dX10_begins1_4 : decode cX10_begins1 4 = .ok (.getfield 109, 3) := by decide +kernel
theorem dX10_begins1_7 : decode cX10_begins1 7 = .ok (.if_icmp .ge 72, 3) := by decide +kernel
theorem dX10_begins1_10 : decode cX10_begins1 10 = .ok (.aload_n 0, 1) := by decide +kernel
theorem dX10_begins1_11 : decode cX10_begins1 11 = .ok (.getfield 37, 3) := by decide +kernel
theorem dX10_begins1_14 : decode cX10_begins1 14 = .ok (.iload_n 2, 1) := by decide +kernel
theorem dX10_begins1_15 : decode cX10_begins1 15 = .ok (.aload_n 0, 1) := by decide +kernel
theorem dX10_begins1_16 : decode cX10_begins1 16 = .ok (.getfield 22, 3) := by decide +kernel
theorem dX10_begins1_19 : decode cX10_begins1 19 = .ok (.iload_n 2, 1) := by decide +kernel
theorem dX10_begins1_20 : decode cX10_begins1 20 = .ok (.iaload, 1) := by decide +kernel
theorem dX10_begins1_21 : decode cX10_begins1 21 = .ok (.iastore, 1) := by decide +kernel
theorem dX10_begins1_22 : decode cX10_begins1 22 = .ok (.aload_n 0, 1) := by decide +kernel
theorem dX10_begins1_23 : decode cX10_begins1 23 = .ok (.getfield 40, 3) := by decide +kernel
theorem dX10_begins1_26 : decode cX10_begins1 26 = .ok (.iload_n 2, 1) := by decide +kernel
theorem dX10_begins1_27 : decode cX10_begins1 27 = .ok (.iload_n 1, 1) := by decide +kernel
theorem dX10_begins1_28 : decode cX10_begins1 28 = .ok (.iload_n 2, 1) := by decide +kernel
theorem dX10_begins1_29 : decode cX10_begins1 29 = .ok (.invokestatic 214, 3) := by decide +kernel
theorem dX10_begins1_32 : decode cX10_begins1 32 = .ok (.ifCond .eq 15, 3) := by decide +kernel
theorem dX10_begins1_35 : decode cX10_begins1 35 = .ok (.aload_n 0, 1) := by decide +kernel
theorem dX10_begins1_36 : decode cX10_begins1 36 = .ok (.getfield 9, 3) := by decide +kernel
theorem dX10_begins1_39 : decode cX10_begins1 39 = .ok (.bipush 10, 2) := by decide +kernel
theorem dX10_begins1_41 : decode cX10_begins1 41 = .ok (.iload_n 2, 1) := by decide +kernel
theorem dX10_begins1_42 : decode cX10_begins1 42 = .ok (.iadd, 1) := by decide +kernel
theorem dX10_begins1_43 : decode cX10_begins1 43 = .ok (.iaload, 1) := by decide +kernel
theorem dX10_begins1_44 : decode cX10_begins1 44 = .ok (.goto 4, 3) := by decide +kernel
theorem dX10_begins1_47 : decode cX10_begins1 47 = .ok (.iconst 0, 1) := by decide +kernel
theorem dX10_begins1_48 : decode cX10_begins1 48 = .ok (.iastore, 1) := by decide +kernel
theorem dX10_begins1_49 : decode cX10_begins1 49 = .ok (.aload_n 0, 1) := by decide +kernel
theorem dX10_begins1_50 : decode cX10_begins1 50 = .ok (.getfield 43, 3) := by decide +kernel
theorem dX10_begins1_53 : decode cX10_begins1 53 = .ok (.iload_n 2, 1) := by decide +kernel
theorem dX10_begins1_54 : decode cX10_begins1 54 = .ok (.iload_n 1, 1) := by decide +kernel
theorem dX10_begins1_55 : decode cX10_begins1 55 = .ok (.iload_n 2, 1) := by decide +kernel
theorem dX10_begins1_56 : decode cX10_begins1 56 = .ok (.invokestatic 214, 3) := by decide +kernel
theorem dX10_begins1_59 : decode cX10_begins1 59 = .ok (.ifCond .eq 12, 3) := by decide +kernel
theorem dX10_begins1_62 : decode cX10_begins1 62 = .ok (.aload_n 0, 1) := by decide +kernel
theorem dX10_begins1_63 : decode cX10_begins1 63 = .ok (.getfield 25, 3) := by decide +kernel
theorem dX10_begins1_66 : decode cX10_begins1 66 = .ok (.iload_n 2, 1) := by decide +kernel
theorem dX10_begins1_67 : decode cX10_begins1 67 = .ok (.iaload, 1) := by decide +kernel
theorem dX10_begins1_68 : decode cX10_begins1 68 = .ok (.goto 4, 3) := by decide +kernel
theorem dX10_begins1_71 : decode cX10_begins1 71 = .ok (.iconst 0, 1) := by decide +kernel
theorem dX10_begins1_72 : decode cX10_begins1 72 = .ok (.iastore, 1) := by decide +kernel
theorem dX10_begins1_73 : decode cX10_begins1 73 = .ok (.iinc 2 1, 3) := by decide +kernel
theorem dX10_begins1_76 : decode cX10_begins1 76 = .ok (.goto (-74), 3) := by decide +kernel
theorem dX10_begins1_79 : decode cX10_begins1 79 = .ok (.return_, 1) := by decide +kernel
theorem dX10_gained_0 : decode cX10_gained 0 = .ok (.aload_n 0, 1) := by decide +kernel
theorem dX10_gained_1 : decode cX10_gained 1 = .ok (.getfield 88, 3) := by decide +kernel
theorem dX10_gained_4 : decode cX10_gained 4 = .ok (.ifCond .ge 24, 3) := by decide +kernel
theorem dX10_gained_7 : decode cX10_gained 7 = .ok (.iload_n 2, 1) := by decide +kernel
theorem dX10_gained_8 : decode cX10_gained 8 = .ok (.iconst 2, 1) := by decide +kernel
theorem dX10_gained_9 : decode cX10_gained 9 = .ok (.if_icmp .gt 7, 3) := by decide +kernel
theorem dX10_gained_12 : decode cX10_gained 12 = .ok (.iload_n 3, 1) := by decide +kernel
theorem dX10_gained_13 : decode cX10_gained 13 = .ok (.goto 14, 3) := by decide +kernel
theorem dX10_gained_16 : decode cX10_gained 16 = .ok (.iload_n 2, 1) := by decide +kernel
theorem dX10_gained_17 : decode cX10_gained 17 = .ok (.bipush 10, 2) := by decide +kernel
theorem dX10_gained_19 : decode cX10_gained 19 = .ok (.if_icmp .lt 7, 3) := by decide +kernel
theorem dX10_gained_22 : decode cX10_gained 22 = .ok (.iconst (-1), 1) := by decide +kernel
theorem dX10_gained_23 : decode cX10_gained 23 = .ok (.goto 4, 3) := by decide +kernel
theorem dX10_gained_26 : decode cX10_gained 26 = .ok (.iconst 0, 1) := by decide +kernel
theorem dX10_gained_27 : decode cX10_gained 27 = .ok (.ireturn, 1) := by decide +kernel
theorem dX10_gained_28 : decode cX10_gained 28 = .ok (.aload_n 0, 1) := by decide +kernel
theorem dX10_gained_29 : decode cX10_gained 29 = .ok (.getfield 34, 3) := by decide +kernel
theorem dX10_gained_32 : decode cX10_gained 32 = .ok (.iconst 0, 1) := by decide +kernel
theorem dX10_gained_33 : decode cX10_gained 33 = .ok (.iload_n 2, 1) := by decide +kernel
theorem dX10_gained_34 : decode cX10_gained 34 = .ok (.iastore, 1) := by decide +kernel
theorem dX10_gained_35 : decode cX10_gained 35 = .ok (.aload_n 0, 1) := by decide +kernel
theorem dX10_gained_36 : decode cX10_gained 36 = .ok (.getfield 34, 3) := by decide +kernel
theorem dX10_gained_39 : decode cX10_gained 39 = .ok (.iconst 1, 1) := by decide +kernel
theorem dX10_gained_40 : decode cX10_gained 40 = .ok (.aload_n 0, 1) := by decide +kernel
theorem dX10_gained_41 : decode cX10_gained 41 = .ok (.getfield 40, 3) := by decide +kernel
theorem dX10_gained_44 : decode cX10_gained 44 = .ok (.iload_n 1, 1) := by decide +kernel
theorem dX10_gained_45 : decode cX10_gained 45 = .ok (.iaload, 1) := by decide +kernel
theorem dX10_gained_46 : decode cX10_gained 46 = .ok (.invokestatic 218, 3) := by decide +kernel
theorem dX10_gained_49 : decode cX10_gained 49 = .ok (.iastore, 1) := by decide +kernel
theorem dX10_gained_50 : decode cX10_gained 50 = .ok (.aload_n 0, 1) := by decide +kernel
theorem dX10_gained_51 : decode cX10_gained 51 = .ok (.getfield 34, 3) := by decide +kernel
theorem dX10_gained_54 : decode cX10_gained 54 = .ok (.iconst 2, 1) := by decide +kernel
theorem dX10_gained_55 : decode cX10_gained 55 = .ok (.aload_n 0, 1) := by decide +kernel
theorem dX10_gained_56 : decode cX10_gained 56 = .ok (.getfield 9, 3) := by decide +kernel
theorem dX10_gained_59 : decode cX10_gained 59 = .ok (.iload_n 1, 1) := by decide +kernel
theorem dX10_gained_60 : decode cX10_gained 60 = .ok (.iaload, 1) := by decide +kernel
theorem dX10_gained_61 : decode cX10_gained 61 = .ok (.iastore, 1) := by decide +kernel
theorem dX10_gained_62 : decode cX10_gained 62 = .ok (.aload_n 0, 1) := by decide +kernel
theorem dX10_gained_63 : decode cX10_gained 63 = .ok (.getfield 34, 3) := by decide +kernel
theorem dX10_gained_66 : decode cX10_gained 66 = .ok (.iconst 3, 1) := by decide +kernel
theorem dX10_gained_67 : decode cX10_gained 67 = .ok (.aload_n 0, 1) := by decide +kernel
theorem dX10_gained_68 : decode cX10_gained 68 = .ok (.getfield 9, 3) := by decide +kernel
theorem dX10_gained_71 : decode cX10_gained 71 = .ok (.iconst 5, 1) := by decide +kernel
theorem dX10_gained_72 : decode cX10_gained 72 = .ok (.iload_n 1, 1) := by decide +kernel
theorem dX10_gained_73 : decode cX10_gained 73 = .ok (.iadd, 1) := by decide +kernel
theorem dX10_gained_74 : decode cX10_gained 74 = .ok (.iaload, 1) := by decide +kernel
theorem dX10_gained_75 : decode cX10_gained 75 = .ok (.iastore, 1) := by decide +kernel
theorem dX10_gained_76 : decode cX10_gained 76 = .ok (.aload_n 0, 1) := by decide +kernel
theorem dX10_gained_77 : decode cX10_gained 77 = .ok (.getfield 34, 3) := by decide +kernel
theorem dX10_gained_80 : decode cX10_gained 80 = .ok (.iconst 4, 1) := by decide +kernel
theorem dX10_gained_81 : decode cX10_gained 81 = .ok (.iload_n 3, 1) := by decide +kernel
theorem dX10_gained_82 : decode cX10_gained 82 = .ok (.iastore, 1) := by decide +kernel
theorem dX10_gained_83 : decode cX10_gained 83 = .ok (.aload_n 0, 1) := by decide +kernel
theorem dX10_gained_84 : decode cX10_gained 84 = .ok (.getfield 34, 3) := by decide +kernel
theorem dX10_gained_87 : decode cX10_gained 87 = .ok (.iconst 5, 1) := by decide +kernel
theorem dX10_gained_88 : decode cX10_gained 88 = .ok (.aload_n 0, 1) := by decide +kernel
theorem dX10_gained_89 : decode cX10_gained 89 = .ok (.getfield 43, 3) := by decide +kernel
theorem dX10_gained_92 : decode cX10_gained 92 = .ok (.iload_n 1, 1) := by decide +kernel
theorem dX10_gained_93 : decode cX10_gained 93 = .ok (.iaload, 1) := by decide +kernel
theorem dX10_gained_94 : decode cX10_gained 94 = .ok (.iastore, 1) := by decide +kernel
theorem dX10_gained_95 : decode cX10_gained 95 = .ok (.aload_n 0, 1) := by decide +kernel
theorem dX10_gained_96 : decode cX10_gained 96 = .ok (.iconst 0, 1) := by decide +kernel
theorem dX10_gained_97 : decode cX10_gained 97 = .ok (.aload_n 0, 1) := by decide +kernel
theorem dX10_gained_98 : decode cX10_gained 98 = .ok (.getfield 88, 3) := by decide +kernel
theorem dX10_gained_101 : decode cX10_gained 101 = .ok (.invokevirtual 211, 3) := by decide +kernel
theorem dX10_gained_104 : decode cX10_gained 104 = .ok (.istore 4, 2) := by decide +kernel
theorem dX10_gained_106 : decode cX10_gained 106 = .ok (.iload 4, 2) := by decide +kernel
theorem dX10_gained_108 : decode cX10_gained 108 = .ok (.bipush (-9), 2) := by decide +kernel
theorem dX10_gained_110 : decode cX10_gained 110 = .ok (.if_icmp .ge 8, 3) := by decide +kernel
theorem dX10_gained_113 : decode cX10_gained 113 = .ok (.bipush (-9), 2) := by decide +kernel
theorem dX10_gained_115 : decode cX10_gained 115 = .ok (.goto 17, 3) := by decide +kernel
theorem dX10_gained_118 : decode cX10_gained 118 = .ok (.iload 4, 2) := by decide +kernel
theorem dX10_gained_120 : decode cX10_gained 120 = .ok (.bipush 9, 2) := by decide +kernel
theorem dX10_gained_122 : decode cX10_gained 122 = .ok (.if_icmp .le 8, 3) := by decide +kernel
theorem dX10_gained_125 : decode cX10_gained 125 = .ok (.bipush 9, 2) := by decide +kernel
theorem dX10_gained_127 : decode cX10_gained 127 = .ok (.goto 5, 3) := by decide +kernel
theorem dX10_gained_130 : decode cX10_gained 130 = .ok (.iload 4, 2) := by decide +kernel
theorem dX10_gained_132 : decode cX10_gained 132 = .ok (.ireturn, 1) := by decide +kernel
theorem dX10_becomesPace_0 : decode cX10_becomesPace 0 = .ok (.iload_n 2, 1) := by decide +kernel
theorem dX10_becomesPace_1 : decode cX10_becomesPace 1 = .ok (.ifCond .ge 7, 3) := by decide +kernel
theorem dX10_becomesPace_4 : decode cX10_becomesPace 4 = .ok (.iconst 0, 1) := by decide +kernel
theorem dX10_becomesPace_5 : decode cX10_becomesPace 5 = .ok (.goto 15, 3) := by decide +kernel
theorem dX10_becomesPace_8 : decode cX10_becomesPace 8 = .ok (.iload_n 2, 1) := by decide +kernel
theorem dX10_becomesPace_9 : decode cX10_becomesPace 9 = .ok (.bipush 9, 2) := by decide +kernel
theorem dX10_becomesPace_11 : decode cX10_becomesPace 11 = .ok (.if_icmp .le 8, 3) := by decide +kernel
theorem dX10_becomesPace_14 : decode cX10_becomesPace 14 = .ok (.bipush 9, 2) := by decide +kernel
theorem dX10_becomesPace_16 : decode cX10_becomesPace 16 = .ok (.goto 4, 3) := by decide +kernel
theorem dX10_becomesPace_19 : decode cX10_becomesPace 19 = .ok (.iload_n 2, 1) := by decide +kernel
theorem dX10_becomesPace_20 : decode cX10_becomesPace 20 = .ok (.istore_n 3, 1) := by decide +kernel
theorem dX10_becomesPace_21 : decode cX10_becomesPace 21 = .ok (.aload_n 0, 1) := by decide +kernel
theorem dX10_becomesPace_22 : decode cX10_becomesPace 22 = .ok (.getfield 40, 3) := by decide +kernel
theorem dX10_becomesPace_25 : decode cX10_becomesPace 25 = .ok (.iload_n 1, 1) := by decide +kernel
theorem dX10_becomesPace_26 : decode cX10_becomesPace 26 = .ok (.aload_n 0, 1) := by decide +kernel
theorem dX10_becomesPace_27 : decode cX10_becomesPace 27 = .ok (.getfield 40, 3) := by decide +kernel
theorem dX10_becomesPace_30 : decode cX10_becomesPace 30 = .ok (.iload_n 1, 1) := by decide +kernel
theorem dX10_becomesPace_31 : decode cX10_becomesPace 31 = .ok (.iaload, 1) := by decide +kernel
theorem dX10_becomesPace_32 : decode cX10_becomesPace 32 = .ok (.ifCond .ge 8, 3) := by decide +kernel
theorem dX10_becomesPace_35 : decode cX10_becomesPace 35 = .ok (.iload_n 3, 1) := by decide +kernel
theorem dX10_becomesPace_36 : decode cX10_becomesPace 36 = .ok (.ineg, 1) := by decide +kernel
theorem dX10_becomesPace_37 : decode cX10_becomesPace 37 = .ok (.goto 4, 3) := by decide +kernel
theorem dX10_becomesPace_40 : decode cX10_becomesPace 40 = .ok (.iload_n 3, 1) := by decide +kernel
theorem dX10_becomesPace_41 : decode cX10_becomesPace 41 = .ok (.iastore, 1) := by decide +kernel
theorem dX10_becomesPace_42 : decode cX10_becomesPace 42 = .ok (.return_, 1) := by decide +kernel
theorem dX10_pushes_0 : decode cX10_pushes 0 = .ok (.iconst 0, 1) := by decide +kernel
theorem dX10_pushes_1 : decode cX10_pushes 1 = .ok (.istore_n 3, 1) := by decide +kernel
theorem dX10_pushes_2 : decode cX10_pushes 2 = .ok (.iload_n 3, 1) := by decide +kernel
theorem dX10_pushes_3 : decode cX10_pushes 3 = .ok (.aload_n 0, 1) := by decide +kernel
theorem dX10_pushes_4 : decode cX10_pushes 4 = .ok (.getfield 109, 3) := by decide +kernel
theorem dX10_pushes_7 : decode cX10_pushes 7 = .ok (.if_icmp .ge 69, 3) := by decide +kernel
theorem dX10_pushes_10 : decode cX10_pushes 10 = .ok (.aload_n 0, 1) := by decide +kernel
theorem dX10_pushes_11 : decode cX10_pushes 11 = .ok (.getfield 43, 3) := by decide +kernel
theorem dX10_pushes_14 : decode cX10_pushes 14 = .ok (.iload_n 3, 1) := by decide +kernel
theorem dX10_pushes_15 : decode cX10_pushes 15 = .ok (.iaload, 1) := by decide +kernel
theorem dX10_pushes_16 : decode cX10_pushes 16 = .ok (.ifCond .le 54, 3) := by decide +kernel
theorem dX10_pushes_19 : decode cX10_pushes 19 = .ok (.aload_n 0, 1) := by decide +kernel
theorem dX10_pushes_20 : decode cX10_pushes 20 = .ok (.getfield 37, 3) := by decide +kernel
theorem dX10_pushes_23 : decode cX10_pushes 23 = .ok (.iload_n 3, 1) := by decide +kernel
theorem dX10_pushes_24 : decode cX10_pushes 24 = .ok (.iaload, 1) := by decide +kernel
theorem dX10_pushes_25 : decode cX10_pushes 25 = .ok (.iload_n 1, 1) := by decide +kernel
theorem dX10_pushes_26 : decode cX10_pushes 26 = .ok (.isub, 1) := by decide +kernel
theorem dX10_pushes_27 : decode cX10_pushes 27 = .ok (.invokestatic 218, 3) := by decide +kernel
theorem dX10_pushes_30 : decode cX10_pushes 30 = .ok (.istore 4, 2) := by decide +kernel
theorem dX10_pushes_32 : decode cX10_pushes 32 = .ok (.aload_n 0, 1) := by decide +kernel
theorem dX10_pushes_33 : decode cX10_pushes 33 = .ok (.iload_n 3, 1) := by decide +kernel
theorem dX10_pushes_34 : decode cX10_pushes 34 = .ok (.aload_n 0, 1) := by decide +kernel
theorem dX10_pushes_35 : decode cX10_pushes 35 = .ok (.getfield 40, 3) := by decide +kernel
theorem dX10_pushes_38 : decode cX10_pushes 38 = .ok (.iload_n 3, 1) := by decide +kernel
theorem dX10_pushes_39 : decode cX10_pushes 39 = .ok (.iaload, 1) := by decide +kernel
theorem dX10_pushes_40 : decode cX10_pushes 40 = .ok (.invokestatic 218, 3) := by decide +kernel
theorem dX10_pushes_43 : decode cX10_pushes 43 = .ok (.aload_n 0, 1) := by decide +kernel
theorem dX10_pushes_44 : decode cX10_pushes 44 = .ok (.iload_n 3, 1) := by decide +kernel
theorem dX10_pushes_45 : decode cX10_pushes 45 = .ok (.iload 4, 2) := by decide +kernel
theorem dX10_pushes_47 : decode cX10_pushes 47 = .ok (.bipush 12, 2) := by decide +kernel
theorem dX10_pushes_49 : decode cX10_pushes 49 = .ok (.if_icmp .le 11, 3) := by decide +kernel
theorem dX10_pushes_52 : decode cX10_pushes 52 = .ok (.bipush 24, 2) := by decide +kernel
theorem dX10_pushes_54 : decode cX10_pushes 54 = .ok (.iload 4, 2) := by decide +kernel
theorem dX10_pushes_56 : decode cX10_pushes 56 = .ok (.isub, 1) := by decide +kernel
theorem dX10_pushes_57 : decode cX10_pushes 57 = .ok (.goto 5, 3) := by decide +kernel
theorem dX10_pushes_60 : decode cX10_pushes 60 = .ok (.iload 4, 2) := by decide +kernel
theorem dX10_pushes_62 : decode cX10_pushes 62 = .ok (.iload_n 2, 1) := by decide +kernel
theorem dX10_pushes_63 : decode cX10_pushes 63 = .ok (.invokevirtual 221, 3) := by decide +kernel
theorem dX10_pushes_66 : decode cX10_pushes 66 = .ok (.iadd, 1) := by decide +kernel
theorem dX10_pushes_67 : decode cX10_pushes 67 = .ok (.invokevirtual 225, 3) := by decide +kernel
theorem dX10_pushes_70 : decode cX10_pushes 70 = .ok (.iinc 3 1, 3) := by decide +kernel
theorem dX10_pushes_73 : decode cX10_pushes 73 = .ok (.goto (-71), 3) := by decide +kernel
theorem dX10_pushes_76 : decode cX10_pushes 76 = .ok (.return_, 1) := by decide +kernel
theorem dX10_turns_0 : decode cX10_turns 0 = .ok (.iconst 0, 1) := by decide +kernel
theorem dX10_turns_1 : decode cX10_turns 1 = .ok (.istore_n 2, 1) := by decide +kernel
theorem dX10_turns_2 : decode cX10_turns 2 = .ok (.iload_n 2, 1) := by decide +kernel
theorem dX10_turns_3 : decode cX10_turns 3 = .ok (.aload_n 0, 1) := by decide +kernel
theorem dX10_turns_4 : decode cX10_turns 4 = .ok (.getfield 109, 3) := by decide +kernel
theorem dX10_turns_7 : decode cX10_turns 7 = .ok (.if_icmp .ge 80, 3) := by decide +kernel
theorem dX10_turns_10 : decode cX10_turns 10 = .ok (.aload_n 0, 1) := by decide +kernel
theorem dX10_turns_11 : decode cX10_turns 11 = .ok (.getfield 43, 3) := by decide +kernel
theorem dX10_turns_14 : decode cX10_turns 14 = .ok (.iload_n 2, 1) := by decide +kernel
theorem dX10_turns_15 : decode cX10_turns 15 = .ok (.iaload, 1) := by decide +kernel
theorem dX10_turns_16 : decode cX10_turns 16 = .ok (.ifCond .le 65, 3) := by decide +kernel
theorem dX10_turns_19 : decode cX10_turns 19 = .ok (.iload_n 1, 1) := by decide +kernel
theorem dX10_turns_20 : decode cX10_turns 20 = .ok (.iconst 1, 1) := by decide +kernel
theorem dX10_turns_21 : decode cX10_turns 21 = .ok (.iadd, 1) := by decide +kernel
theorem dX10_turns_22 : decode cX10_turns 22 = .ok (.aload_n 0, 1) := by decide +kernel
theorem dX10_turns_23 : decode cX10_turns 23 = .ok (.getfield 9, 3) := by decide +kernel
theorem dX10_turns_26 : decode cX10_turns 26 = .ok (.iconst 5, 1) := by decide +kernel
theorem dX10_turns_27 : decode cX10_turns 27 = .ok (.iload_n 2, 1) := by decide +kernel
theorem dX10_turns_28 : decode cX10_turns 28 = .ok (.iadd, 1) := by decide +kernel
theorem dX10_turns_29 : decode cX10_turns 29 = .ok (.iaload, 1) := by decide +kernel
theorem dX10_turns_30 : decode cX10_turns 30 = .ok (.irem, 1) := by decide +kernel
theorem dX10_turns_31 : decode cX10_turns 31 = .ok (.ifCond .ne 25, 3) := by decide +kernel
theorem dX10_turns_34 : decode cX10_turns 34 = .ok (.aload_n 0, 1) := by decide +kernel
theorem dX10_turns_35 : decode cX10_turns 35 = .ok (.iload_n 2, 1) := by decide +kernel
theorem dX10_turns_36 : decode cX10_turns 36 = .ok (.aload_n 0, 1) := by decide +kernel
theorem dX10_turns_37 : decode cX10_turns 37 = .ok (.getfield 40, 3) := by decide +kernel
theorem dX10_turns_40 : decode cX10_turns 40 = .ok (.iload_n 2, 1) := by decide +kernel
theorem dX10_turns_41 : decode cX10_turns 41 = .ok (.iaload, 1) := by decide +kernel
theorem dX10_turns_42 : decode cX10_turns 42 = .ok (.invokestatic 218, 3) := by decide +kernel
theorem dX10_turns_45 : decode cX10_turns 45 = .ok (.aload_n 0, 1) := by decide +kernel
theorem dX10_turns_46 : decode cX10_turns 46 = .ok (.getfield 9, 3) := by decide +kernel
theorem dX10_turns_49 : decode cX10_turns 49 = .ok (.bipush 15, 2) := by decide +kernel
theorem dX10_turns_51 : decode cX10_turns 51 = .ok (.iaload, 1) := by decide +kernel
theorem dX10_turns_52 : decode cX10_turns 52 = .ok (.isub, 1) := by decide +kernel
theorem dX10_turns_53 : decode cX10_turns 53 = .ok (.invokevirtual 225, 3) := by decide +kernel
theorem dX10_turns_56 : decode cX10_turns 56 = .ok (.aload_n 0, 1) := by decide +kernel
theorem dX10_turns_57 : decode cX10_turns 57 = .ok (.getfield 37, 3) := by decide +kernel
theorem dX10_turns_60 : decode cX10_turns 60 = .ok (.iload_n 2, 1) := by decide +kernel
theorem dX10_turns_61 : decode cX10_turns 61 = .ok (.aload_n 0, 1) := by decide +kernel
theorem dX10_turns_62 : decode cX10_turns 62 = .ok (.getfield 37, 3) := by decide +kernel
theorem dX10_turns_65 : decode cX10_turns 65 = .ok (.iload_n 2, 1) := by decide +kernel
theorem dX10_turns_66 : decode cX10_turns 66 = .ok (.iaload, 1) := by decide +kernel
theorem dX10_turns_67 : decode cX10_turns 67 = .ok (.aload_n 0, 1) := by decide +kernel
theorem dX10_turns_68 : decode cX10_turns 68 = .ok (.getfield 40, 3) := by decide +kernel
theorem dX10_turns_71 : decode cX10_turns 71 = .ok (.iload_n 2, 1) := by decide +kernel
theorem dX10_turns_72 : decode cX10_turns 72 = .ok (.iaload, 1) := by decide +kernel
theorem dX10_turns_73 : decode cX10_turns 73 = .ok (.iadd, 1) := by decide +kernel
theorem dX10_turns_74 : decode cX10_turns 74 = .ok (.bipush 24, 2) := by decide +kernel
theorem dX10_turns_76 : decode cX10_turns 76 = .ok (.iadd, 1) := by decide +kernel
theorem dX10_turns_77 : decode cX10_turns 77 = .ok (.bipush 24, 2) := by decide +kernel
theorem dX10_turns_79 : decode cX10_turns 79 = .ok (.irem, 1) := by decide +kernel
theorem dX10_turns_80 : decode cX10_turns 80 = .ok (.iastore, 1) := by decide +kernel
theorem dX10_turns_81 : decode cX10_turns 81 = .ok (.iinc 2 1, 3) := by decide +kernel
theorem dX10_turns_84 : decode cX10_turns 84 = .ok (.goto (-82), 3) := by decide +kernel
theorem dX10_turns_87 : decode cX10_turns 87 = .ok (.iconst 0, 1) := by decide +kernel
theorem dX10_turns_88 : decode cX10_turns 88 = .ok (.istore_n 2, 1) := by decide +kernel
theorem dX10_turns_89 : decode cX10_turns 89 = .ok (.iload_n 2, 1) := by decide +kernel
theorem dX10_turns_90 : decode cX10_turns 90 = .ok (.aload_n 0, 1) := by decide +kernel
theorem dX10_turns_91 : decode cX10_turns 91 = .ok (.getfield 109, 3) := by decide +kernel
theorem dX10_turns_94 : decode cX10_turns 94 = .ok (.if_icmp .ge 92, 3) := by decide +kernel
theorem dX10_turns_97 : decode cX10_turns 97 = .ok (.iload_n 2, 1) := by decide +kernel
theorem dX10_turns_98 : decode cX10_turns 98 = .ok (.iconst 1, 1) := by decide +kernel
theorem dX10_turns_99 : decode cX10_turns 99 = .ok (.iadd, 1) := by decide +kernel
theorem dX10_turns_100 : decode cX10_turns 100 = .ok (.istore_n 3, 1) := by decide +kernel
theorem dX10_turns_101 : decode cX10_turns 101 = .ok (.iload_n 3, 1) := by decide +kernel
theorem dX10_turns_102 : decode cX10_turns 102 = .ok (.aload_n 0, 1) := by decide +kernel
theorem dX10_turns_103 : decode cX10_turns 103 = .ok (.getfield 109, 3) := by decide +kernel
theorem dX10_turns_106 : decode cX10_turns 106 = .ok (.if_icmp .ge 74, 3) := by decide +kernel
theorem dX10_turns_109 : decode cX10_turns 109 = .ok (.aload_n 0, 1) := by decide +kernel
theorem dX10_turns_110 : decode cX10_turns 110 = .ok (.getfield 43, 3) := by decide +kernel
theorem dX10_turns_113 : decode cX10_turns 113 = .ok (.iload_n 2, 1) := by decide +kernel
theorem dX10_turns_114 : decode cX10_turns 114 = .ok (.iaload, 1) := by decide +kernel
theorem dX10_turns_115 : decode cX10_turns 115 = .ok (.ifCond .le 59, 3) := by decide +kernel
theorem dX10_turns_118 : decode cX10_turns 118 = .ok (.aload_n 0, 1) := by decide +kernel
theorem dX10_turns_119 : decode cX10_turns 119 = .ok (.getfield 43, 3) := by decide +kernel
theorem dX10_turns_122 : decode cX10_turns 122 = .ok (.iload_n 3, 1) := by decide +kernel
theorem dX10_turns_123 : decode cX10_turns 123 = .ok (.iaload, 1) := by decide +kernel
theorem dX10_turns_124 : decode cX10_turns 124 = .ok (.ifCond .le 50, 3) := by decide +kernel
theorem dX10_turns_127 : decode cX10_turns 127 = .ok (.aload_n 0, 1) := by decide +kernel
theorem dX10_turns_128 : decode cX10_turns 128 = .ok (.getfield 37, 3) := by decide +kernel
theorem dX10_turns_131 : decode cX10_turns 131 = .ok (.iload_n 2, 1) := by decide +kernel
theorem dX10_turns_132 : decode cX10_turns 132 = .ok (.iaload, 1) := by decide +kernel
theorem dX10_turns_133 : decode cX10_turns 133 = .ok (.aload_n 0, 1) := by decide +kernel
theorem dX10_turns_134 : decode cX10_turns 134 = .ok (.getfield 37, 3) := by decide +kernel
theorem dX10_turns_137 : decode cX10_turns 137 = .ok (.iload_n 3, 1) := by decide +kernel
theorem dX10_turns_138 : decode cX10_turns 138 = .ok (.iaload, 1) := by decide +kernel
theorem dX10_turns_139 : decode cX10_turns 139 = .ok (.if_icmp .ne 35, 3) := by decide +kernel
theorem dX10_turns_142 : decode cX10_turns 142 = .ok (.aload_n 0, 1) := by decide +kernel
theorem dX10_turns_143 : decode cX10_turns 143 = .ok (.iload_n 2, 1) := by decide +kernel
theorem dX10_turns_144 : decode cX10_turns 144 = .ok (.aload_n 0, 1) := by decide +kernel
theorem dX10_turns_145 : decode cX10_turns 145 = .ok (.getfield 40, 3) := by decide +kernel
theorem dX10_turns_148 : decode cX10_turns 148 = .ok (.iload_n 2, 1) := by decide +kernel
theorem dX10_turns_149 : decode cX10_turns 149 = .ok (.iaload, 1) := by decide +kernel
theorem dX10_turns_150 : decode cX10_turns 150 = .ok (.invokestatic 218, 3) := by decide +kernel
theorem dX10_turns_153 : decode cX10_turns 153 = .ok (.iconst 1, 1) := by decide +kernel
theorem dX10_turns_154 : decode cX10_turns 154 = .ok (.isub, 1) := by decide +kernel
theorem dX10_turns_155 : decode cX10_turns 155 = .ok (.invokevirtual 225, 3) := by decide +kernel
theorem dX10_turns_158 : decode cX10_turns 158 = .ok (.aload_n 0, 1) := by decide +kernel
theorem dX10_turns_159 : decode cX10_turns 159 = .ok (.iload_n 3, 1) := by decide +kernel
theorem dX10_turns_160 : decode cX10_turns 160 = .ok (.aload_n 0, 1) := by decide +kernel
theorem dX10_turns_161 : decode cX10_turns 161 = .ok (.getfield 40, 3) := by decide +kernel
theorem dX10_turns_164 : decode cX10_turns 164 = .ok (.iload_n 3, 1) := by decide +kernel
theorem dX10_turns_165 : decode cX10_turns 165 = .ok (.iaload, 1) := by decide +kernel
theorem dX10_turns_166 : decode cX10_turns 166 = .ok (.invokestatic 218, 3) := by decide +kernel
theorem dX10_turns_169 : decode cX10_turns 169 = .ok (.iconst 1, 1) := by decide +kernel
theorem dX10_turns_170 : decode cX10_turns 170 = .ok (.isub, 1) := by decide +kernel
theorem dX10_turns_171 : decode cX10_turns 171 = .ok (.invokevirtual 225, 3) := by decide +kernel
theorem dX10_turns_174 : decode cX10_turns 174 = .ok (.iinc 3 1, 3) := by decide +kernel
theorem dX10_turns_177 : decode cX10_turns 177 = .ok (.goto (-76), 3) := by decide +kernel
theorem dX10_turns_180 : decode cX10_turns 180 = .ok (.iinc 2 1, 3) := by decide +kernel
theorem dX10_turns_183 : decode cX10_turns 183 = .ok (.goto (-94), 3) := by decide +kernel
theorem dX10_turns_186 : decode cX10_turns 186 = .ok (.iconst 0, 1) := by decide +kernel
theorem dX10_turns_187 : decode cX10_turns 187 = .ok (.istore_n 2, 1) := by decide +kernel
theorem dX10_turns_188 : decode cX10_turns 188 = .ok (.iload_n 2, 1) := by decide +kernel
theorem dX10_turns_189 : decode cX10_turns 189 = .ok (.aload_n 0, 1) := by decide +kernel
theorem dX10_turns_190 : decode cX10_turns 190 = .ok (.getfield 109, 3) := by decide +kernel
theorem dX10_turns_193 : decode cX10_turns 193 = .ok (.if_icmp .ge 106, 3) := by decide +kernel
theorem dX10_turns_196 : decode cX10_turns 196 = .ok (.aload_n 0, 1) := by decide +kernel
theorem dX10_turns_197 : decode cX10_turns 197 = .ok (.getfield 43, 3) := by decide +kernel
theorem dX10_turns_200 : decode cX10_turns 200 = .ok (.iload_n 2, 1) := by decide +kernel
theorem dX10_turns_201 : decode cX10_turns 201 = .ok (.iaload, 1) := by decide +kernel
theorem dX10_turns_202 : decode cX10_turns 202 = .ok (.ifCond .le 91, 3) := by decide +kernel
theorem dX10_turns_205 : decode cX10_turns 205 = .ok (.aload_n 0, 1) := by decide +kernel
theorem dX10_turns_206 : decode cX10_turns 206 = .ok (.getfield 40, 3) := by decide +kernel
theorem dX10_turns_209 : decode cX10_turns 209 = .ok (.iload_n 2, 1) := by decide +kernel
theorem dX10_turns_210 : decode cX10_turns 210 = .ok (.iaload, 1) := by decide +kernel
theorem dX10_turns_211 : decode cX10_turns 211 = .ok (.invokestatic 218, 3) := by decide +kernel
theorem dX10_turns_214 : decode cX10_turns 214 = .ok (.aload_n 0, 1) := by decide +kernel
theorem dX10_turns_215 : decode cX10_turns 215 = .ok (.iload_n 2, 1) := by decide +kernel
theorem dX10_turns_216 : decode cX10_turns 216 = .ok (.invokevirtual 145, 3) := by decide +kernel
theorem dX10_turns_219 : decode cX10_turns 219 = .ok (.if_icmp .lt 14, 3) := by decide +kernel
theorem dX10_turns_222 : decode cX10_turns 222 = .ok (.aload_n 0, 1) := by decide +kernel
theorem dX10_turns_223 : decode cX10_turns 223 = .ok (.getfield 43, 3) := by decide +kernel
theorem dX10_turns_226 : decode cX10_turns 226 = .ok (.iload_n 2, 1) := by decide +kernel
theorem dX10_turns_227 : decode cX10_turns 227 = .ok (.iaload, 1) := by decide +kernel
theorem dX10_turns_228 : decode cX10_turns 228 = .ok (.iconst 1, 1) := by decide +kernel
theorem dX10_turns_229 : decode cX10_turns 229 = .ok (.iadd, 1) := by decide +kernel
theorem dX10_turns_230 : decode cX10_turns 230 = .ok (.goto 11, 3) := by decide +kernel
theorem dX10_turns_233 : decode cX10_turns 233 = .ok (.aload_n 0, 1) := by decide +kernel
theorem dX10_turns_234 : decode cX10_turns 234 = .ok (.getfield 43, 3) := by decide +kernel
theorem dX10_turns_237 : decode cX10_turns 237 = .ok (.iload_n 2, 1) := by decide +kernel
theorem dX10_turns_238 : decode cX10_turns 238 = .ok (.iaload, 1) := by decide +kernel
theorem dX10_turns_239 : decode cX10_turns 239 = .ok (.iconst 2, 1) := by decide +kernel
theorem dX10_turns_240 : decode cX10_turns 240 = .ok (.isub, 1) := by decide +kernel
theorem dX10_turns_241 : decode cX10_turns 241 = .ok (.istore_n 3, 1) := by decide +kernel
theorem dX10_turns_242 : decode cX10_turns 242 = .ok (.aload_n 0, 1) := by decide +kernel
theorem dX10_turns_243 : decode cX10_turns 243 = .ok (.getfield 43, 3) := by decide +kernel
theorem dX10_turns_246 : decode cX10_turns 246 = .ok (.iload_n 2, 1) := by decide +kernel
theorem dX10_turns_247 : decode cX10_turns 247 = .ok (.iload_n 3, 1) := by decide +kernel
theorem dX10_turns_248 : decode cX10_turns 248 = .ok (.bipush 20, 2) := by decide +kernel
theorem dX10_turns_250 : decode cX10_turns 250 = .ok (.if_icmp .le 8, 3) := by decide +kernel
theorem dX10_turns_253 : decode cX10_turns 253 = .ok (.bipush 20, 2) := by decide +kernel
theorem dX10_turns_255 : decode cX10_turns 255 = .ok (.goto 12, 3) := by decide +kernel
theorem dX10_turns_258 : decode cX10_turns 258 = .ok (.iload_n 3, 1) := by decide +kernel
theorem dX10_turns_259 : decode cX10_turns 259 = .ok (.ifCond .ge 7, 3) := by decide +kernel
theorem dX10_turns_262 : decode cX10_turns 262 = .ok (.iconst 0, 1) := by decide +kernel
theorem dX10_turns_263 : decode cX10_turns 263 = .ok (.goto 4, 3) := by decide +kernel
theorem dX10_turns_266 : decode cX10_turns 266 = .ok (.iload_n 3, 1) := by decide +kernel
theorem dX10_turns_267 : decode cX10_turns 267 = .ok (.iastore, 1) := by decide +kernel
theorem dX10_turns_268 : decode cX10_turns 268 = .ok (.aload_n 0, 1) := by decide +kernel
theorem dX10_turns_269 : decode cX10_turns 269 = .ok (.getfield 40, 3) := by decide +kernel
theorem dX10_turns_272 : decode cX10_turns 272 = .ok (.iload_n 2, 1) := by decide +kernel
theorem dX10_turns_273 : decode cX10_turns 273 = .ok (.aload_n 0, 1) := by decide +kernel
theorem dX10_turns_274 : decode cX10_turns 274 = .ok (.getfield 43, 3) := by decide +kernel
theorem dX10_turns_277 : decode cX10_turns 277 = .ok (.iload_n 2, 1) := by decide +kernel
theorem dX10_turns_278 : decode cX10_turns 278 = .ok (.iaload, 1) := by decide +kernel
theorem dX10_turns_279 : decode cX10_turns 279 = .ok (.ifCond .ne 7, 3) := by decide +kernel
theorem dX10_turns_282 : decode cX10_turns 282 = .ok (.iconst 0, 1) := by decide +kernel
theorem dX10_turns_283 : decode cX10_turns 283 = .ok (.goto 9, 3) := by decide +kernel
theorem dX10_turns_286 : decode cX10_turns 286 = .ok (.aload_n 0, 1) := by decide +kernel
theorem dX10_turns_287 : decode cX10_turns 287 = .ok (.getfield 40, 3) := by decide +kernel
theorem dX10_turns_290 : decode cX10_turns 290 = .ok (.iload_n 2, 1) := by decide +kernel
theorem dX10_turns_291 : decode cX10_turns 291 = .ok (.iaload, 1) := by decide +kernel
theorem dX10_turns_292 : decode cX10_turns 292 = .ok (.iastore, 1) := by decide +kernel
theorem dX10_turns_293 : decode cX10_turns 293 = .ok (.iinc 2 1, 3) := by decide +kernel
theorem dX10_turns_296 : decode cX10_turns 296 = .ok (.goto (-108), 3) := by decide +kernel
theorem dX10_turns_299 : decode cX10_turns 299 = .ok (.return_, 1) := by decide +kernel
theorem dX10_isPush_0 : decode cX10_isPush 0 = .ok (.iload_n 1, 1) := by decide +kernel
theorem dX10_isPush_1 : decode cX10_isPush 1 = .ok (.aload_n 0, 1) := by decide +kernel
theorem dX10_isPush_2 : decode cX10_isPush 2 = .ok (.getfield 9, 3) := by decide +kernel
theorem dX10_isPush_5 : decode cX10_isPush 5 = .ok (.bipush 16, 2) := by decide +kernel
theorem dX10_isPush_7 : decode cX10_isPush 7 = .ok (.iaload, 1) := by decide +kernel
theorem dX10_isPush_8 : decode cX10_isPush 8 = .ok (.irem, 1) := by decide +kernel
theorem dX10_isPush_9 : decode cX10_isPush 9 = .ok (.aload_n 0, 1) := by decide +kernel
theorem dX10_isPush_10 : decode cX10_isPush 10 = .ok (.getfield 9, 3) := by decide +kernel
theorem dX10_isPush_13 : decode cX10_isPush 13 = .ok (.bipush 17, 2) := by decide +kernel
theorem dX10_isPush_15 : decode cX10_isPush 15 = .ok (.iaload, 1) := by decide +kernel
theorem dX10_isPush_16 : decode cX10_isPush 16 = .ok (.aload_n 0, 1) := by decide +kernel
theorem dX10_isPush_17 : decode cX10_isPush 17 = .ok (.getfield 9, 3) := by decide +kernel
theorem dX10_isPush_20 : decode cX10_isPush 20 = .ok (.bipush 16, 2) := by decide +kernel
theorem dX10_isPush_22 : decode cX10_isPush 22 = .ok (.iaload, 1) := by decide +kernel
theorem dX10_isPush_23 : decode cX10_isPush 23 = .ok (.irem, 1) := by decide +kernel
theorem dX10_isPush_24 : decode cX10_isPush 24 = .ok (.if_icmp .ne 7, 3) := by decide +kernel
theorem dX10_isPush_27 : decode cX10_isPush 27 = .ok (.iconst 1, 1) := by decide +kernel
theorem dX10_isPush_28 : decode cX10_isPush 28 = .ok (.goto 4, 3) := by decide +kernel
theorem dX10_isPush_31 : decode cX10_isPush 31 = .ok (.iconst 0, 1) := by decide +kernel
theorem dX10_isPush_32 : decode cX10_isPush 32 = .ok (.ireturn, 1) := by decide +kernel
theorem dX10_toOf_0 : decode cX10_toOf 0 = .ok (.iload_n 1, 1) := by decide +kernel
theorem dX10_toOf_1 : decode cX10_toOf 1 = .ok (.aload_n 0, 1) := by decide +kernel
theorem dX10_toOf_2 : decode cX10_toOf 2 = .ok (.getfield 9, 3) := by decide +kernel
theorem dX10_toOf_5 : decode cX10_toOf 5 = .ok (.bipush 16, 2) := by decide +kernel
theorem dX10_toOf_7 : decode cX10_toOf 7 = .ok (.iaload, 1) := by decide +kernel
theorem dX10_toOf_8 : decode cX10_toOf 8 = .ok (.idiv, 1) := by decide +kernel
theorem dX10_toOf_9 : decode cX10_toOf 9 = .ok (.iconst 2, 1) := by decide +kernel
theorem dX10_toOf_10 : decode cX10_toOf 10 = .ok (.irem, 1) := by decide +kernel
theorem dX10_toOf_11 : decode cX10_toOf 11 = .ok (.ifCond .ne 7, 3) := by decide +kernel
theorem dX10_toOf_14 : decode cX10_toOf 14 = .ok (.iconst 0, 1) := by decide +kernel
theorem dX10_toOf_15 : decode cX10_toOf 15 = .ok (.goto 5, 3) := by decide +kernel
theorem dX10_toOf_18 : decode cX10_toOf 18 = .ok (.bipush 12, 2) := by decide +kernel
theorem dX10_toOf_20 : decode cX10_toOf 20 = .ok (.ireturn, 1) := by decide +kernel
theorem dX10_tickGoes_0 : decode cX10_tickGoes 0 = .ok (.aload_n 0, 1) := by decide +kernel
theorem dX10_tickGoes_1 : decode cX10_tickGoes 1 = .ok (.iload_n 1, 1) := by decide +kernel
theorem dX10_tickGoes_2 : decode cX10_tickGoes 2 = .ok (.invokevirtual 228, 3) := by decide +kernel
theorem dX10_tickGoes_5 : decode cX10_tickGoes 5 = .ok (.ifCond .eq 29, 3) := by decide +kernel
theorem dX10_tickGoes_8 : decode cX10_tickGoes 8 = .ok (.aload_n 0, 1) := by decide +kernel
theorem dX10_tickGoes_9 : decode cX10_tickGoes 9 = .ok (.aload_n 0, 1) := by decide +kernel
theorem dX10_tickGoes_10 : decode cX10_tickGoes 10 = .ok (.iload_n 1, 1) := by decide +kernel
theorem dX10_tickGoes_11 : decode cX10_tickGoes 11 = .ok (.invokevirtual 231, 3) := by decide +kernel
theorem dX10_tickGoes_14 : decode cX10_tickGoes 14 = .ok (.aload_n 0, 1) := by decide +kernel
theorem dX10_tickGoes_15 : decode cX10_tickGoes 15 = .ok (.getfield 9, 3) := by decide +kernel
theorem dX10_tickGoes_18 : decode cX10_tickGoes 18 = .ok (.bipush 18, 2) := by decide +kernel
theorem dX10_tickGoes_20 : decode cX10_tickGoes 20 = .ok (.iaload, 1) := by decide +kernel
theorem dX10_tickGoes_21 : decode cX10_tickGoes 21 = .ok (.invokevirtual 234, 3) := by decide +kernel
theorem dX10_tickGoes_24 : decode cX10_tickGoes 24 = .ok (.aload_n 0, 1) := by decide +kernel
theorem dX10_tickGoes_25 : decode cX10_tickGoes 25 = .ok (.dup, 1) := by decide +kernel
theorem dX10_tickGoes_26 : decode cX10_tickGoes 26 = .ok (.getfield 237, 3) := by decide +kernel
theorem dX10_tickGoes_29 : decode cX10_tickGoes 29 = .ok (.iconst 1, 1) := by decide +kernel
theorem dX10_tickGoes_30 : decode cX10_tickGoes 30 = .ok (.iadd, 1) := by decide +kernel
theorem dX10_tickGoes_31 : decode cX10_tickGoes 31 = .ok (.putfield 237, 3) := by decide +kernel
theorem dX10_tickGoes_34 : decode cX10_tickGoes 34 = .ok (.aload_n 0, 1) := by decide +kernel
theorem dX10_tickGoes_35 : decode cX10_tickGoes 35 = .ok (.iload_n 1, 1) := by decide +kernel
theorem dX10_tickGoes_36 : decode cX10_tickGoes 36 = .ok (.invokevirtual 240, 3) := by decide +kernel
theorem dX10_tickGoes_39 : decode cX10_tickGoes 39 = .ok (.return_, 1) := by decide +kernel
theorem dX10_upNow_0 : decode cX10_upNow 0 = .ok (.iconst 0, 1) := by decide +kernel
theorem dX10_upNow_1 : decode cX10_upNow 1 = .ok (.istore_n 1, 1) := by decide +kernel
theorem dX10_upNow_2 : decode cX10_upNow 2 = .ok (.iconst 0, 1) := by decide +kernel
theorem dX10_upNow_3 : decode cX10_upNow 3 = .ok (.istore_n 2, 1) := by decide +kernel
theorem dX10_upNow_4 : decode cX10_upNow 4 = .ok (.iload_n 2, 1) := by decide +kernel
theorem dX10_upNow_5 : decode cX10_upNow 5 = .ok (.aload_n 0, 1) := by decide +kernel
theorem dX10_upNow_6 : decode cX10_upNow 6 = .ok (.getfield 109, 3) := by decide +kernel
theorem dX10_upNow_9 : decode cX10_upNow 9 = .ok (.if_icmp .ge 28, 3) := by decide +kernel
theorem dX10_upNow_12 : decode cX10_upNow 12 = .ok (.iload_n 1, 1) := by decide +kernel
theorem dX10_upNow_13 : decode cX10_upNow 13 = .ok (.aload_n 0, 1) := by decide +kernel
theorem dX10_upNow_14 : decode cX10_upNow 14 = .ok (.getfield 25, 3) := by decide +kernel
theorem dX10_upNow_17 : decode cX10_upNow 17 = .ok (.iload_n 2, 1) := by decide +kernel
theorem dX10_upNow_18 : decode cX10_upNow 18 = .ok (.iaload, 1) := by decide +kernel
theorem dX10_upNow_19 : decode cX10_upNow 19 = .ok (.ifCond .le 9, 3) := by decide +kernel
theorem dX10_upNow_22 : decode cX10_upNow 22 = .ok (.iconst 1, 1) := by decide +kernel
theorem dX10_upNow_23 : decode cX10_upNow 23 = .ok (.iload_n 2, 1) := by decide +kernel
theorem dX10_upNow_24 : decode cX10_upNow 24 = .ok (.ishl, 1) := by decide +kernel
theorem dX10_upNow_25 : decode cX10_upNow 25 = .ok (.goto 4, 3) := by decide +kernel
theorem dX10_upNow_28 : decode cX10_upNow 28 = .ok (.iconst 0, 1) := by decide +kernel
theorem dX10_upNow_29 : decode cX10_upNow 29 = .ok (.ior, 1) := by decide +kernel
theorem dX10_upNow_30 : decode cX10_upNow 30 = .ok (.istore_n 1, 1) := by decide +kernel
theorem dX10_upNow_31 : decode cX10_upNow 31 = .ok (.iinc 2 1, 3) := by decide +kernel
theorem dX10_upNow_34 : decode cX10_upNow 34 = .ok (.goto (-30), 3) := by decide +kernel
theorem dX10_upNow_37 : decode cX10_upNow 37 = .ok (.iload_n 1, 1) := by decide +kernel
theorem dX10_upNow_38 : decode cX10_upNow 38 = .ok (.ireturn, 1) := by decide +kernel
theorem dX10_lyingOf_0 : decode cX10_lyingOf 0 = .ok (.iconst 0, 1) := by decide +kernel
theorem dX10_lyingOf_1 : decode cX10_lyingOf 1 = .ok (.istore_n 2, 1) := by decide +kernel
theorem dX10_lyingOf_2 : decode cX10_lyingOf 2 = .ok (.iconst 0, 1) := by decide +kernel
theorem dX10_lyingOf_3 : decode cX10_lyingOf 3 = .ok (.istore_n 3, 1) := by decide +kernel
theorem dX10_lyingOf_4 : decode cX10_lyingOf 4 = .ok (.iload_n 3, 1) := by decide +kernel
theorem dX10_lyingOf_5 : decode cX10_lyingOf 5 = .ok (.aload_n 0, 1) := by decide +kernel
theorem dX10_lyingOf_6 : decode cX10_lyingOf 6 = .ok (.getfield 109, 3) := by decide +kernel
theorem dX10_lyingOf_9 : decode cX10_lyingOf 9 = .ok (.if_icmp .ge 34, 3) := by decide +kernel
theorem dX10_lyingOf_12 : decode cX10_lyingOf 12 = .ok (.iload_n 2, 1) := by decide +kernel
theorem dX10_lyingOf_13 : decode cX10_lyingOf 13 = .ok (.iload_n 1, 1) := by decide +kernel
theorem dX10_lyingOf_14 : decode cX10_lyingOf 14 = .ok (.iload_n 3, 1) := by decide +kernel
theorem dX10_lyingOf_15 : decode cX10_lyingOf 15 = .ok (.invokestatic 214, 3) := by decide +kernel
theorem dX10_lyingOf_18 : decode cX10_lyingOf 18 = .ok (.ifCond .eq 16, 3) := by decide +kernel
theorem dX10_lyingOf_21 : decode cX10_lyingOf 21 = .ok (.aload_n 0, 1) := by decide +kernel
theorem dX10_lyingOf_22 : decode cX10_lyingOf 22 = .ok (.getfield 43, 3) := by decide +kernel
theorem dX10_lyingOf_25 : decode cX10_lyingOf 25 = .ok (.iload_n 3, 1) := by decide +kernel
theorem dX10_lyingOf_26 : decode cX10_lyingOf 26 = .ok (.iaload, 1) := by decide +kernel
theorem dX10_lyingOf_27 : decode cX10_lyingOf 27 = .ok (.ifCond .ne 7, 3) := by decide +kernel
theorem dX10_lyingOf_30 : decode cX10_lyingOf 30 = .ok (.iconst 1, 1) := by decide +kernel
theorem dX10_lyingOf_31 : decode cX10_lyingOf 31 = .ok (.goto 4, 3) := by decide +kernel
theorem dX10_lyingOf_34 : decode cX10_lyingOf 34 = .ok (.iconst 0, 1) := by decide +kernel
theorem dX10_lyingOf_35 : decode cX10_lyingOf 35 = .ok (.iadd, 1) := by decide +kernel
theorem dX10_lyingOf_36 : decode cX10_lyingOf 36 = .ok (.istore_n 2, 1) := by decide +kernel
theorem dX10_lyingOf_37 : decode cX10_lyingOf 37 = .ok (.iinc 3 1, 3) := by decide +kernel
theorem dX10_lyingOf_40 : decode cX10_lyingOf 40 = .ok (.goto (-36), 3) := by decide +kernel
theorem dX10_lyingOf_43 : decode cX10_lyingOf 43 = .ok (.iload_n 2, 1) := by decide +kernel
theorem dX10_lyingOf_44 : decode cX10_lyingOf 44 = .ok (.ireturn, 1) := by decide +kernel
theorem dX10_go_0 : decode cX10_go 0 = .ok (.iload_n 1, 1) := by decide +kernel
theorem dX10_go_1 : decode cX10_go 1 = .ok (.i2l, 1) := by decide +kernel
theorem dX10_go_2 : decode cX10_go 2 = .ok (.lconst 1, 1) := by decide +kernel
theorem dX10_go_3 : decode cX10_go 3 = .ok (.ldc2_w 244, 3) := by decide +kernel
theorem dX10_go_6 : decode cX10_go 6 = .ok (.invokestatic 101, 3) := by decide +kernel
theorem dX10_go_9 : decode cX10_go 9 = .ok (.ifCond .ne 5, 3) := by decide +kernel
theorem dX10_go_12 : decode cX10_go 12 = .ok (.iconst (-1), 1) := by decide +kernel
theorem dX10_go_13 : decode cX10_go 13 = .ok (.ireturn, 1) := by decide +kernel
theorem dX10_go_14 : decode cX10_go 14 = .ok (.aload_n 0, 1) := by decide +kernel
theorem dX10_go_15 : decode cX10_go 15 = .ok (.invokevirtual 246, 3) := by decide +kernel
theorem dX10_go_18 : decode cX10_go 18 = .ok (.istore_n 2, 1) := by decide +kernel
theorem dX10_go_19 : decode cX10_go 19 = .ok (.aload_n 0, 1) := by decide +kernel
theorem dX10_go_20 : decode cX10_go 20 = .ok (.iload_n 2, 1) := by decide +kernel
theorem dX10_go_21 : decode cX10_go 21 = .ok (.invokevirtual 249, 3) := by decide +kernel
theorem dX10_go_24 : decode cX10_go 24 = .ok (.aload_n 0, 1) := by decide +kernel
theorem dX10_go_25 : decode cX10_go 25 = .ok (.iconst 0, 1) := by decide +kernel
theorem dX10_go_26 : decode cX10_go 26 = .ok (.putfield 237, 3) := by decide +kernel
theorem dX10_go_29 : decode cX10_go 29 = .ok (.iconst 0, 1) := by decide +kernel
theorem dX10_go_30 : decode cX10_go 30 = .ok (.istore_n 3, 1) := by decide +kernel
theorem dX10_go_31 : decode cX10_go 31 = .ok (.iload_n 3, 1) := by decide +kernel
theorem dX10_go_32 : decode cX10_go 32 = .ok (.iload_n 1, 1) := by decide +kernel
theorem dX10_go_33 : decode cX10_go 33 = .ok (.if_icmp .ge 59, 3) := by decide +kernel
theorem dX10_go_36 : decode cX10_go 36 = .ok (.aload_n 0, 1) := by decide +kernel
theorem dX10_go_37 : decode cX10_go 37 = .ok (.iload_n 2, 1) := by decide +kernel
theorem dX10_go_38 : decode cX10_go 38 = .ok (.invokevirtual 252, 3) := by decide +kernel
theorem dX10_go_41 : decode cX10_go 41 = .ok (.istore 4, 2) := by decide +kernel
theorem dX10_go_43 : decode cX10_go 43 = .ok (.aload_n 0, 1) := by decide +kernel
theorem dX10_go_44 : decode cX10_go 44 = .ok (.aload_n 0, 1) := by decide +kernel
theorem dX10_go_45 : decode cX10_go 45 = .ok (.getfield 151, 3) := by decide +kernel
theorem dX10_go_48 : decode cX10_go 48 = .ok (.invokevirtual 255, 3) := by decide +kernel
theorem dX10_go_51 : decode cX10_go 51 = .ok (.aload_n 0, 1) := by decide +kernel
theorem dX10_go_52 : decode cX10_go 52 = .ok (.aload_n 0, 1) := by decide +kernel
theorem dX10_go_53 : decode cX10_go 53 = .ok (.iload_n 2, 1) := by decide +kernel
theorem dX10_go_54 : decode cX10_go 54 = .ok (.invokevirtual 252, 3) := by decide +kernel
theorem dX10_go_57 : decode cX10_go 57 = .ok (.iload 4, 2) := by decide +kernel
theorem dX10_go_59 : decode cX10_go 59 = .ok (.if_icmp .le 10, 3) := by decide +kernel
theorem dX10_go_62 : decode cX10_go 62 = .ok (.aload_n 0, 1) := by decide +kernel
theorem dX10_go_63 : decode cX10_go 63 = .ok (.getfield 151, 3) := by decide +kernel
theorem dX10_go_66 : decode cX10_go 66 = .ok (.goto 7, 3) := by decide +kernel
theorem dX10_go_69 : decode cX10_go 69 = .ok (.aload_n 0, 1) := by decide +kernel
theorem dX10_go_70 : decode cX10_go 70 = .ok (.getfield 46, 3) := by decide +kernel
theorem dX10_go_73 : decode cX10_go 73 = .ok (.putfield 46, 3) := by decide +kernel
theorem dX10_go_76 : decode cX10_go 76 = .ok (.aload_n 0, 1) := by decide +kernel
theorem dX10_go_77 : decode cX10_go 77 = .ok (.dup, 1) := by decide +kernel
theorem dX10_go_78 : decode cX10_go 78 = .ok (.getfield 151, 3) := by decide +kernel
theorem dX10_go_81 : decode cX10_go 81 = .ok (.iconst 1, 1) := by decide +kernel
theorem dX10_go_82 : decode cX10_go 82 = .ok (.iadd, 1) := by decide +kernel
theorem dX10_go_83 : decode cX10_go 83 = .ok (.putfield 151, 3) := by decide +kernel
theorem dX10_go_86 : decode cX10_go 86 = .ok (.iinc 3 1, 3) := by decide +kernel
theorem dX10_go_89 : decode cX10_go 89 = .ok (.goto (-58), 3) := by decide +kernel
theorem dX10_go_92 : decode cX10_go 92 = .ok (.aload_n 0, 1) := by decide +kernel
theorem dX10_go_93 : decode cX10_go 93 = .ok (.dup, 1) := by decide +kernel
theorem dX10_go_94 : decode cX10_go 94 = .ok (.getfield 258, 3) := by decide +kernel
theorem dX10_go_97 : decode cX10_go 97 = .ok (.aload_n 0, 1) := by decide +kernel
theorem dX10_go_98 : decode cX10_go 98 = .ok (.getfield 237, 3) := by decide +kernel
theorem dX10_go_101 : decode cX10_go 101 = .ok (.iadd, 1) := by decide +kernel
theorem dX10_go_102 : decode cX10_go 102 = .ok (.putfield 258, 3) := by decide +kernel
theorem dX10_go_105 : decode cX10_go 105 = .ok (.iconst 0, 1) := by decide +kernel
theorem dX10_go_106 : decode cX10_go 106 = .ok (.istore_n 3, 1) := by decide +kernel
theorem dX10_go_107 : decode cX10_go 107 = .ok (.iload_n 3, 1) := by decide +kernel
theorem dX10_go_108 : decode cX10_go 108 = .ok (.aload_n 0, 1) := by decide +kernel
theorem dX10_go_109 : decode cX10_go 109 = .ok (.getfield 109, 3) := by decide +kernel
theorem dX10_go_112 : decode cX10_go 112 = .ok (.if_icmp .ge 48, 3) := by decide +kernel
theorem dX10_go_115 : decode cX10_go 115 = .ok (.aload_n 0, 1) := by decide +kernel
theorem dX10_go_116 : decode cX10_go 116 = .ok (.getfield 22, 3) := by decide +kernel
theorem dX10_go_119 : decode cX10_go 119 = .ok (.iload_n 3, 1) := by decide +kernel
theorem dX10_go_120 : decode cX10_go 120 = .ok (.aload_n 0, 1) := by decide +kernel
theorem dX10_go_121 : decode cX10_go 121 = .ok (.getfield 37, 3) := by decide +kernel
theorem dX10_go_124 : decode cX10_go 124 = .ok (.iload_n 3, 1) := by decide +kernel
theorem dX10_go_125 : decode cX10_go 125 = .ok (.iaload, 1) := by decide +kernel
theorem dX10_go_126 : decode cX10_go 126 = .ok (.iastore, 1) := by decide +kernel
theorem dX10_go_127 : decode cX10_go 127 = .ok (.aload_n 0, 1) := by decide +kernel
theorem dX10_go_128 : decode cX10_go 128 = .ok (.getfield 9, 3) := by decide +kernel
theorem dX10_go_131 : decode cX10_go 131 = .ok (.bipush 10, 2) := by decide +kernel
theorem dX10_go_133 : decode cX10_go 133 = .ok (.iload_n 3, 1) := by decide +kernel
theorem dX10_go_134 : decode cX10_go 134 = .ok (.iadd, 1) := by decide +kernel
theorem dX10_go_135 : decode cX10_go 135 = .ok (.aload_n 0, 1) := by decide +kernel
theorem dX10_go_136 : decode cX10_go 136 = .ok (.getfield 40, 3) := by decide +kernel
theorem dX10_go_139 : decode cX10_go 139 = .ok (.iload_n 3, 1) := by decide +kernel
theorem dX10_go_140 : decode cX10_go 140 = .ok (.iaload, 1) := by decide +kernel
theorem dX10_go_141 : decode cX10_go 141 = .ok (.iastore, 1) := by decide +kernel
theorem dX10_go_142 : decode cX10_go 142 = .ok (.aload_n 0, 1) := by decide +kernel
theorem dX10_go_143 : decode cX10_go 143 = .ok (.getfield 25, 3) := by decide +kernel
theorem dX10_go_146 : decode cX10_go 146 = .ok (.iload_n 3, 1) := by decide +kernel
theorem dX10_go_147 : decode cX10_go 147 = .ok (.aload_n 0, 1) := by decide +kernel
theorem dX10_go_148 : decode cX10_go 148 = .ok (.getfield 43, 3) := by decide +kernel
theorem dX10_go_151 : decode cX10_go 151 = .ok (.iload_n 3, 1) := by decide +kernel
theorem dX10_go_152 : decode cX10_go 152 = .ok (.iaload, 1) := by decide +kernel
theorem dX10_go_153 : decode cX10_go 153 = .ok (.iastore, 1) := by decide +kernel
theorem dX10_go_154 : decode cX10_go 154 = .ok (.iinc 3 1, 3) := by decide +kernel
theorem dX10_go_157 : decode cX10_go 157 = .ok (.goto (-50), 3) := by decide +kernel
theorem dX10_go_160 : decode cX10_go 160 = .ok (.aload_n 0, 1) := by decide +kernel
theorem dX10_go_161 : decode cX10_go 161 = .ok (.invokevirtual 246, 3) := by decide +kernel
theorem dX10_go_164 : decode cX10_go 164 = .ok (.invokestatic 261, 3) := by decide +kernel
theorem dX10_go_167 : decode cX10_go 167 = .ok (.ireturn, 1) := by decide +kernel
theorem dX10_lift_0 : decode cX10_lift 0 = .ok (.aload_n 0, 1) := by decide +kernel
theorem dX10_lift_1 : decode cX10_lift 1 = .ok (.iload_n 1, 1) := by decide +kernel
theorem dX10_lift_2 : decode cX10_lift 2 = .ok (.invokevirtual 133, 3) := by decide +kernel
theorem dX10_lift_5 : decode cX10_lift 5 = .ok (.ifCond .ne 5, 3) := by decide +kernel
theorem dX10_lift_8 : decode cX10_lift 8 = .ok (.iconst (-1), 1) := by decide +kernel
theorem dX10_lift_9 : decode cX10_lift 9 = .ok (.ireturn, 1) := by decide +kernel
theorem dX10_lift_10 : decode cX10_lift 10 = .ok (.aload_n 0, 1) := by decide +kernel
theorem dX10_lift_11 : decode cX10_lift 11 = .ok (.getfield 25, 3) := by decide +kernel
theorem dX10_lift_14 : decode cX10_lift 14 = .ok (.iload_n 1, 1) := by decide +kernel
theorem dX10_lift_15 : decode cX10_lift 15 = .ok (.iaload, 1) := by decide +kernel
theorem dX10_lift_16 : decode cX10_lift 16 = .ok (.ifCond .le 6, 3) := by decide +kernel
theorem dX10_lift_19 : decode cX10_lift 19 = .ok (.bipush (-5), 2) := by decide +kernel
theorem dX10_lift_21 : decode cX10_lift 21 = .ok (.ireturn, 1) := by decide +kernel
theorem dX10_lift_22 : decode cX10_lift 22 = .ok (.aload_n 0, 1) := by decide +kernel
theorem dX10_lift_23 : decode cX10_lift 23 = .ok (.getfield 25, 3) := by decide +kernel
theorem dX10_lift_26 : decode cX10_lift 26 = .ok (.iload_n 1, 1) := by decide +kernel
theorem dX10_lift_27 : decode cX10_lift 27 = .ok (.bipush 20, 2) := by decide +kernel
theorem dX10_lift_29 : decode cX10_lift 29 = .ok (.iastore, 1) := by decide +kernel
theorem dX10_lift_30 : decode cX10_lift 30 = .ok (.aload_n 0, 1) := by decide +kernel
theorem dX10_lift_31 : decode cX10_lift 31 = .ok (.getfield 22, 3) := by decide +kernel
theorem dX10_lift_34 : decode cX10_lift 34 = .ok (.iload_n 1, 1) := by decide +kernel
theorem dX10_lift_35 : decode cX10_lift 35 = .ok (.iconst 0, 1) := by decide +kernel
theorem dX10_lift_36 : decode cX10_lift 36 = .ok (.iastore, 1) := by decide +kernel
theorem dX10_lift_37 : decode cX10_lift 37 = .ok (.aload_n 0, 1) := by decide +kernel
theorem dX10_lift_38 : decode cX10_lift 38 = .ok (.getfield 9, 3) := by decide +kernel
theorem dX10_lift_41 : decode cX10_lift 41 = .ok (.bipush 10, 2) := by decide +kernel
theorem dX10_lift_43 : decode cX10_lift 43 = .ok (.iload_n 1, 1) := by decide +kernel
theorem dX10_lift_44 : decode cX10_lift 44 = .ok (.iadd, 1) := by decide +kernel
theorem dX10_lift_45 : decode cX10_lift 45 = .ok (.iconst 4, 1) := by decide +kernel
theorem dX10_lift_46 : decode cX10_lift 46 = .ok (.iastore, 1) := by decide +kernel
theorem dX10_lift_47 : decode cX10_lift 47 = .ok (.iload_n 1, 1) := by decide +kernel
theorem dX10_lift_48 : decode cX10_lift 48 = .ok (.ireturn, 1) := by decide +kernel
theorem dX10_led_0 : decode cX10_led 0 = .ok (.iload_n 1, 1) := by decide +kernel
theorem dX10_led_1 : decode cX10_led 1 = .ok (.ifCond .ne 10, 3) := by decide +kernel
theorem dX10_led_4 : decode cX10_led 4 = .ok (.aload_n 0, 1) := by decide +kernel
theorem dX10_led_5 : decode cX10_led 5 = .ok (.getfield 258, 3) := by decide +kernel
theorem dX10_led_8 : decode cX10_led 8 = .ok (.goto 16, 3) := by decide +kernel
theorem dX10_led_11 : decode cX10_led 11 = .ok (.iload_n 1, 1) := by decide +kernel
theorem dX10_led_12 : decode cX10_led 12 = .ok (.iconst 1, 1) := by decide +kernel
theorem dX10_led_13 : decode cX10_led 13 = .ok (.if_icmp .ne 10, 3) := by decide +kernel
theorem dX10_led_16 : decode cX10_led 16 = .ok (.aload_n 0, 1) := by decide +kernel
theorem dX10_led_17 : decode cX10_led 17 = .ok (.getfield 46, 3) := by decide +kernel
theorem dX10_led_20 : decode cX10_led 20 = .ok (.goto 4, 3) := by decide +kernel
theorem dX10_led_23 : decode cX10_led 23 = .ok (.iconst (-1), 1) := by decide +kernel
theorem dX10_led_24 : decode cX10_led 24 = .ok (.ireturn, 1) := by decide +kernel
theorem dX10_then_0 : decode cX10_then 0 = .ok (.aload_n 0, 1) := by decide +kernel
theorem dX10_then_1 : decode cX10_then 1 = .ok (.iload_n 1, 1) := by decide +kernel
theorem dX10_then_2 : decode cX10_then 2 = .ok (.invokevirtual 133, 3) := by decide +kernel
theorem dX10_then_5 : decode cX10_then 5 = .ok (.ifCond .eq 27, 3) := by decide +kernel
theorem dX10_then_8 : decode cX10_then 8 = .ok (.iload_n 2, 1) := by decide +kernel
theorem dX10_then_9 : decode cX10_then 9 = .ok (.i2l, 1) := by decide +kernel
theorem dX10_then_10 : decode cX10_then 10 = .ok (.lconst 0, 1) := by decide +kernel
theorem dX10_then_11 : decode cX10_then 11 = .ok (.ldc2_w 244, 3) := by decide +kernel
theorem dX10_then_14 : decode cX10_then 14 = .ok (.invokestatic 101, 3) := by decide +kernel
theorem dX10_then_17 : decode cX10_then 17 = .ok (.ifCond .eq 15, 3) := by decide +kernel
theorem dX10_then_20 : decode cX10_then 20 = .ok (.iload_n 3, 1) := by decide +kernel
theorem dX10_then_21 : decode cX10_then 21 = .ok (.i2l, 1) := by decide +kernel
theorem dX10_then_22 : decode cX10_then 22 = .ok (.lconst 0, 1) := by decide +kernel
theorem dX10_then_23 : decode cX10_then 23 = .ok (.ldc2_w 131, 3) := by decide +kernel
theorem dX10_then_26 : decode cX10_then 26 = .ok (.invokestatic 101, 3) := by decide +kernel
theorem dX10_then_29 : decode cX10_then 29 = .ok (.ifCond .ne 6, 3) := by decide +kernel
theorem dX10_then_32 : decode cX10_then 32 = .ok (.ldc 140, 2) := by decide +kernel
theorem dX10_then_34 : decode cX10_then 34 = .ok (.ireturn, 1) := by decide +kernel
theorem dX10_then_35 : decode cX10_then 35 = .ok (.aload_n 0, 1) := by decide +kernel
theorem dX10_then_36 : decode cX10_then 36 = .ok (.aload_n 0, 1) := by decide +kernel
theorem dX10_then_37 : decode cX10_then 37 = .ok (.invokevirtual 246, 3) := by decide +kernel
theorem dX10_then_40 : decode cX10_then 40 = .ok (.invokevirtual 249, 3) := by decide +kernel
theorem dX10_then_43 : decode cX10_then 43 = .ok (.iconst 0, 1) := by decide +kernel
theorem dX10_then_44 : decode cX10_then 44 = .ok (.istore 4, 2) := by decide +kernel
theorem dX10_then_46 : decode cX10_then 46 = .ok (.iload 4, 2) := by decide +kernel
theorem dX10_then_48 : decode cX10_then 48 = .ok (.iload_n 2, 1) := by decide +kernel
theorem dX10_then_49 : decode cX10_then 49 = .ok (.if_icmp .ge 20, 3) := by decide +kernel
theorem dX10_then_52 : decode cX10_then 52 = .ok (.aload_n 0, 1) := by decide +kernel
theorem dX10_then_53 : decode cX10_then 53 = .ok (.aload_n 0, 1) := by decide +kernel
theorem dX10_then_54 : decode cX10_then 54 = .ok (.getfield 151, 3) := by decide +kernel
theorem dX10_then_57 : decode cX10_then 57 = .ok (.iload 4, 2) := by decide +kernel
theorem dX10_then_59 : decode cX10_then 59 = .ok (.iadd, 1) := by decide +kernel
theorem dX10_then_60 : decode cX10_then 60 = .ok (.invokevirtual 255, 3) := by decide +kernel
theorem dX10_then_63 : decode cX10_then 63 = .ok (.iinc 4 1, 3) := by decide +kernel
theorem dX10_then_66 : decode cX10_then 66 = .ok (.goto (-20), 3) := by decide +kernel
theorem dX10_then_69 : decode cX10_then 69 = .ok (.iload_n 3, 1) := by decide +kernel
theorem dX10_then_70 : decode cX10_then 70 = .ok (.ifCond .ne 12, 3) := by decide +kernel
theorem dX10_then_73 : decode cX10_then 73 = .ok (.aload_n 0, 1) := by decide +kernel
theorem dX10_then_74 : decode cX10_then 74 = .ok (.getfield 37, 3) := by decide +kernel
theorem dX10_then_77 : decode cX10_then 77 = .ok (.iload_n 1, 1) := by decide +kernel
theorem dX10_then_78 : decode cX10_then 78 = .ok (.iaload, 1) := by decide +kernel
theorem dX10_then_79 : decode cX10_then 79 = .ok (.goto 23, 3) := by decide +kernel
theorem dX10_then_82 : decode cX10_then 82 = .ok (.iload_n 3, 1) := by decide +kernel
theorem dX10_then_83 : decode cX10_then 83 = .ok (.iconst 1, 1) := by decide +kernel
theorem dX10_then_84 : decode cX10_then 84 = .ok (.if_icmp .ne 12, 3) := by decide +kernel
theorem dX10_then_87 : decode cX10_then 87 = .ok (.aload_n 0, 1) := by decide +kernel
theorem dX10_then_88 : decode cX10_then 88 = .ok (.getfield 40, 3) := by decide +kernel
theorem dX10_then_91 : decode cX10_then 91 = .ok (.iload_n 1, 1) := by decide +kernel
theorem dX10_then_92 : decode cX10_then 92 = .ok (.iaload, 1) := by decide +kernel
theorem dX10_then_93 : decode cX10_then 93 = .ok (.goto 9, 3) := by decide +kernel
theorem dX10_then_96 : decode cX10_then 96 = .ok (.aload_n 0, 1) := by decide +kernel
theorem dX10_then_97 : decode cX10_then 97 = .ok (.getfield 43, 3) := by decide +kernel
theorem dX10_then_100 : decode cX10_then 100 = .ok (.iload_n 1, 1) := by decide +kernel
theorem dX10_then_101 : decode cX10_then 101 = .ok (.iaload, 1) := by decide +kernel
theorem dX10_then_102 : decode cX10_then 102 = .ok (.ireturn, 1) := by decide +kernel
theorem dX10_fallOf_0 : decode cX10_fallOf 0 = .ok (.aload_n 0, 1) := by decide +kernel
theorem dX10_fallOf_1 : decode cX10_fallOf 1 = .ok (.aload_n 0, 1) := by decide +kernel
theorem dX10_fallOf_2 : decode cX10_fallOf 2 = .ok (.invokevirtual 246, 3) := by decide +kernel
theorem dX10_fallOf_5 : decode cX10_fallOf 5 = .ok (.invokevirtual 249, 3) := by decide +kernel
theorem dX10_fallOf_8 : decode cX10_fallOf 8 = .ok (.iconst 0, 1) := by decide +kernel
theorem dX10_fallOf_9 : decode cX10_fallOf 9 = .ok (.istore_n 2, 1) := by decide +kernel
theorem dX10_fallOf_10 : decode cX10_fallOf 10 = .ok (.iload_n 2, 1) := by decide +kernel
theorem dX10_fallOf_11 : decode cX10_fallOf 11 = .ok (.sipush 200, 3) := by decide +kernel
theorem dX10_fallOf_14 : decode cX10_fallOf 14 = .ok (.if_icmp .gt 30, 3) := by decide +kernel
theorem dX10_fallOf_17 : decode cX10_fallOf 17 = .ok (.aload_n 0, 1) := by decide +kernel
theorem dX10_fallOf_18 : decode cX10_fallOf 18 = .ok (.getfield 43, 3) := by decide +kernel
theorem dX10_fallOf_21 : decode cX10_fallOf 21 = .ok (.iload_n 1, 1) := by decide +kernel
theorem dX10_fallOf_22 : decode cX10_fallOf 22 = .ok (.iaload, 1) := by decide +kernel
theorem dX10_fallOf_23 : decode cX10_fallOf 23 = .ok (.ifCond .ne 5, 3) := by decide +kernel
theorem dX10_fallOf_26 : decode cX10_fallOf 26 = .ok (.iload_n 2, 1) := by decide +kernel
theorem dX10_fallOf_27 : decode cX10_fallOf 27 = .ok (.ireturn, 1) := by decide +kernel
theorem dX10_fallOf_28 : decode cX10_fallOf 28 = .ok (.aload_n 0, 1) := by decide +kernel
theorem dX10_fallOf_29 : decode cX10_fallOf 29 = .ok (.aload_n 0, 1) := by decide +kernel
theorem dX10_fallOf_30 : decode cX10_fallOf 30 = .ok (.getfield 151, 3) := by decide +kernel
theorem dX10_fallOf_33 : decode cX10_fallOf 33 = .ok (.iload_n 2, 1) := by decide +kernel
theorem dX10_fallOf_34 : decode cX10_fallOf 34 = .ok (.iadd, 1) := by decide +kernel
theorem dX10_fallOf_35 : decode cX10_fallOf 35 = .ok (.invokevirtual 255, 3) := by decide +kernel
theorem dX10_fallOf_38 : decode cX10_fallOf 38 = .ok (.iinc 2 1, 3) := by decide +kernel
theorem dX10_fallOf_41 : decode cX10_fallOf 41 = .ok (.goto (-31), 3) := by decide +kernel
theorem dX10_fallOf_44 : decode cX10_fallOf 44 = .ok (.sipush 201, 3) := by decide +kernel
theorem dX10_fallOf_47 : decode cX10_fallOf 47 = .ok (.ireturn, 1) := by decide +kernel
theorem dX10_falls_0 : decode cX10_falls 0 = .ok (.aload_n 0, 1) := by decide +kernel
theorem dX10_falls_1 : decode cX10_falls 1 = .ok (.iload_n 1, 1) := by decide +kernel
theorem dX10_falls_2 : decode cX10_falls 2 = .ok (.invokevirtual 133, 3) := by decide +kernel
theorem dX10_falls_5 : decode cX10_falls 5 = .ok (.ifCond .ne 5, 3) := by decide +kernel
theorem dX10_falls_8 : decode cX10_falls 8 = .ok (.iconst (-1), 1) := by decide +kernel
theorem dX10_falls_9 : decode cX10_falls 9 = .ok (.ireturn, 1) := by decide +kernel
theorem dX10_falls_10 : decode cX10_falls 10 = .ok (.aload_n 0, 1) := by decide +kernel
theorem dX10_falls_11 : decode cX10_falls 11 = .ok (.iload_n 1, 1) := by decide +kernel
theorem dX10_falls_12 : decode cX10_falls 12 = .ok (.invokevirtual 264, 3) := by decide +kernel
theorem dX10_falls_15 : decode cX10_falls 15 = .ok (.istore_n 2, 1) := by decide +kernel
theorem dX10_falls_16 : decode cX10_falls 16 = .ok (.iload_n 2, 1) := by decide +kernel
theorem dX10_falls_17 : decode cX10_falls 17 = .ok (.sipush 201, 3) := by decide +kernel
theorem dX10_falls_20 : decode cX10_falls 20 = .ok (.if_icmp .ne 8, 3) := by decide +kernel
theorem dX10_falls_23 : decode cX10_falls 23 = .ok (.bipush (-2), 2) := by decide +kernel
theorem dX10_falls_25 : decode cX10_falls 25 = .ok (.goto 4, 3) := by decide +kernel
theorem dX10_falls_28 : decode cX10_falls 28 = .ok (.iload_n 2, 1) := by decide +kernel
theorem dX10_falls_29 : decode cX10_falls 29 = .ok (.ireturn, 1) := by decide +kernel
theorem dX10_lastsOf_0 : decode cX10_lastsOf 0 = .ok (.aload_n 0, 1) := by decide +kernel
theorem dX10_lastsOf_1 : decode cX10_lastsOf 1 = .ok (.iload_n 1, 1) := by decide +kernel
theorem dX10_lastsOf_2 : decode cX10_lastsOf 2 = .ok (.invokevirtual 249, 3) := by decide +kernel
theorem dX10_lastsOf_5 : decode cX10_lastsOf 5 = .ok (.iconst 0, 1) := by decide +kernel
theorem dX10_lastsOf_6 : decode cX10_lastsOf 6 = .ok (.istore_n 2, 1) := by decide +kernel
theorem dX10_lastsOf_7 : decode cX10_lastsOf 7 = .ok (.iload_n 2, 1) := by decide +kernel
theorem dX10_lastsOf_8 : decode cX10_lastsOf 8 = .ok (.sipush 200, 3) := by decide +kernel
theorem dX10_lastsOf_11 : decode cX10_lastsOf 11 = .ok (.if_icmp .ge 29, 3) := by decide +kernel
theorem dX10_lastsOf_14 : decode cX10_lastsOf 14 = .ok (.aload_n 0, 1) := by decide +kernel
theorem dX10_lastsOf_15 : decode cX10_lastsOf 15 = .ok (.aload_n 0, 1) := by decide +kernel
theorem dX10_lastsOf_16 : decode cX10_lastsOf 16 = .ok (.getfield 151, 3) := by decide +kernel
theorem dX10_lastsOf_19 : decode cX10_lastsOf 19 = .ok (.iload_n 2, 1) := by decide +kernel
theorem dX10_lastsOf_20 : decode cX10_lastsOf 20 = .ok (.iadd, 1) := by decide +kernel
theorem dX10_lastsOf_21 : decode cX10_lastsOf 21 = .ok (.invokevirtual 255, 3) := by decide +kernel
theorem dX10_lastsOf_24 : decode cX10_lastsOf 24 = .ok (.aload_n 0, 1) := by decide +kernel
theorem dX10_lastsOf_25 : decode cX10_lastsOf 25 = .ok (.iload_n 1, 1) := by decide +kernel
theorem dX10_lastsOf_26 : decode cX10_lastsOf 26 = .ok (.invokevirtual 252, 3) := by decide +kernel
theorem dX10_lastsOf_29 : decode cX10_lastsOf 29 = .ok (.ifCond .le 5, 3) := by decide +kernel
theorem dX10_lastsOf_32 : decode cX10_lastsOf 32 = .ok (.iload_n 2, 1) := by decide +kernel
theorem dX10_lastsOf_33 : decode cX10_lastsOf 33 = .ok (.ireturn, 1) := by decide +kernel
theorem dX10_lastsOf_34 : decode cX10_lastsOf 34 = .ok (.iinc 2 1, 3) := by decide +kernel
theorem dX10_lastsOf_37 : decode cX10_lastsOf 37 = .ok (.goto (-30), 3) := by decide +kernel
theorem dX10_lastsOf_40 : decode cX10_lastsOf 40 = .ok (.sipush 200, 3) := by decide +kernel
theorem dX10_lastsOf_43 : decode cX10_lastsOf 43 = .ok (.ireturn, 1) := by decide +kernel
theorem dX10_lasts_0 : decode cX10_lasts 0 = .ok (.aload_n 0, 1) := by decide +kernel
theorem dX10_lasts_1 : decode cX10_lasts 1 = .ok (.aload_n 0, 1) := by decide +kernel
theorem dX10_lasts_2 : decode cX10_lasts 2 = .ok (.invokevirtual 246, 3) := by decide +kernel
theorem dX10_lasts_5 : decode cX10_lasts 5 = .ok (.invokevirtual 267, 3) := by decide +kernel
theorem dX10_lasts_8 : decode cX10_lasts 8 = .ok (.ireturn, 1) := by decide +kernel
theorem dX10_beatFor_0 : decode cX10_beatFor 0 = .ok (.iload_n 1, 1) := by decide +kernel
theorem dX10_beatFor_1 : decode cX10_beatFor 1 = .ok (.i2l, 1) := by decide +kernel
theorem dX10_beatFor_2 : decode cX10_beatFor 2 = .ok (.lconst 0, 1) := by decide +kernel
theorem dX10_beatFor_3 : decode cX10_beatFor 3 = .ok (.lconst 1, 1) := by decide +kernel
theorem dX10_beatFor_4 : decode cX10_beatFor 4 = .ok (.invokestatic 101, 3) := by decide +kernel
theorem dX10_beatFor_7 : decode cX10_beatFor 7 = .ok (.ifCond .ne 5, 3) := by decide +kernel
theorem dX10_beatFor_10 : decode cX10_beatFor 10 = .ok (.iconst (-1), 1) := by decide +kernel
theorem dX10_beatFor_11 : decode cX10_beatFor 11 = .ok (.ireturn, 1) := by decide +kernel
theorem dX10_beatFor_12 : decode cX10_beatFor 12 = .ok (.aload_n 0, 1) := by decide +kernel
theorem dX10_beatFor_13 : decode cX10_beatFor 13 = .ok (.getfield 9, 3) := by decide +kernel
theorem dX10_beatFor_16 : decode cX10_beatFor 16 = .ok (.bipush 16, 2) := by decide +kernel
theorem dX10_beatFor_18 : decode cX10_beatFor 18 = .ok (.iaload, 1) := by decide +kernel
theorem dX10_beatFor_19 : decode cX10_beatFor 19 = .ok (.istore_n 2, 1) := by decide +kernel
theorem dX10_beatFor_20 : decode cX10_beatFor 20 = .ok (.aload_n 0, 1) := by decide +kernel
theorem dX10_beatFor_21 : decode cX10_beatFor 21 = .ok (.getfield 9, 3) := by decide +kernel
theorem dX10_beatFor_24 : decode cX10_beatFor 24 = .ok (.bipush 17, 2) := by decide +kernel
theorem dX10_beatFor_26 : decode cX10_beatFor 26 = .ok (.iaload, 1) := by decide +kernel
theorem dX10_beatFor_27 : decode cX10_beatFor 27 = .ok (.istore_n 3, 1) := by decide +kernel
theorem dX10_beatFor_28 : decode cX10_beatFor 28 = .ok (.iconst 0, 1) := by decide +kernel
theorem dX10_beatFor_29 : decode cX10_beatFor 29 = .ok (.istore 4, 2) := by decide +kernel
theorem dX10_beatFor_31 : decode cX10_beatFor 31 = .ok (.iconst (-1), 1) := by decide +kernel
theorem dX10_beatFor_32 : decode cX10_beatFor 32 = .ok (.istore 5, 2) := by decide +kernel
theorem dX10_beatFor_34 : decode cX10_beatFor 34 = .ok (.iconst 2, 1) := by decide +kernel
theorem dX10_beatFor_35 : decode cX10_beatFor 35 = .ok (.istore 6, 2) := by decide +kernel
theorem dX10_beatFor_37 : decode cX10_beatFor 37 = .ok (.iload 6, 2) := by decide +kernel
theorem dX10_beatFor_39 : decode cX10_beatFor 39 = .ok (.bipush 24, 2) := by decide +kernel
theorem dX10_beatFor_41 : decode cX10_beatFor 41 = .ok (.if_icmp .gt 87, 3) := by decide +kernel
theorem dX10_beatFor_44 : decode cX10_beatFor 44 = .ok (.iconst 0, 1) := by decide +kernel
theorem dX10_beatFor_45 : decode cX10_beatFor 45 = .ok (.istore 7, 2) := by decide +kernel
theorem dX10_beatFor_47 : decode cX10_beatFor 47 = .ok (.iload 7, 2) := by decide +kernel
theorem dX10_beatFor_49 : decode cX10_beatFor 49 = .ok (.iload 6, 2) := by decide +kernel
theorem dX10_beatFor_51 : decode cX10_beatFor 51 = .ok (.if_icmp .ge 71, 3) := by decide +kernel
theorem dX10_beatFor_54 : decode cX10_beatFor 54 = .ok (.aload_n 0, 1) := by decide +kernel
theorem dX10_beatFor_55 : decode cX10_beatFor 55 = .ok (.getfield 9, 3) := by decide +kernel
theorem dX10_beatFor_58 : decode cX10_beatFor 58 = .ok (.bipush 16, 2) := by decide +kernel
theorem dX10_beatFor_60 : decode cX10_beatFor 60 = .ok (.iload 6, 2) := by decide +kernel
theorem dX10_beatFor_62 : decode cX10_beatFor 62 = .ok (.iastore, 1) := by decide +kernel
theorem dX10_beatFor_63 : decode cX10_beatFor 63 = .ok (.aload_n 0, 1) := by decide +kernel
theorem dX10_beatFor_64 : decode cX10_beatFor 64 = .ok (.getfield 9, 3) := by decide +kernel
theorem dX10_beatFor_67 : decode cX10_beatFor 67 = .ok (.bipush 17, 2) := by decide +kernel
theorem dX10_beatFor_69 : decode cX10_beatFor 69 = .ok (.iload 7, 2) := by decide +kernel
theorem dX10_beatFor_71 : decode cX10_beatFor 71 = .ok (.iastore, 1) := by decide +kernel
theorem dX10_beatFor_72 : decode cX10_beatFor 72 = .ok (.aload_n 0, 1) := by decide +kernel
theorem dX10_beatFor_73 : decode cX10_beatFor 73 = .ok (.invokevirtual 270, 3) := by decide +kernel
theorem dX10_beatFor_76 : decode cX10_beatFor 76 = .ok (.istore 8, 2) := by decide +kernel
theorem dX10_beatFor_78 : decode cX10_beatFor 78 = .ok (.iload 8, 2) := by decide +kernel
theorem dX10_beatFor_80 : decode cX10_beatFor 80 = .ok (.iload 5, 2) := by decide +kernel
theorem dX10_beatFor_82 : decode cX10_beatFor 82 = .ok (.if_icmp .le 14, 3) := by decide +kernel
theorem dX10_beatFor_85 : decode cX10_beatFor 85 = .ok (.bipush 100, 2) := by decide +kernel
theorem dX10_beatFor_87 : decode cX10_beatFor 87 = .ok (.iload 6, 2) := by decide +kernel
theorem dX10_beatFor_89 : decode cX10_beatFor 89 = .ok (.imul, 1) := by decide +kernel
theorem dX10_beatFor_90 : decode cX10_beatFor 90 = .ok (.iload 7, 2) := by decide +kernel
theorem dX10_beatFor_92 : decode cX10_beatFor 92 = .ok (.iadd, 1) := by decide +kernel
theorem dX10_beatFor_93 : decode cX10_beatFor 93 = .ok (.goto 5, 3) := by decide +kernel
theorem dX10_beatFor_96 : decode cX10_beatFor 96 = .ok (.iload 4, 2) := by decide +kernel
theorem dX10_beatFor_98 : decode cX10_beatFor 98 = .ok (.istore 4, 2) := by decide +kernel
theorem dX10_beatFor_100 : decode cX10_beatFor 100 = .ok (.iload 8, 2) := by decide +kernel
theorem dX10_beatFor_102 : decode cX10_beatFor 102 = .ok (.iload 5, 2) := by decide +kernel
theorem dX10_beatFor_104 : decode cX10_beatFor 104 = .ok (.if_icmp .le 8, 3) := by decide +kernel
theorem dX10_beatFor_107 : decode cX10_beatFor 107 = .ok (.iload 8, 2) := by decide +kernel
theorem dX10_beatFor_109 : decode cX10_beatFor 109 = .ok (.goto 5, 3) := by decide +kernel
theorem dX10_beatFor_112 : decode cX10_beatFor 112 = .ok (.iload 5, 2) := by decide +kernel
theorem dX10_beatFor_114 : decode cX10_beatFor 114 = .ok (.istore 5, 2) := by decide +kernel
theorem dX10_beatFor_116 : decode cX10_beatFor 116 = .ok (.iinc 7 1, 3) := by decide +kernel
theorem dX10_beatFor_119 : decode cX10_beatFor 119 = .ok (.goto (-72), 3) := by decide +kernel
theorem dX10_beatFor_122 : decode cX10_beatFor 122 = .ok (.iinc 6 1, 3) := by decide +kernel
theorem dX10_beatFor_125 : decode cX10_beatFor 125 = .ok (.goto (-88), 3) := by decide +kernel
theorem dX10_beatFor_128 : decode cX10_beatFor 128 = .ok (.aload_n 0, 1) := by decide +kernel
theorem dX10_beatFor_129 : decode cX10_beatFor 129 = .ok (.getfield 9, 3) := by decide +kernel
theorem dX10_beatFor_132 : decode cX10_beatFor 132 = .ok (.bipush 16, 2) := by decide +kernel
theorem dX10_beatFor_134 : decode cX10_beatFor 134 = .ok (.iload_n 2, 1) := by decide +kernel
theorem dX10_beatFor_135 : decode cX10_beatFor 135 = .ok (.iastore, 1) := by decide +kernel
theorem dX10_beatFor_136 : decode cX10_beatFor 136 = .ok (.aload_n 0, 1) := by decide +kernel
theorem dX10_beatFor_137 : decode cX10_beatFor 137 = .ok (.getfield 9, 3) := by decide +kernel
theorem dX10_beatFor_140 : decode cX10_beatFor 140 = .ok (.bipush 17, 2) := by decide +kernel
theorem dX10_beatFor_142 : decode cX10_beatFor 142 = .ok (.iload_n 3, 1) := by decide +kernel
theorem dX10_beatFor_143 : decode cX10_beatFor 143 = .ok (.iastore, 1) := by decide +kernel
theorem dX10_beatFor_144 : decode cX10_beatFor 144 = .ok (.iload_n 1, 1) := by decide +kernel
theorem dX10_beatFor_145 : decode cX10_beatFor 145 = .ok (.ifCond .ne 8, 3) := by decide +kernel
theorem dX10_beatFor_148 : decode cX10_beatFor 148 = .ok (.iload 4, 2) := by decide +kernel
theorem dX10_beatFor_150 : decode cX10_beatFor 150 = .ok (.goto 5, 3) := by decide +kernel
theorem dX10_beatFor_153 : decode cX10_beatFor 153 = .ok (.iload 5, 2) := by decide +kernel
theorem dX10_beatFor_155 : decode cX10_beatFor 155 = .ok (.ireturn, 1) := by decide +kernel
theorem dX10_leastPush_0 : decode cX10_leastPush 0 = .ok (.iload_n 1, 1) := by decide +kernel
theorem dX10_leastPush_1 : decode cX10_leastPush 1 = .ok (.i2l, 1) := by decide +kernel
theorem dX10_leastPush_2 : decode cX10_leastPush 2 = .ok (.lconst 1, 1) := by decide +kernel
theorem dX10_leastPush_3 : decode cX10_leastPush 3 = .ok (.ldc2_w 244, 3) := by decide +kernel
theorem dX10_leastPush_6 : decode cX10_leastPush 6 = .ok (.invokestatic 101, 3) := by decide +kernel
theorem dX10_leastPush_9 : decode cX10_leastPush 9 = .ok (.ifCond .ne 5, 3) := by decide +kernel
theorem dX10_leastPush_12 : decode cX10_leastPush 12 = .ok (.iconst (-1), 1) := by decide +kernel
theorem dX10_leastPush_13 : decode cX10_leastPush 13 = .ok (.ireturn, 1) := by decide +kernel
theorem dX10_leastPush_14 : decode cX10_leastPush 14 = .ok (.aload_n 0, 1) := by decide +kernel
theorem dX10_leastPush_15 : decode cX10_leastPush 15 = .ok (.getfield 9, 3) := by decide +kernel
theorem dX10_leastPush_18 : decode cX10_leastPush 18 = .ok (.bipush 18, 2) := by decide +kernel
theorem dX10_leastPush_20 : decode cX10_leastPush 20 = .ok (.iaload, 1) := by decide +kernel
theorem dX10_leastPush_21 : decode cX10_leastPush 21 = .ok (.istore_n 2, 1) := by decide +kernel
theorem dX10_leastPush_22 : decode cX10_leastPush 22 = .ok (.bipush (-2), 2) := by decide +kernel
theorem dX10_leastPush_24 : decode cX10_leastPush 24 = .ok (.istore_n 3, 1) := by decide +kernel
theorem dX10_leastPush_25 : decode cX10_leastPush 25 = .ok (.iconst 5, 1) := by decide +kernel
theorem dX10_leastPush_26 : decode cX10_leastPush 26 = .ok (.istore 4, 2) := by decide +kernel
theorem dX10_leastPush_28 : decode cX10_leastPush 28 = .ok (.iload 4, 2) := by decide +kernel
theorem dX10_leastPush_30 : decode cX10_leastPush 30 = .ok (.ifCond .lt 33, 3) := by decide +kernel
theorem dX10_leastPush_33 : decode cX10_leastPush 33 = .ok (.aload_n 0, 1) := by decide +kernel
theorem dX10_leastPush_34 : decode cX10_leastPush 34 = .ok (.getfield 9, 3) := by decide +kernel
theorem dX10_leastPush_37 : decode cX10_leastPush 37 = .ok (.bipush 18, 2) := by decide +kernel
theorem dX10_leastPush_39 : decode cX10_leastPush 39 = .ok (.iload 4, 2) := by decide +kernel
theorem dX10_leastPush_41 : decode cX10_leastPush 41 = .ok (.iastore, 1) := by decide +kernel
theorem dX10_leastPush_42 : decode cX10_leastPush 42 = .ok (.aload_n 0, 1) := by decide +kernel
theorem dX10_leastPush_43 : decode cX10_leastPush 43 = .ok (.invokevirtual 270, 3) := by decide +kernel
theorem dX10_leastPush_46 : decode cX10_leastPush 46 = .ok (.iload_n 1, 1) := by decide +kernel
theorem dX10_leastPush_47 : decode cX10_leastPush 47 = .ok (.if_icmp .lt 8, 3) := by decide +kernel
theorem dX10_leastPush_50 : decode cX10_leastPush 50 = .ok (.iload 4, 2) := by decide +kernel
theorem dX10_leastPush_52 : decode cX10_leastPush 52 = .ok (.goto 4, 3) := by decide +kernel
theorem dX10_leastPush_55 : decode cX10_leastPush 55 = .ok (.iload_n 3, 1) := by decide +kernel
theorem dX10_leastPush_56 : decode cX10_leastPush 56 = .ok (.istore_n 3, 1) := by decide +kernel
theorem dX10_leastPush_57 : decode cX10_leastPush 57 = .ok (.iinc 4 (-1), 3) := by decide +kernel
theorem dX10_leastPush_60 : decode cX10_leastPush 60 = .ok (.goto (-32), 3) := by decide +kernel
theorem dX10_leastPush_63 : decode cX10_leastPush 63 = .ok (.aload_n 0, 1) := by decide +kernel
theorem dX10_leastPush_64 : decode cX10_leastPush 64 = .ok (.getfield 9, 3) := by decide +kernel
theorem dX10_leastPush_67 : decode cX10_leastPush 67 = .ok (.bipush 18, 2) := by decide +kernel
theorem dX10_leastPush_69 : decode cX10_leastPush 69 = .ok (.iload_n 2, 1) := by decide +kernel
theorem dX10_leastPush_70 : decode cX10_leastPush 70 = .ok (.iastore, 1) := by decide +kernel
theorem dX10_leastPush_71 : decode cX10_leastPush 71 = .ok (.iload_n 3, 1) := by decide +kernel
theorem dX10_leastPush_72 : decode cX10_leastPush 72 = .ok (.ireturn, 1) := by decide +kernel
theorem dX10_mistaken_0 : decode cX10_mistaken 0 = .ok (.aload_n 0, 1) := by decide +kernel
theorem dX10_mistaken_1 : decode cX10_mistaken 1 = .ok (.invokevirtual 246, 3) := by decide +kernel
theorem dX10_mistaken_4 : decode cX10_mistaken 4 = .ok (.istore_n 2, 1) := by decide +kernel
theorem dX10_mistaken_5 : decode cX10_mistaken 5 = .ok (.aload_n 0, 1) := by decide +kernel
theorem dX10_mistaken_6 : decode cX10_mistaken 6 = .ok (.iload_n 2, 1) := by decide +kernel
theorem dX10_mistaken_7 : decode cX10_mistaken 7 = .ok (.invokevirtual 249, 3) := by decide +kernel
theorem dX10_mistaken_10 : decode cX10_mistaken 10 = .ok (.iconst (-1), 1) := by decide +kernel
theorem dX10_mistaken_11 : decode cX10_mistaken 11 = .ok (.istore_n 3, 1) := by decide +kernel
theorem dX10_mistaken_12 : decode cX10_mistaken 12 = .ok (.iload_n 1, 1) := by decide +kernel
theorem dX10_mistaken_13 : decode cX10_mistaken 13 = .ok (.istore 4, 2) := by decide +kernel
theorem dX10_mistaken_15 : decode cX10_mistaken 15 = .ok (.iconst 0, 1) := by decide +kernel
theorem dX10_mistaken_16 : decode cX10_mistaken 16 = .ok (.istore 5, 2) := by decide +kernel
theorem dX10_mistaken_18 : decode cX10_mistaken 18 = .ok (.aload_n 0, 1) := by decide +kernel
theorem dX10_mistaken_19 : decode cX10_mistaken 19 = .ok (.iconst (-1), 1) := by decide +kernel
theorem dX10_mistaken_20 : decode cX10_mistaken 20 = .ok (.putfield 273, 3) := by decide +kernel
theorem dX10_mistaken_23 : decode cX10_mistaken 23 = .ok (.iconst 0, 1) := by decide +kernel
theorem dX10_mistaken_24 : decode cX10_mistaken 24 = .ok (.istore 6, 2) := by decide +kernel
theorem dX10_mistaken_26 : decode cX10_mistaken 26 = .ok (.iload 6, 2) := by decide +kernel
theorem dX10_mistaken_28 : decode cX10_mistaken 28 = .ok (.sipush 200, 3) := by decide +kernel
theorem dX10_mistaken_31 : decode cX10_mistaken 31 = .ok (.if_icmp .gt 215, 3) := by decide +kernel
theorem dX10_mistaken_34 : decode cX10_mistaken 34 = .ok (.iconst 1, 1) := by decide +kernel
theorem dX10_mistaken_35 : decode cX10_mistaken 35 = .ok (.istore 7, 2) := by decide +kernel
theorem dX10_mistaken_37 : decode cX10_mistaken 37 = .ok (.iconst 0, 1) := by decide +kernel
theorem dX10_mistaken_38 : decode cX10_mistaken 38 = .ok (.istore 8, 2) := by decide +kernel
theorem dX10_mistaken_40 : decode cX10_mistaken 40 = .ok (.iload 8, 2) := by decide +kernel
theorem dX10_mistaken_42 : decode cX10_mistaken 42 = .ok (.aload_n 0, 1) := by decide +kernel
theorem dX10_mistaken_43 : decode cX10_mistaken 43 = .ok (.getfield 109, 3) := by decide +kernel
theorem dX10_mistaken_46 : decode cX10_mistaken 46 = .ok (.if_icmp .ge 40, 3) := by decide +kernel
theorem dX10_mistaken_49 : decode cX10_mistaken 49 = .ok (.iload 7, 2) := by decide +kernel
theorem dX10_mistaken_51 : decode cX10_mistaken 51 = .ok (.iload_n 2, 1) := by decide +kernel
theorem dX10_mistaken_52 : decode cX10_mistaken 52 = .ok (.iload 8, 2) := by decide +kernel
theorem dX10_mistaken_54 : decode cX10_mistaken 54 = .ok (.invokestatic 214, 3) := by decide +kernel
theorem dX10_mistaken_57 : decode cX10_mistaken 57 = .ok (.ifCond .eq 15, 3) := by decide +kernel
theorem dX10_mistaken_60 : decode cX10_mistaken 60 = .ok (.aload_n 0, 1) := by decide +kernel
theorem dX10_mistaken_61 : decode cX10_mistaken 61 = .ok (.getfield 43, 3) := by decide +kernel
theorem dX10_mistaken_64 : decode cX10_mistaken 64 = .ok (.iload 8, 2) := by decide +kernel
theorem dX10_mistaken_66 : decode cX10_mistaken 66 = .ok (.iaload, 1) := by decide +kernel
theorem dX10_mistaken_67 : decode cX10_mistaken 67 = .ok (.bipush 20, 2) := by decide +kernel
theorem dX10_mistaken_69 : decode cX10_mistaken 69 = .ok (.if_icmp .ne 7, 3) := by decide +kernel
theorem dX10_mistaken_72 : decode cX10_mistaken 72 = .ok (.iconst 1, 1) := by decide +kernel
theorem dX10_mistaken_73 : decode cX10_mistaken 73 = .ok (.goto 4, 3) := by decide +kernel
theorem dX10_mistaken_76 : decode cX10_mistaken 76 = .ok (.iconst 0, 1) := by decide +kernel
theorem dX10_mistaken_77 : decode cX10_mistaken 77 = .ok (.iand, 1) := by decide +kernel
theorem dX10_mistaken_78 : decode cX10_mistaken 78 = .ok (.istore 7, 2) := by decide +kernel
theorem dX10_mistaken_80 : decode cX10_mistaken 80 = .ok (.iinc 8 1, 3) := by decide +kernel
theorem dX10_mistaken_83 : decode cX10_mistaken 83 = .ok (.goto (-43), 3) := by decide +kernel
theorem dX10_mistaken_86 : decode cX10_mistaken 86 = .ok (.aload_n 0, 1) := by decide +kernel
theorem dX10_mistaken_87 : decode cX10_mistaken 87 = .ok (.aload_n 0, 1) := by decide +kernel
theorem dX10_mistaken_88 : decode cX10_mistaken 88 = .ok (.getfield 273, 3) := by decide +kernel
theorem dX10_mistaken_91 : decode cX10_mistaken 91 = .ok (.ifCond .ge 18, 3) := by decide +kernel
theorem dX10_mistaken_94 : decode cX10_mistaken 94 = .ok (.iload 5, 2) := by decide +kernel
theorem dX10_mistaken_96 : decode cX10_mistaken 96 = .ok (.ifCond .eq 13, 3) := by decide +kernel
theorem dX10_mistaken_99 : decode cX10_mistaken 99 = .ok (.iload 7, 2) := by decide +kernel
theorem dX10_mistaken_101 : decode cX10_mistaken 101 = .ok (.ifCond .eq 8, 3) := by decide +kernel
theorem dX10_mistaken_104 : decode cX10_mistaken 104 = .ok (.iload 6, 2) := by decide +kernel
theorem dX10_mistaken_106 : decode cX10_mistaken 106 = .ok (.goto 7, 3) := by decide +kernel
theorem dX10_mistaken_109 : decode cX10_mistaken 109 = .ok (.aload_n 0, 1) := by decide +kernel
theorem dX10_mistaken_110 : decode cX10_mistaken 110 = .ok (.getfield 273, 3) := by decide +kernel
theorem dX10_mistaken_113 : decode cX10_mistaken 113 = .ok (.putfield 273, 3) := by decide +kernel
theorem dX10_mistaken_116 : decode cX10_mistaken 116 = .ok (.iload 5, 2) := by decide +kernel
theorem dX10_mistaken_118 : decode cX10_mistaken 118 = .ok (.iload 7, 2) := by decide +kernel
theorem dX10_mistaken_120 : decode cX10_mistaken 120 = .ok (.ifCond .ne 7, 3) := by decide +kernel
theorem dX10_mistaken_123 : decode cX10_mistaken 123 = .ok (.iconst 1, 1) := by decide +kernel
theorem dX10_mistaken_124 : decode cX10_mistaken 124 = .ok (.goto 4, 3) := by decide +kernel
theorem dX10_mistaken_127 : decode cX10_mistaken 127 = .ok (.iconst 0, 1) := by decide +kernel
theorem dX10_mistaken_128 : decode cX10_mistaken 128 = .ok (.ior, 1) := by decide +kernel
theorem dX10_mistaken_129 : decode cX10_mistaken 129 = .ok (.istore 5, 2) := by decide +kernel
theorem dX10_mistaken_131 : decode cX10_mistaken 131 = .ok (.iload_n 3, 1) := by decide +kernel
theorem dX10_mistaken_132 : decode cX10_mistaken 132 = .ok (.ifCond .ge 18, 3) := by decide +kernel
theorem dX10_mistaken_135 : decode cX10_mistaken 135 = .ok (.aload_n 0, 1) := by decide +kernel
theorem dX10_mistaken_136 : decode cX10_mistaken 136 = .ok (.iload_n 2, 1) := by decide +kernel
theorem dX10_mistaken_137 : decode cX10_mistaken 137 = .ok (.invokevirtual 252, 3) := by decide +kernel
theorem dX10_mistaken_140 : decode cX10_mistaken 140 = .ok (.ifCond .le 10, 3) := by decide +kernel
theorem dX10_mistaken_143 : decode cX10_mistaken 143 = .ok (.iload 6, 2) := by decide +kernel
theorem dX10_mistaken_145 : decode cX10_mistaken 145 = .ok (.iconst 1, 1) := by decide +kernel
theorem dX10_mistaken_146 : decode cX10_mistaken 146 = .ok (.isub, 1) := by decide +kernel
theorem dX10_mistaken_147 : decode cX10_mistaken 147 = .ok (.goto 4, 3) := by decide +kernel
theorem dX10_mistaken_150 : decode cX10_mistaken 150 = .ok (.iload_n 3, 1) := by decide +kernel
theorem dX10_mistaken_151 : decode cX10_mistaken 151 = .ok (.istore_n 3, 1) := by decide +kernel
theorem dX10_mistaken_152 : decode cX10_mistaken 152 = .ok (.iload 6, 2) := by decide +kernel
theorem dX10_mistaken_154 : decode cX10_mistaken 154 = .ok (.sipush 200, 3) := by decide +kernel
theorem dX10_mistaken_157 : decode cX10_mistaken 157 = .ok (.if_icmp .ge 83, 3) := by decide +kernel
theorem dX10_mistaken_160 : decode cX10_mistaken 160 = .ok (.aload_n 0, 1) := by decide +kernel
theorem dX10_mistaken_161 : decode cX10_mistaken 161 = .ok (.aload_n 0, 1) := by decide +kernel
theorem dX10_mistaken_162 : decode cX10_mistaken 162 = .ok (.getfield 151, 3) := by decide +kernel
theorem dX10_mistaken_165 : decode cX10_mistaken 165 = .ok (.iload 6, 2) := by decide +kernel
theorem dX10_mistaken_167 : decode cX10_mistaken 167 = .ok (.iadd, 1) := by decide +kernel
theorem dX10_mistaken_168 : decode cX10_mistaken 168 = .ok (.invokevirtual 228, 3) := by decide +kernel
theorem dX10_mistaken_171 : decode cX10_mistaken 171 = .ok (.ifCond .eq 12, 3) := by decide +kernel
theorem dX10_mistaken_174 : decode cX10_mistaken 174 = .ok (.iload 4, 2) := by decide +kernel
theorem dX10_mistaken_176 : decode cX10_mistaken 176 = .ok (.ifCond .ne 7, 3) := by decide +kernel
theorem dX10_mistaken_179 : decode cX10_mistaken 179 = .ok (.iconst 1, 1) := by decide +kernel
theorem dX10_mistaken_180 : decode cX10_mistaken 180 = .ok (.goto 4, 3) := by decide +kernel
theorem dX10_mistaken_183 : decode cX10_mistaken 183 = .ok (.iconst 0, 1) := by decide +kernel
theorem dX10_mistaken_184 : decode cX10_mistaken 184 = .ok (.istore 8, 2) := by decide +kernel
theorem dX10_mistaken_186 : decode cX10_mistaken 186 = .ok (.iload 4, 2) := by decide +kernel
theorem dX10_mistaken_188 : decode cX10_mistaken 188 = .ok (.aload_n 0, 1) := by decide +kernel
theorem dX10_mistaken_189 : decode cX10_mistaken 189 = .ok (.aload_n 0, 1) := by decide +kernel
theorem dX10_mistaken_190 : decode cX10_mistaken 190 = .ok (.getfield 151, 3) := by decide +kernel
theorem dX10_mistaken_193 : decode cX10_mistaken 193 = .ok (.iload 6, 2) := by decide +kernel
theorem dX10_mistaken_195 : decode cX10_mistaken 195 = .ok (.iadd, 1) := by decide +kernel
theorem dX10_mistaken_196 : decode cX10_mistaken 196 = .ok (.invokevirtual 228, 3) := by decide +kernel
theorem dX10_mistaken_199 : decode cX10_mistaken 199 = .ok (.ifCond .eq 7, 3) := by decide +kernel
theorem dX10_mistaken_202 : decode cX10_mistaken 202 = .ok (.iconst 1, 1) := by decide +kernel
theorem dX10_mistaken_203 : decode cX10_mistaken 203 = .ok (.goto 4, 3) := by decide +kernel
theorem dX10_mistaken_206 : decode cX10_mistaken 206 = .ok (.iconst 0, 1) := by decide +kernel
theorem dX10_mistaken_207 : decode cX10_mistaken 207 = .ok (.isub, 1) := by decide +kernel
theorem dX10_mistaken_208 : decode cX10_mistaken 208 = .ok (.istore 4, 2) := by decide +kernel
theorem dX10_mistaken_210 : decode cX10_mistaken 210 = .ok (.iload 8, 2) := by decide +kernel
theorem dX10_mistaken_212 : decode cX10_mistaken 212 = .ok (.ifCond .eq 17, 3) := by decide +kernel
theorem dX10_mistaken_215 : decode cX10_mistaken 215 = .ok (.aload_n 0, 1) := by decide +kernel
theorem dX10_mistaken_216 : decode cX10_mistaken 216 = .ok (.aload_n 0, 1) := by decide +kernel
theorem dX10_mistaken_217 : decode cX10_mistaken 217 = .ok (.getfield 151, 3) := by decide +kernel
theorem dX10_mistaken_220 : decode cX10_mistaken 220 = .ok (.iload 6, 2) := by decide +kernel
theorem dX10_mistaken_222 : decode cX10_mistaken 222 = .ok (.iadd, 1) := by decide +kernel
theorem dX10_mistaken_223 : decode cX10_mistaken 223 = .ok (.invokevirtual 240, 3) := by decide +kernel
theorem dX10_mistaken_226 : decode cX10_mistaken 226 = .ok (.goto 14, 3) := by decide +kernel
theorem dX10_mistaken_229 : decode cX10_mistaken 229 = .ok (.aload_n 0, 1) := by decide +kernel
theorem dX10_mistaken_230 : decode cX10_mistaken 230 = .ok (.aload_n 0, 1) := by decide +kernel
theorem dX10_mistaken_231 : decode cX10_mistaken 231 = .ok (.getfield 151, 3) := by decide +kernel
theorem dX10_mistaken_234 : decode cX10_mistaken 234 = .ok (.iload 6, 2) := by decide +kernel
theorem dX10_mistaken_236 : decode cX10_mistaken 236 = .ok (.iadd, 1) := by decide +kernel
theorem dX10_mistaken_237 : decode cX10_mistaken 237 = .ok (.invokevirtual 255, 3) := by decide +kernel
theorem dX10_mistaken_240 : decode cX10_mistaken 240 = .ok (.iinc 6 1, 3) := by decide +kernel
theorem dX10_mistaken_243 : decode cX10_mistaken 243 = .ok (.goto (-217), 3) := by decide +kernel
theorem dX10_mistaken_246 : decode cX10_mistaken 246 = .ok (.aload_n 0, 1) := by decide +kernel
theorem dX10_mistaken_247 : decode cX10_mistaken 247 = .ok (.aload_n 0, 1) := by decide +kernel
theorem dX10_mistaken_248 : decode cX10_mistaken 248 = .ok (.getfield 273, 3) := by decide +kernel
theorem dX10_mistaken_251 : decode cX10_mistaken 251 = .ok (.ifCond .lt 10, 3) := by decide +kernel
theorem dX10_mistaken_254 : decode cX10_mistaken 254 = .ok (.aload_n 0, 1) := by decide +kernel
theorem dX10_mistaken_255 : decode cX10_mistaken 255 = .ok (.getfield 273, 3) := by decide +kernel
theorem dX10_mistaken_258 : decode cX10_mistaken 258 = .ok (.goto 14, 3) := by decide +kernel
theorem dX10_mistaken_261 : decode cX10_mistaken 261 = .ok (.iload 5, 2) := by decide +kernel
theorem dX10_mistaken_263 : decode cX10_mistaken 263 = .ok (.ifCond .eq 8, 3) := by decide +kernel
theorem dX10_mistaken_266 : decode cX10_mistaken 266 = .ok (.bipush (-2), 2) := by decide +kernel
theorem dX10_mistaken_268 : decode cX10_mistaken 268 = .ok (.goto 4, 3) := by decide +kernel
theorem dX10_mistaken_271 : decode cX10_mistaken 271 = .ok (.iconst 0, 1) := by decide +kernel
theorem dX10_mistaken_272 : decode cX10_mistaken 272 = .ok (.putfield 273, 3) := by decide +kernel
theorem dX10_mistaken_275 : decode cX10_mistaken 275 = .ok (.iload_n 3, 1) := by decide +kernel
theorem dX10_mistaken_276 : decode cX10_mistaken 276 = .ok (.ifCond .ge 9, 3) := by decide +kernel
theorem dX10_mistaken_279 : decode cX10_mistaken 279 = .ok (.sipush 200, 3) := by decide +kernel
theorem dX10_mistaken_282 : decode cX10_mistaken 282 = .ok (.goto 4, 3) := by decide +kernel
theorem dX10_mistaken_285 : decode cX10_mistaken 285 = .ok (.iload_n 3, 1) := by decide +kernel
theorem dX10_mistaken_286 : decode cX10_mistaken 286 = .ok (.ireturn, 1) := by decide +kernel
theorem dX10_mistake_0 : decode cX10_mistake 0 = .ok (.iload_n 1, 1) := by decide +kernel
theorem dX10_mistake_1 : decode cX10_mistake 1 = .ok (.i2l, 1) := by decide +kernel
theorem dX10_mistake_2 : decode cX10_mistake 2 = .ok (.lconst 0, 1) := by decide +kernel
theorem dX10_mistake_3 : decode cX10_mistake 3 = .ok (.ldc2_w 276, 3) := by decide +kernel
theorem dX10_mistake_6 : decode cX10_mistake 6 = .ok (.invokestatic 101, 3) := by decide +kernel
theorem dX10_mistake_9 : decode cX10_mistake 9 = .ok (.ifCond .eq 13, 3) := by decide +kernel
theorem dX10_mistake_12 : decode cX10_mistake 12 = .ok (.iload_n 2, 1) := by decide +kernel
theorem dX10_mistake_13 : decode cX10_mistake 13 = .ok (.i2l, 1) := by decide +kernel
theorem dX10_mistake_14 : decode cX10_mistake 14 = .ok (.lconst 0, 1) := by decide +kernel
theorem dX10_mistake_15 : decode cX10_mistake 15 = .ok (.lconst 1, 1) := by decide +kernel
theorem dX10_mistake_16 : decode cX10_mistake 16 = .ok (.invokestatic 101, 3) := by decide +kernel
theorem dX10_mistake_19 : decode cX10_mistake 19 = .ok (.ifCond .ne 5, 3) := by decide +kernel
theorem dX10_mistake_22 : decode cX10_mistake 22 = .ok (.iconst (-1), 1) := by decide +kernel
theorem dX10_mistake_23 : decode cX10_mistake 23 = .ok (.ireturn, 1) := by decide +kernel
theorem dX10_mistake_24 : decode cX10_mistake 24 = .ok (.aload_n 0, 1) := by decide +kernel
theorem dX10_mistake_25 : decode cX10_mistake 25 = .ok (.iload_n 1, 1) := by decide +kernel
theorem dX10_mistake_26 : decode cX10_mistake 26 = .ok (.invokevirtual 278, 3) := by decide +kernel
theorem dX10_mistake_29 : decode cX10_mistake 29 = .ok (.istore_n 3, 1) := by decide +kernel
theorem dX10_mistake_30 : decode cX10_mistake 30 = .ok (.iload_n 2, 1) := by decide +kernel
theorem dX10_mistake_31 : decode cX10_mistake 31 = .ok (.ifCond .ne 7, 3) := by decide +kernel
theorem dX10_mistake_34 : decode cX10_mistake 34 = .ok (.iload_n 3, 1) := by decide +kernel
theorem dX10_mistake_35 : decode cX10_mistake 35 = .ok (.goto 7, 3) := by decide +kernel
theorem dX10_mistake_38 : decode cX10_mistake 38 = .ok (.aload_n 0, 1) := by decide +kernel
theorem dX10_mistake_39 : decode cX10_mistake 39 = .ok (.getfield 273, 3) := by decide +kernel
theorem dX10_mistake_42 : decode cX10_mistake 42 = .ok (.ireturn, 1) := by decide +kernel
theorem dX10_held_0 : decode cX10_held 0 = .ok (.iload_n 1, 1) := by decide +kernel
theorem dX10_held_1 : decode cX10_held 1 = .ok (.i2l, 1) := by decide +kernel
theorem dX10_held_2 : decode cX10_held 2 = .ok (.lconst 1, 1) := by decide +kernel
theorem dX10_held_3 : decode cX10_held 3 = .ok (.ldc2_w 244, 3) := by decide +kernel
theorem dX10_held_6 : decode cX10_held 6 = .ok (.invokestatic 101, 3) := by decide +kernel
theorem dX10_held_9 : decode cX10_held 9 = .ok (.ifCond .ne 5, 3) := by decide +kernel
theorem dX10_held_12 : decode cX10_held 12 = .ok (.iconst (-1), 1) := by decide +kernel
theorem dX10_held_13 : decode cX10_held 13 = .ok (.ireturn, 1) := by decide +kernel
theorem dX10_held_14 : decode cX10_held 14 = .ok (.aload_n 0, 1) := by decide +kernel
theorem dX10_held_15 : decode cX10_held 15 = .ok (.invokevirtual 246, 3) := by decide +kernel
theorem dX10_held_18 : decode cX10_held 18 = .ok (.istore_n 2, 1) := by decide +kernel
theorem dX10_held_19 : decode cX10_held 19 = .ok (.iconst 0, 1) := by decide +kernel
theorem dX10_held_20 : decode cX10_held 20 = .ok (.istore_n 3, 1) := by decide +kernel
theorem dX10_held_21 : decode cX10_held 21 = .ok (.iconst 1, 1) := by decide +kernel
theorem dX10_held_22 : decode cX10_held 22 = .ok (.istore 4, 2) := by decide +kernel
theorem dX10_held_24 : decode cX10_held 24 = .ok (.iload 4, 2) := by decide +kernel
theorem dX10_held_26 : decode cX10_held 26 = .ok (.iconst 1, 1) := by decide +kernel
theorem dX10_held_27 : decode cX10_held 27 = .ok (.aload_n 0, 1) := by decide +kernel
theorem dX10_held_28 : decode cX10_held 28 = .ok (.getfield 109, 3) := by decide +kernel
theorem dX10_held_31 : decode cX10_held 31 = .ok (.ishl, 1) := by decide +kernel
theorem dX10_held_32 : decode cX10_held 32 = .ok (.if_icmp .ge 47, 3) := by decide +kernel
theorem dX10_held_35 : decode cX10_held 35 = .ok (.iload 4, 2) := by decide +kernel
theorem dX10_held_37 : decode cX10_held 37 = .ok (.iload_n 2, 1) := by decide +kernel
theorem dX10_held_38 : decode cX10_held 38 = .ok (.iconst (-1), 1) := by decide +kernel
theorem dX10_held_39 : decode cX10_held 39 = .ok (.ixor, 1) := by decide +kernel
theorem dX10_held_40 : decode cX10_held 40 = .ok (.iand, 1) := by decide +kernel
theorem dX10_held_41 : decode cX10_held 41 = .ok (.ifCond .ne 30, 3) := by decide +kernel
theorem dX10_held_44 : decode cX10_held 44 = .ok (.iload 4, 2) := by decide +kernel
theorem dX10_held_46 : decode cX10_held 46 = .ok (.invokestatic 261, 3) := by decide +kernel
theorem dX10_held_49 : decode cX10_held 49 = .ok (.iload_n 3, 1) := by decide +kernel
theorem dX10_held_50 : decode cX10_held 50 = .ok (.invokestatic 261, 3) := by decide +kernel
theorem dX10_held_53 : decode cX10_held 53 = .ok (.if_icmp .le 18, 3) := by decide +kernel
theorem dX10_held_56 : decode cX10_held 56 = .ok (.aload_n 0, 1) := by decide +kernel
theorem dX10_held_57 : decode cX10_held 57 = .ok (.iload 4, 2) := by decide +kernel
theorem dX10_held_59 : decode cX10_held 59 = .ok (.invokevirtual 267, 3) := by decide +kernel
theorem dX10_held_62 : decode cX10_held 62 = .ok (.iload_n 1, 1) := by decide +kernel
theorem dX10_held_63 : decode cX10_held 63 = .ok (.if_icmp .lt 8, 3) := by decide +kernel
theorem dX10_held_66 : decode cX10_held 66 = .ok (.iload 4, 2) := by decide +kernel
theorem dX10_held_68 : decode cX10_held 68 = .ok (.goto 4, 3) := by decide +kernel
theorem dX10_held_71 : decode cX10_held 71 = .ok (.iload_n 3, 1) := by decide +kernel
theorem dX10_held_72 : decode cX10_held 72 = .ok (.istore_n 3, 1) := by decide +kernel
theorem dX10_held_73 : decode cX10_held 73 = .ok (.iinc 4 1, 3) := by decide +kernel
theorem dX10_held_76 : decode cX10_held 76 = .ok (.goto (-52), 3) := by decide +kernel
theorem dX10_held_79 : decode cX10_held 79 = .ok (.iload_n 3, 1) := by decide +kernel
theorem dX10_held_80 : decode cX10_held 80 = .ok (.ifCond .ne 8, 3) := by decide +kernel
theorem dX10_held_83 : decode cX10_held 83 = .ok (.bipush (-2), 2) := by decide +kernel
theorem dX10_held_85 : decode cX10_held 85 = .ok (.goto 4, 3) := by decide +kernel
theorem dX10_held_88 : decode cX10_held 88 = .ok (.iload_n 3, 1) := by decide +kernel
theorem dX10_held_89 : decode cX10_held 89 = .ok (.ireturn, 1) := by decide +kernel
theorem dX10_fallWith_0 : decode cX10_fallWith 0 = .ok (.aload_n 0, 1) := by decide +kernel
theorem dX10_fallWith_1 : decode cX10_fallWith 1 = .ok (.aload_n 0, 1) := by decide +kernel
theorem dX10_fallWith_2 : decode cX10_fallWith 2 = .ok (.invokevirtual 246, 3) := by decide +kernel
theorem dX10_fallWith_5 : decode cX10_fallWith 5 = .ok (.invokevirtual 249, 3) := by decide +kernel
theorem dX10_fallWith_8 : decode cX10_fallWith 8 = .ok (.iconst 0, 1) := by decide +kernel
theorem dX10_fallWith_9 : decode cX10_fallWith 9 = .ok (.istore 5, 2) := by decide +kernel
theorem dX10_fallWith_11 : decode cX10_fallWith 11 = .ok (.iload 5, 2) := by decide +kernel
theorem dX10_fallWith_13 : decode cX10_fallWith 13 = .ok (.sipush 200, 3) := by decide +kernel
theorem dX10_fallWith_16 : decode cX10_fallWith 16 = .ok (.if_icmp .gt 81, 3) := by decide +kernel
theorem dX10_fallWith_19 : decode cX10_fallWith 19 = .ok (.aload_n 0, 1) := by decide +kernel
theorem dX10_fallWith_20 : decode cX10_fallWith 20 = .ok (.getfield 43, 3) := by decide +kernel
theorem dX10_fallWith_23 : decode cX10_fallWith 23 = .ok (.iload_n 1, 1) := by decide +kernel
theorem dX10_fallWith_24 : decode cX10_fallWith 24 = .ok (.iaload, 1) := by decide +kernel
theorem dX10_fallWith_25 : decode cX10_fallWith 25 = .ok (.ifCond .ne 6, 3) := by decide +kernel
theorem dX10_fallWith_28 : decode cX10_fallWith 28 = .ok (.iload 5, 2) := by decide +kernel
theorem dX10_fallWith_30 : decode cX10_fallWith 30 = .ok (.ireturn, 1) := by decide +kernel
theorem dX10_fallWith_31 : decode cX10_fallWith 31 = .ok (.aload_n 0, 1) := by decide +kernel
theorem dX10_fallWith_32 : decode cX10_fallWith 32 = .ok (.aload_n 0, 1) := by decide +kernel
theorem dX10_fallWith_33 : decode cX10_fallWith 33 = .ok (.getfield 151, 3) := by decide +kernel
theorem dX10_fallWith_36 : decode cX10_fallWith 36 = .ok (.iload 5, 2) := by decide +kernel
theorem dX10_fallWith_38 : decode cX10_fallWith 38 = .ok (.iadd, 1) := by decide +kernel
theorem dX10_fallWith_39 : decode cX10_fallWith 39 = .ok (.invokevirtual 228, 3) := by decide +kernel
theorem dX10_fallWith_42 : decode cX10_fallWith 42 = .ok (.ifCond .eq 25, 3) := by decide +kernel
theorem dX10_fallWith_45 : decode cX10_fallWith 45 = .ok (.aload_n 0, 1) := by decide +kernel
theorem dX10_fallWith_46 : decode cX10_fallWith 46 = .ok (.aload_n 0, 1) := by decide +kernel
theorem dX10_fallWith_47 : decode cX10_fallWith 47 = .ok (.aload_n 0, 1) := by decide +kernel
theorem dX10_fallWith_48 : decode cX10_fallWith 48 = .ok (.getfield 151, 3) := by decide +kernel
theorem dX10_fallWith_51 : decode cX10_fallWith 51 = .ok (.iload 5, 2) := by decide +kernel
theorem dX10_fallWith_53 : decode cX10_fallWith 53 = .ok (.iadd, 1) := by decide +kernel
theorem dX10_fallWith_54 : decode cX10_fallWith 54 = .ok (.invokevirtual 231, 3) := by decide +kernel
theorem dX10_fallWith_57 : decode cX10_fallWith 57 = .ok (.aload_n 0, 1) := by decide +kernel
theorem dX10_fallWith_58 : decode cX10_fallWith 58 = .ok (.getfield 9, 3) := by decide +kernel
theorem dX10_fallWith_61 : decode cX10_fallWith 61 = .ok (.bipush 18, 2) := by decide +kernel
theorem dX10_fallWith_63 : decode cX10_fallWith 63 = .ok (.iaload, 1) := by decide +kernel
theorem dX10_fallWith_64 : decode cX10_fallWith 64 = .ok (.invokevirtual 234, 3) := by decide +kernel
theorem dX10_fallWith_67 : decode cX10_fallWith 67 = .ok (.iload 5, 2) := by decide +kernel
theorem dX10_fallWith_69 : decode cX10_fallWith 69 = .ok (.iload_n 2, 1) := by decide +kernel
theorem dX10_fallWith_70 : decode cX10_fallWith 70 = .ok (.if_icmp .ne 10, 3) := by decide +kernel
theorem dX10_fallWith_73 : decode cX10_fallWith 73 = .ok (.aload_n 0, 1) := by decide +kernel
theorem dX10_fallWith_74 : decode cX10_fallWith 74 = .ok (.iload_n 3, 1) := by decide +kernel
theorem dX10_fallWith_75 : decode cX10_fallWith 75 = .ok (.iload 4, 2) := by decide +kernel
theorem dX10_fallWith_77 : decode cX10_fallWith 77 = .ok (.invokevirtual 234, 3) := by decide +kernel
theorem dX10_fallWith_80 : decode cX10_fallWith 80 = .ok (.aload_n 0, 1) := by decide +kernel
theorem dX10_fallWith_81 : decode cX10_fallWith 81 = .ok (.aload_n 0, 1) := by decide +kernel
theorem dX10_fallWith_82 : decode cX10_fallWith 82 = .ok (.getfield 151, 3) := by decide +kernel
theorem dX10_fallWith_85 : decode cX10_fallWith 85 = .ok (.iload 5, 2) := by decide +kernel
theorem dX10_fallWith_87 : decode cX10_fallWith 87 = .ok (.iadd, 1) := by decide +kernel
theorem dX10_fallWith_88 : decode cX10_fallWith 88 = .ok (.invokevirtual 240, 3) := by decide +kernel
theorem dX10_fallWith_91 : decode cX10_fallWith 91 = .ok (.iinc 5 1, 3) := by decide +kernel
theorem dX10_fallWith_94 : decode cX10_fallWith 94 = .ok (.goto (-83), 3) := by decide +kernel
theorem dX10_fallWith_97 : decode cX10_fallWith 97 = .ok (.sipush 201, 3) := by decide +kernel
theorem dX10_fallWith_100 : decode cX10_fallWith 100 = .ok (.ireturn, 1) := by decide +kernel
theorem dX10_rescue_0 : decode cX10_rescue 0 = .ok (.aload_n 0, 1) := by decide +kernel
theorem dX10_rescue_1 : decode cX10_rescue 1 = .ok (.iload_n 1, 1) := by decide +kernel
theorem dX10_rescue_2 : decode cX10_rescue 2 = .ok (.invokevirtual 133, 3) := by decide +kernel
theorem dX10_rescue_5 : decode cX10_rescue 5 = .ok (.ifCond .eq 31, 3) := by decide +kernel
theorem dX10_rescue_8 : decode cX10_rescue 8 = .ok (.iload_n 2, 1) := by decide +kernel
theorem dX10_rescue_9 : decode cX10_rescue 9 = .ok (.ifCond .lt 27, 3) := by decide +kernel
theorem dX10_rescue_12 : decode cX10_rescue 12 = .ok (.iload_n 2, 1) := by decide +kernel
theorem dX10_rescue_13 : decode cX10_rescue 13 = .ok (.bipush 100, 2) := by decide +kernel
theorem dX10_rescue_15 : decode cX10_rescue 15 = .ok (.idiv, 1) := by decide +kernel
theorem dX10_rescue_16 : decode cX10_rescue 16 = .ok (.i2l, 1) := by decide +kernel
theorem dX10_rescue_17 : decode cX10_rescue 17 = .ok (.lconst 1, 1) := by decide +kernel
theorem dX10_rescue_18 : decode cX10_rescue 18 = .ok (.ldc2_w 129, 3) := by decide +kernel
theorem dX10_rescue_21 : decode cX10_rescue 21 = .ok (.invokestatic 101, 3) := by decide +kernel
theorem dX10_rescue_24 : decode cX10_rescue 24 = .ok (.ifCond .eq 12, 3) := by decide +kernel
theorem dX10_rescue_27 : decode cX10_rescue 27 = .ok (.iload_n 2, 1) := by decide +kernel
theorem dX10_rescue_28 : decode cX10_rescue 28 = .ok (.bipush 100, 2) := by decide +kernel
theorem dX10_rescue_30 : decode cX10_rescue 30 = .ok (.irem, 1) := by decide +kernel
theorem dX10_rescue_31 : decode cX10_rescue 31 = .ok (.bipush 24, 2) := by decide +kernel
theorem dX10_rescue_33 : decode cX10_rescue 33 = .ok (.if_icmp .lt 5, 3) := by decide +kernel
theorem dX10_rescue_36 : decode cX10_rescue 36 = .ok (.iconst (-1), 1) := by decide +kernel
theorem dX10_rescue_37 : decode cX10_rescue 37 = .ok (.ireturn, 1) := by decide +kernel
theorem dX10_rescue_38 : decode cX10_rescue 38 = .ok (.aload_n 0, 1) := by decide +kernel
theorem dX10_rescue_39 : decode cX10_rescue 39 = .ok (.iload_n 1, 1) := by decide +kernel
theorem dX10_rescue_40 : decode cX10_rescue 40 = .ok (.invokevirtual 264, 3) := by decide +kernel
theorem dX10_rescue_43 : decode cX10_rescue 43 = .ok (.istore_n 3, 1) := by decide +kernel
theorem dX10_rescue_44 : decode cX10_rescue 44 = .ok (.iload_n 3, 1) := by decide +kernel
theorem dX10_rescue_45 : decode cX10_rescue 45 = .ok (.ifCond .eq 10, 3) := by decide +kernel
theorem dX10_rescue_48 : decode cX10_rescue 48 = .ok (.iload_n 3, 1) := by decide +kernel
theorem dX10_rescue_49 : decode cX10_rescue 49 = .ok (.sipush 201, 3) := by decide +kernel
theorem dX10_rescue_52 : decode cX10_rescue 52 = .ok (.if_icmp .ne 6, 3) := by decide +kernel
theorem dX10_rescue_55 : decode cX10_rescue 55 = .ok (.bipush (-5), 2) := by decide +kernel
theorem dX10_rescue_57 : decode cX10_rescue 57 = .ok (.ireturn, 1) := by decide +kernel
theorem dX10_rescue_58 : decode cX10_rescue 58 = .ok (.iconst 0, 1) := by decide +kernel
theorem dX10_rescue_59 : decode cX10_rescue 59 = .ok (.istore 4, 2) := by decide +kernel
theorem dX10_rescue_61 : decode cX10_rescue 61 = .ok (.iload 4, 2) := by decide +kernel
theorem dX10_rescue_63 : decode cX10_rescue 63 = .ok (.bipush 100, 2) := by decide +kernel
theorem dX10_rescue_65 : decode cX10_rescue 65 = .ok (.if_icmp .ge 31, 3) := by decide +kernel
theorem dX10_rescue_68 : decode cX10_rescue 68 = .ok (.aload_n 0, 1) := by decide +kernel
theorem dX10_rescue_69 : decode cX10_rescue 69 = .ok (.iload_n 1, 1) := by decide +kernel
theorem dX10_rescue_70 : decode cX10_rescue 70 = .ok (.iload 4, 2) := by decide +kernel
theorem dX10_rescue_72 : decode cX10_rescue 72 = .ok (.iload_n 2, 1) := by decide +kernel
theorem dX10_rescue_73 : decode cX10_rescue 73 = .ok (.bipush 100, 2) := by decide +kernel
theorem dX10_rescue_75 : decode cX10_rescue 75 = .ok (.irem, 1) := by decide +kernel
theorem dX10_rescue_76 : decode cX10_rescue 76 = .ok (.iload_n 2, 1) := by decide +kernel
theorem dX10_rescue_77 : decode cX10_rescue 77 = .ok (.bipush 100, 2) := by decide +kernel
theorem dX10_rescue_79 : decode cX10_rescue 79 = .ok (.idiv, 1) := by decide +kernel
theorem dX10_rescue_80 : decode cX10_rescue 80 = .ok (.invokevirtual 281, 3) := by decide +kernel
theorem dX10_rescue_83 : decode cX10_rescue 83 = .ok (.iload_n 3, 1) := by decide +kernel
theorem dX10_rescue_84 : decode cX10_rescue 84 = .ok (.if_icmp .le 6, 3) := by decide +kernel
theorem dX10_rescue_87 : decode cX10_rescue 87 = .ok (.iload 4, 2) := by decide +kernel
theorem dX10_rescue_89 : decode cX10_rescue 89 = .ok (.ireturn, 1) := by decide +kernel
theorem dX10_rescue_90 : decode cX10_rescue 90 = .ok (.iinc 4 1, 3) := by decide +kernel
theorem dX10_rescue_93 : decode cX10_rescue 93 = .ok (.goto (-32), 3) := by decide +kernel
theorem dX10_rescue_96 : decode cX10_rescue 96 = .ok (.bipush (-2), 2) := by decide +kernel
theorem dX10_rescue_98 : decode cX10_rescue 98 = .ok (.ireturn, 1) := by decide +kernel
theorem dX10_start_0 : decode cX10_start 0 = .ok (.aload_n 0, 1) := by decide +kernel
theorem dX10_start_1 : decode cX10_start 1 = .ok (.iload_n 1, 1) := by decide +kernel
theorem dX10_start_2 : decode cX10_start 2 = .ok (.invokevirtual 133, 3) := by decide +kernel
theorem dX10_start_5 : decode cX10_start 5 = .ok (.ifCond .ne 6, 3) := by decide +kernel
theorem dX10_start_8 : decode cX10_start 8 = .ok (.ldc 140, 2) := by decide +kernel
theorem dX10_start_10 : decode cX10_start 10 = .ok (.ireturn, 1) := by decide +kernel
theorem dX10_start_11 : decode cX10_start 11 = .ok (.aload_n 0, 1) := by decide +kernel
theorem dX10_start_12 : decode cX10_start 12 = .ok (.getfield 25, 3) := by decide +kernel
theorem dX10_start_15 : decode cX10_start 15 = .ok (.iload_n 1, 1) := by decide +kernel
theorem dX10_start_16 : decode cX10_start 16 = .ok (.iaload, 1) := by decide +kernel
theorem dX10_start_17 : decode cX10_start 17 = .ok (.ifCond .ne 6, 3) := by decide +kernel
theorem dX10_start_20 : decode cX10_start 20 = .ok (.bipush (-5), 2) := by decide +kernel
theorem dX10_start_22 : decode cX10_start 22 = .ok (.ireturn, 1) := by decide +kernel
theorem dX10_start_23 : decode cX10_start 23 = .ok (.aload_n 0, 1) := by decide +kernel
theorem dX10_start_24 : decode cX10_start 24 = .ok (.getfield 9, 3) := by decide +kernel
theorem dX10_start_27 : decode cX10_start 27 = .ok (.bipush 10, 2) := by decide +kernel
theorem dX10_start_29 : decode cX10_start 29 = .ok (.iload_n 1, 1) := by decide +kernel
theorem dX10_start_30 : decode cX10_start 30 = .ok (.iadd, 1) := by decide +kernel
theorem dX10_start_31 : decode cX10_start 31 = .ok (.iaload, 1) := by decide +kernel
theorem dX10_start_32 : decode cX10_start 32 = .ok (.istore_n 2, 1) := by decide +kernel
theorem dX10_start_33 : decode cX10_start 33 = .ok (.ldc 140, 2) := by decide +kernel
theorem dX10_start_35 : decode cX10_start 35 = .ok (.istore_n 3, 1) := by decide +kernel
theorem dX10_start_36 : decode cX10_start 36 = .ok (.iconst (-1), 1) := by decide +kernel
theorem dX10_start_37 : decode cX10_start 37 = .ok (.istore 4, 2) := by decide +kernel
theorem dX10_start_39 : decode cX10_start 39 = .ok (.bipush (-9), 2) := by decide +kernel
theorem dX10_start_41 : decode cX10_start 41 = .ok (.istore 5, 2) := by decide +kernel
theorem dX10_start_43 : decode cX10_start 43 = .ok (.iload 5, 2) := by decide +kernel
theorem dX10_start_45 : decode cX10_start 45 = .ok (.bipush 9, 2) := by decide +kernel
theorem dX10_start_47 : decode cX10_start 47 = .ok (.if_icmp .gt 57, 3) := by decide +kernel
theorem dX10_start_50 : decode cX10_start 50 = .ok (.aload_n 0, 1) := by decide +kernel
theorem dX10_start_51 : decode cX10_start 51 = .ok (.getfield 9, 3) := by decide +kernel
theorem dX10_start_54 : decode cX10_start 54 = .ok (.bipush 10, 2) := by decide +kernel
theorem dX10_start_56 : decode cX10_start 56 = .ok (.iload_n 1, 1) := by decide +kernel
theorem dX10_start_57 : decode cX10_start 57 = .ok (.iadd, 1) := by decide +kernel
theorem dX10_start_58 : decode cX10_start 58 = .ok (.iload 5, 2) := by decide +kernel
theorem dX10_start_60 : decode cX10_start 60 = .ok (.iastore, 1) := by decide +kernel
theorem dX10_start_61 : decode cX10_start 61 = .ok (.aload_n 0, 1) := by decide +kernel
theorem dX10_start_62 : decode cX10_start 62 = .ok (.iload_n 1, 1) := by decide +kernel
theorem dX10_start_63 : decode cX10_start 63 = .ok (.invokevirtual 264, 3) := by decide +kernel
theorem dX10_start_66 : decode cX10_start 66 = .ok (.istore 6, 2) := by decide +kernel
theorem dX10_start_68 : decode cX10_start 68 = .ok (.iload 6, 2) := by decide +kernel
theorem dX10_start_70 : decode cX10_start 70 = .ok (.iload 4, 2) := by decide +kernel
theorem dX10_start_72 : decode cX10_start 72 = .ok (.if_icmp .le 8, 3) := by decide +kernel
theorem dX10_start_75 : decode cX10_start 75 = .ok (.iload 5, 2) := by decide +kernel
theorem dX10_start_77 : decode cX10_start 77 = .ok (.goto 4, 3) := by decide +kernel
theorem dX10_start_80 : decode cX10_start 80 = .ok (.iload_n 3, 1) := by decide +kernel
theorem dX10_start_81 : decode cX10_start 81 = .ok (.istore_n 3, 1) := by decide +kernel
theorem dX10_start_82 : decode cX10_start 82 = .ok (.iload 6, 2) := by decide +kernel
theorem dX10_start_84 : decode cX10_start 84 = .ok (.iload 4, 2) := by decide +kernel
theorem dX10_start_86 : decode cX10_start 86 = .ok (.if_icmp .le 8, 3) := by decide +kernel
theorem dX10_start_89 : decode cX10_start 89 = .ok (.iload 6, 2) := by decide +kernel
theorem dX10_start_91 : decode cX10_start 91 = .ok (.goto 5, 3) := by decide +kernel
theorem dX10_start_94 : decode cX10_start 94 = .ok (.iload 4, 2) := by decide +kernel
theorem dX10_start_96 : decode cX10_start 96 = .ok (.istore 4, 2) := by decide +kernel
theorem dX10_start_98 : decode cX10_start 98 = .ok (.iinc 5 1, 3) := by decide +kernel
theorem dX10_start_101 : decode cX10_start 101 = .ok (.goto (-58), 3) := by decide +kernel
theorem dX10_start_104 : decode cX10_start 104 = .ok (.aload_n 0, 1) := by decide +kernel
theorem dX10_start_105 : decode cX10_start 105 = .ok (.getfield 9, 3) := by decide +kernel
theorem dX10_start_108 : decode cX10_start 108 = .ok (.bipush 10, 2) := by decide +kernel
theorem dX10_start_110 : decode cX10_start 110 = .ok (.iload_n 1, 1) := by decide +kernel
theorem dX10_start_111 : decode cX10_start 111 = .ok (.iadd, 1) := by decide +kernel
theorem dX10_start_112 : decode cX10_start 112 = .ok (.iload_n 2, 1) := by decide +kernel
theorem dX10_start_113 : decode cX10_start 113 = .ok (.iastore, 1) := by decide +kernel
theorem dX10_start_114 : decode cX10_start 114 = .ok (.iload_n 3, 1) := by decide +kernel
theorem dX10_start_115 : decode cX10_start 115 = .ok (.ireturn, 1) := by decide +kernel
theorem dX10_rowIs_0 : decode cX10_rowIs 0 = .ok (.iload_n 1, 1) := by decide +kernel
theorem dX10_rowIs_1 : decode cX10_rowIs 1 = .ok (.invokestatic 125, 3) := by decide +kernel
theorem dX10_rowIs_4 : decode cX10_rowIs 4 = .ok (.ifCond .ne 7, 3) := by decide +kernel
theorem dX10_rowIs_7 : decode cX10_rowIs 7 = .ok (.iconst (-1), 1) := by decide +kernel
theorem dX10_rowIs_8 : decode cX10_rowIs 8 = .ok (.goto 34, 3) := by decide +kernel
theorem dX10_rowIs_11 : decode cX10_rowIs 11 = .ok (.aload_n 0, 1) := by decide +kernel
theorem dX10_rowIs_12 : decode cX10_rowIs 12 = .ok (.getfield 75, 3) := by decide +kernel
theorem dX10_rowIs_15 : decode cX10_rowIs 15 = .ok (.iload_n 1, 1) := by decide +kernel
theorem dX10_rowIs_16 : decode cX10_rowIs 16 = .ok (.iaload, 1) := by decide +kernel
theorem dX10_rowIs_17 : decode cX10_rowIs 17 = .ok (.ifCond .ge 8, 3) := by decide +kernel
theorem dX10_rowIs_20 : decode cX10_rowIs 20 = .ok (.bipush (-11), 2) := by decide +kernel
theorem dX10_rowIs_22 : decode cX10_rowIs 22 = .ok (.goto 20, 3) := by decide +kernel
theorem dX10_rowIs_25 : decode cX10_rowIs 25 = .ok (.aload_n 0, 1) := by decide +kernel
theorem dX10_rowIs_26 : decode cX10_rowIs 26 = .ok (.getfield 75, 3) := by decide +kernel
theorem dX10_rowIs_29 : decode cX10_rowIs 29 = .ok (.iload_n 1, 1) := by decide +kernel
theorem dX10_rowIs_30 : decode cX10_rowIs 30 = .ok (.iaload, 1) := by decide +kernel
theorem dX10_rowIs_31 : decode cX10_rowIs 31 = .ok (.bipush 50, 2) := by decide +kernel
theorem dX10_rowIs_33 : decode cX10_rowIs 33 = .ok (.if_icmp .ne 7, 3) := by decide +kernel
theorem dX10_rowIs_36 : decode cX10_rowIs 36 = .ok (.iconst 1, 1) := by decide +kernel
theorem dX10_rowIs_37 : decode cX10_rowIs 37 = .ok (.goto 5, 3) := by decide +kernel
theorem dX10_rowIs_40 : decode cX10_rowIs 40 = .ok (.bipush (-12), 2) := by decide +kernel
theorem dX10_rowIs_42 : decode cX10_rowIs 42 = .ok (.ireturn, 1) := by decide +kernel
theorem dX10_music_0 : decode cX10_music 0 = .ok (.aload_n 0, 1) := by decide +kernel
theorem dX10_music_1 : decode cX10_music 1 = .ok (.iload_n 1, 1) := by decide +kernel
theorem dX10_music_2 : decode cX10_music 2 = .ok (.invokevirtual 285, 3) := by decide +kernel
theorem dX10_music_5 : decode cX10_music 5 = .ok (.ifCond .ge 9, 3) := by decide +kernel
theorem dX10_music_8 : decode cX10_music 8 = .ok (.aload_n 0, 1) := by decide +kernel
theorem dX10_music_9 : decode cX10_music 9 = .ok (.iload_n 1, 1) := by decide +kernel
theorem dX10_music_10 : decode cX10_music 10 = .ok (.invokevirtual 285, 3) := by decide +kernel
theorem dX10_music_13 : decode cX10_music 13 = .ok (.ireturn, 1) := by decide +kernel
theorem dX10_music_14 : decode cX10_music 14 = .ok (.aload_n 0, 1) := by decide +kernel
theorem dX10_music_15 : decode cX10_music 15 = .ok (.invokevirtual 246, 3) := by decide +kernel
theorem dX10_music_18 : decode cX10_music 18 = .ok (.istore_n 2, 1) := by decide +kernel
theorem dX10_music_19 : decode cX10_music 19 = .ok (.aload_n 0, 1) := by decide +kernel
theorem dX10_music_20 : decode cX10_music 20 = .ok (.iload_n 2, 1) := by decide +kernel
theorem dX10_music_21 : decode cX10_music 21 = .ok (.invokevirtual 249, 3) := by decide +kernel
theorem dX10_music_24 : decode cX10_music 24 = .ok (.iconst 0, 1) := by decide +kernel
theorem dX10_music_25 : decode cX10_music 25 = .ok (.istore_n 3, 1) := by decide +kernel
theorem dX10_music_26 : decode cX10_music 26 = .ok (.aload_n 0, 1) := by decide +kernel
theorem dX10_music_27 : decode cX10_music 27 = .ok (.getfield 78, 3) := by decide +kernel
theorem dX10_music_30 : decode cX10_music 30 = .ok (.iload_n 1, 1) := by decide +kernel
theorem dX10_music_31 : decode cX10_music 31 = .ok (.iaload, 1) := by decide +kernel
theorem dX10_music_32 : decode cX10_music 32 = .ok (.ifCond .le 29, 3) := by decide +kernel
theorem dX10_music_35 : decode cX10_music 35 = .ok (.aload_n 0, 1) := by decide +kernel
theorem dX10_music_36 : decode cX10_music 36 = .ok (.getfield 81, 3) := by decide +kernel
theorem dX10_music_39 : decode cX10_music 39 = .ok (.bipush 60, 2) := by decide +kernel
theorem dX10_music_41 : decode cX10_music 41 = .ok (.iload_n 1, 1) := by decide +kernel
theorem dX10_music_42 : decode cX10_music 42 = .ok (.imul, 1) := by decide +kernel
theorem dX10_music_43 : decode cX10_music 43 = .ok (.laload, 1) := by decide +kernel
theorem dX10_music_44 : decode cX10_music 44 = .ok (.lconst 1, 1) := by decide +kernel
theorem dX10_music_45 : decode cX10_music 45 = .ok (.lcmp, 1) := by decide +kernel
theorem dX10_music_46 : decode cX10_music 46 = .ok (.ifCond .lt 15, 3) := by decide +kernel
theorem dX10_music_49 : decode cX10_music 49 = .ok (.aload_n 0, 1) := by decide +kernel
theorem dX10_music_50 : decode cX10_music 50 = .ok (.getfield 81, 3) := by decide +kernel
theorem dX10_music_53 : decode cX10_music 53 = .ok (.bipush 60, 2) := by decide +kernel
theorem dX10_music_55 : decode cX10_music 55 = .ok (.iload_n 1, 1) := by decide +kernel
theorem dX10_music_56 : decode cX10_music 56 = .ok (.imul, 1) := by decide +kernel
theorem dX10_music_57 : decode cX10_music 57 = .ok (.laload, 1) := by decide +kernel
theorem dX10_music_58 : decode cX10_music 58 = .ok (.goto 6, 3) := by decide +kernel
theorem dX10_music_61 : decode cX10_music 61 = .ok (.ldc2_w 288, 3) := by decide +kernel
theorem dX10_music_64 : decode cX10_music 64 = .ok (.lstore 4, 2) := by decide +kernel
theorem dX10_music_66 : decode cX10_music 66 = .ok (.iconst 0, 1) := by decide +kernel
theorem dX10_music_67 : decode cX10_music 67 = .ok (.istore 6, 2) := by decide +kernel
theorem dX10_music_69 : decode cX10_music 69 = .ok (.iload 6, 2) := by decide +kernel
theorem dX10_music_71 : decode cX10_music 71 = .ok (.sipush 200, 3) := by decide +kernel
theorem dX10_music_74 : decode cX10_music 74 = .ok (.if_icmp .ge 113, 3) := by decide +kernel
theorem dX10_music_77 : decode cX10_music 77 = .ok (.iload 6, 2) := by decide +kernel
theorem dX10_music_79 : decode cX10_music 79 = .ok (.i2l, 1) := by decide +kernel
theorem dX10_music_80 : decode cX10_music 80 = .ok (.lload 4, 2) := by decide +kernel
theorem dX10_music_82 : decode cX10_music 82 = .ok (.lcmp, 1) := by decide +kernel
theorem dX10_music_83 : decode cX10_music 83 = .ok (.ifCond .ne 76, 3) := by decide +kernel
theorem dX10_music_86 : decode cX10_music 86 = .ok (.aload_n 0, 1) := by decide +kernel
theorem dX10_music_87 : decode cX10_music 87 = .ok (.iload_n 3, 1) := by decide +kernel
theorem dX10_music_88 : decode cX10_music 88 = .ok (.iconst 2, 1) := by decide +kernel
theorem dX10_music_89 : decode cX10_music 89 = .ok (.irem, 1) := by decide +kernel
theorem dX10_music_90 : decode cX10_music 90 = .ok (.ifCond .ne 7, 3) := by decide +kernel
theorem dX10_music_93 : decode cX10_music 93 = .ok (.iconst 0, 1) := by decide +kernel
theorem dX10_music_94 : decode cX10_music 94 = .ok (.goto 5, 3) := by decide +kernel
theorem dX10_music_97 : decode cX10_music 97 = .ok (.bipush 12, 2) := by decide +kernel
theorem dX10_music_99 : decode cX10_music 99 = .ok (.aload_n 0, 1) := by decide +kernel
theorem dX10_music_100 : decode cX10_music 100 = .ok (.getfield 9, 3) := by decide +kernel
theorem dX10_music_103 : decode cX10_music 103 = .ok (.bipush 18, 2) := by decide +kernel
theorem dX10_music_105 : decode cX10_music 105 = .ok (.iaload, 1) := by decide +kernel
theorem dX10_music_106 : decode cX10_music 106 = .ok (.invokevirtual 234, 3) := by decide +kernel
theorem dX10_music_109 : decode cX10_music 109 = .ok (.iinc 3 1, 3) := by decide +kernel
theorem dX10_music_112 : decode cX10_music 112 = .ok (.iload_n 3, 1) := by decide +kernel
theorem dX10_music_113 : decode cX10_music 113 = .ok (.aload_n 0, 1) := by decide +kernel
theorem dX10_music_114 : decode cX10_music 114 = .ok (.getfield 78, 3) := by decide +kernel
theorem dX10_music_117 : decode cX10_music 117 = .ok (.iload_n 1, 1) := by decide +kernel
theorem dX10_music_118 : decode cX10_music 118 = .ok (.iaload, 1) := by decide +kernel
theorem dX10_music_119 : decode cX10_music 119 = .ok (.if_icmp .ge 17, 3) := by decide +kernel
theorem dX10_music_122 : decode cX10_music 122 = .ok (.aload_n 0, 1) := by decide +kernel
theorem dX10_music_123 : decode cX10_music 123 = .ok (.getfield 81, 3) := by decide +kernel
theorem dX10_music_126 : decode cX10_music 126 = .ok (.bipush 60, 2) := by decide +kernel
theorem dX10_music_128 : decode cX10_music 128 = .ok (.iload_n 1, 1) := by decide +kernel
theorem dX10_music_129 : decode cX10_music 129 = .ok (.imul, 1) := by decide +kernel
theorem dX10_music_130 : decode cX10_music 130 = .ok (.iload_n 3, 1) := by decide +kernel
theorem dX10_music_131 : decode cX10_music 131 = .ok (.iadd, 1) := by decide +kernel
theorem dX10_music_132 : decode cX10_music 132 = .ok (.laload, 1) := by decide +kernel
theorem dX10_music_133 : decode cX10_music 133 = .ok (.goto 4, 3) := by decide +kernel
theorem dX10_music_136 : decode cX10_music 136 = .ok (.lconst 0, 1) := by decide +kernel
theorem dX10_music_137 : decode cX10_music 137 = .ok (.lstore 7, 2) := by decide +kernel
theorem dX10_music_139 : decode cX10_music 139 = .ok (.lload 7, 2) := by decide +kernel
theorem dX10_music_141 : decode cX10_music 141 = .ok (.lconst 1, 1) := by decide +kernel
theorem dX10_music_142 : decode cX10_music 142 = .ok (.lcmp, 1) := by decide +kernel
theorem dX10_music_143 : decode cX10_music 143 = .ok (.ifCond .lt 11, 3) := by decide +kernel
theorem dX10_music_146 : decode cX10_music 146 = .ok (.lload 4, 2) := by decide +kernel
theorem dX10_music_148 : decode cX10_music 148 = .ok (.lload 7, 2) := by decide +kernel
theorem dX10_music_150 : decode cX10_music 150 = .ok (.ladd, 1) := by decide +kernel
theorem dX10_music_151 : decode cX10_music 151 = .ok (.goto 6, 3) := by decide +kernel
theorem dX10_music_154 : decode cX10_music 154 = .ok (.ldc2_w 288, 3) := by decide +kernel
theorem dX10_music_157 : decode cX10_music 157 = .ok (.lstore 4, 2) := by decide +kernel
theorem dX10_music_159 : decode cX10_music 159 = .ok (.aload_n 0, 1) := by decide +kernel
theorem dX10_music_160 : decode cX10_music 160 = .ok (.aload_n 0, 1) := by decide +kernel
theorem dX10_music_161 : decode cX10_music 161 = .ok (.getfield 151, 3) := by decide +kernel
theorem dX10_music_164 : decode cX10_music 164 = .ok (.iload 6, 2) := by decide +kernel
theorem dX10_music_166 : decode cX10_music 166 = .ok (.iadd, 1) := by decide +kernel
theorem dX10_music_167 : decode cX10_music 167 = .ok (.invokevirtual 240, 3) := by decide +kernel
theorem dX10_music_170 : decode cX10_music 170 = .ok (.aload_n 0, 1) := by decide +kernel
theorem dX10_music_171 : decode cX10_music 171 = .ok (.iload_n 2, 1) := by decide +kernel
theorem dX10_music_172 : decode cX10_music 172 = .ok (.invokevirtual 252, 3) := by decide +kernel
theorem dX10_music_175 : decode cX10_music 175 = .ok (.ifCond .le 6, 3) := by decide +kernel
theorem dX10_music_178 : decode cX10_music 178 = .ok (.iload 6, 2) := by decide +kernel
theorem dX10_music_180 : decode cX10_music 180 = .ok (.ireturn, 1) := by decide +kernel
theorem dX10_music_181 : decode cX10_music 181 = .ok (.iinc 6 1, 3) := by decide +kernel
theorem dX10_music_184 : decode cX10_music 184 = .ok (.goto (-115), 3) := by decide +kernel
theorem dX10_music_187 : decode cX10_music 187 = .ok (.sipush 200, 3) := by decide +kernel
theorem dX10_music_190 : decode cX10_music 190 = .ok (.ireturn, 1) := by decide +kernel
theorem dX10_firstFalse_0 : decode cX10_firstFalse 0 = .ok (.aload_n 0, 1) := by decide +kernel
theorem dX10_firstFalse_1 : decode cX10_firstFalse 1 = .ok (.aload_n 0, 1) := by decide +kernel
theorem dX10_firstFalse_2 : decode cX10_firstFalse 2 = .ok (.invokevirtual 246, 3) := by decide +kernel
theorem dX10_firstFalse_5 : decode cX10_firstFalse 5 = .ok (.invokevirtual 249, 3) := by decide +kernel
theorem dX10_firstFalse_8 : decode cX10_firstFalse 8 = .ok (.iconst 0, 1) := by decide +kernel
theorem dX10_firstFalse_9 : decode cX10_firstFalse 9 = .ok (.istore_n 3, 1) := by decide +kernel
theorem dX10_firstFalse_10 : decode cX10_firstFalse 10 = .ok (.iload_n 3, 1) := by decide +kernel
theorem dX10_firstFalse_11 : decode cX10_firstFalse 11 = .ok (.aload_n 0, 1) := by decide +kernel
theorem dX10_firstFalse_12 : decode cX10_firstFalse 12 = .ok (.getfield 78, 3) := by decide +kernel
theorem dX10_firstFalse_15 : decode cX10_firstFalse 15 = .ok (.iload_n 1, 1) := by decide +kernel
theorem dX10_firstFalse_16 : decode cX10_firstFalse 16 = .ok (.iaload, 1) := by decide +kernel
theorem dX10_firstFalse_17 : decode cX10_firstFalse 17 = .ok (.if_icmp .ge 50, 3) := by decide +kernel
theorem dX10_firstFalse_20 : decode cX10_firstFalse 20 = .ok (.iload_n 3, 1) := by decide +kernel
theorem dX10_firstFalse_21 : decode cX10_firstFalse 21 = .ok (.sipush 200, 3) := by decide +kernel
theorem dX10_firstFalse_24 : decode cX10_firstFalse 24 = .ok (.if_icmp .ge 43, 3) := by decide +kernel
theorem dX10_firstFalse_27 : decode cX10_firstFalse 27 = .ok (.aload_n 0, 1) := by decide +kernel
theorem dX10_firstFalse_28 : decode cX10_firstFalse 28 = .ok (.aload_n 0, 1) := by decide +kernel
theorem dX10_firstFalse_29 : decode cX10_firstFalse 29 = .ok (.getfield 151, 3) := by decide +kernel
theorem dX10_firstFalse_32 : decode cX10_firstFalse 32 = .ok (.iload_n 3, 1) := by decide +kernel
theorem dX10_firstFalse_33 : decode cX10_firstFalse 33 = .ok (.iadd, 1) := by decide +kernel
theorem dX10_firstFalse_34 : decode cX10_firstFalse 34 = .ok (.invokevirtual 255, 3) := by decide +kernel
theorem dX10_firstFalse_37 : decode cX10_firstFalse 37 = .ok (.aload_n 0, 1) := by decide +kernel
theorem dX10_firstFalse_38 : decode cX10_firstFalse 38 = .ok (.getfield 81, 3) := by decide +kernel
theorem dX10_firstFalse_41 : decode cX10_firstFalse 41 = .ok (.bipush 60, 2) := by decide +kernel
theorem dX10_firstFalse_43 : decode cX10_firstFalse 43 = .ok (.iload_n 1, 1) := by decide +kernel
theorem dX10_firstFalse_44 : decode cX10_firstFalse 44 = .ok (.imul, 1) := by decide +kernel
theorem dX10_firstFalse_45 : decode cX10_firstFalse 45 = .ok (.iload_n 3, 1) := by decide +kernel
theorem dX10_firstFalse_46 : decode cX10_firstFalse 46 = .ok (.iadd, 1) := by decide +kernel
theorem dX10_firstFalse_47 : decode cX10_firstFalse 47 = .ok (.laload, 1) := by decide +kernel
theorem dX10_firstFalse_48 : decode cX10_firstFalse 48 = .ok (.aload_n 0, 1) := by decide +kernel
theorem dX10_firstFalse_49 : decode cX10_firstFalse 49 = .ok (.getfield 37, 3) := by decide +kernel
theorem dX10_firstFalse_52 : decode cX10_firstFalse 52 = .ok (.iload_n 2, 1) := by decide +kernel
theorem dX10_firstFalse_53 : decode cX10_firstFalse 53 = .ok (.iaload, 1) := by decide +kernel
theorem dX10_firstFalse_54 : decode cX10_firstFalse 54 = .ok (.i2l, 1) := by decide +kernel
theorem dX10_firstFalse_55 : decode cX10_firstFalse 55 = .ok (.lcmp, 1) := by decide +kernel
theorem dX10_firstFalse_56 : decode cX10_firstFalse 56 = .ok (.ifCond .eq 5, 3) := by decide +kernel
theorem dX10_firstFalse_59 : decode cX10_firstFalse 59 = .ok (.iload_n 3, 1) := by decide +kernel
theorem dX10_firstFalse_60 : decode cX10_firstFalse 60 = .ok (.ireturn, 1) := by decide +kernel
theorem dX10_firstFalse_61 : decode cX10_firstFalse 61 = .ok (.iinc 3 1, 3) := by decide +kernel
theorem dX10_firstFalse_64 : decode cX10_firstFalse 64 = .ok (.goto (-54), 3) := by decide +kernel
theorem dX10_firstFalse_67 : decode cX10_firstFalse 67 = .ok (.bipush (-2), 2) := by decide +kernel
theorem dX10_firstFalse_69 : decode cX10_firstFalse 69 = .ok (.ireturn, 1) := by decide +kernel
theorem dX10_judge_0 : decode cX10_judge 0 = .ok (.aload_n 0, 1) := by decide +kernel
theorem dX10_judge_1 : decode cX10_judge 1 = .ok (.iload_n 1, 1) := by decide +kernel
theorem dX10_judge_2 : decode cX10_judge 2 = .ok (.invokevirtual 285, 3) := by decide +kernel
theorem dX10_judge_5 : decode cX10_judge 5 = .ok (.iconst (-1), 1) := by decide +kernel
theorem dX10_judge_6 : decode cX10_judge 6 = .ok (.if_icmp .eq 11, 3) := by decide +kernel
theorem dX10_judge_9 : decode cX10_judge 9 = .ok (.aload_n 0, 1) := by decide +kernel
theorem dX10_judge_10 : decode cX10_judge 10 = .ok (.iload_n 2, 1) := by decide +kernel
theorem dX10_judge_11 : decode cX10_judge 11 = .ok (.invokevirtual 133, 3) := by decide +kernel
theorem dX10_judge_14 : decode cX10_judge 14 = .ok (.ifCond .ne 5, 3) := by decide +kernel
theorem dX10_judge_17 : decode cX10_judge 17 = .ok (.iconst (-1), 1) := by decide +kernel
theorem dX10_judge_18 : decode cX10_judge 18 = .ok (.ireturn, 1) := by decide +kernel
theorem dX10_judge_19 : decode cX10_judge 19 = .ok (.aload_n 0, 1) := by decide +kernel
theorem dX10_judge_20 : decode cX10_judge 20 = .ok (.iload_n 1, 1) := by decide +kernel
theorem dX10_judge_21 : decode cX10_judge 21 = .ok (.invokevirtual 285, 3) := by decide +kernel
theorem dX10_judge_24 : decode cX10_judge 24 = .ok (.ifCond .ge 11, 3) := by decide +kernel
theorem dX10_judge_27 : decode cX10_judge 27 = .ok (.aload_n 0, 1) := by decide +kernel
theorem dX10_judge_28 : decode cX10_judge 28 = .ok (.iload_n 1, 1) := by decide +kernel
theorem dX10_judge_29 : decode cX10_judge 29 = .ok (.invokevirtual 285, 3) := by decide +kernel
theorem dX10_judge_32 : decode cX10_judge 32 = .ok (.goto 9, 3) := by decide +kernel
theorem dX10_judge_35 : decode cX10_judge 35 = .ok (.aload_n 0, 1) := by decide +kernel
theorem dX10_judge_36 : decode cX10_judge 36 = .ok (.iload_n 1, 1) := by decide +kernel
theorem dX10_judge_37 : decode cX10_judge 37 = .ok (.iload_n 2, 1) := by decide +kernel
theorem dX10_judge_38 : decode cX10_judge 38 = .ok (.invokevirtual 290, 3) := by decide +kernel
theorem dX10_judge_41 : decode cX10_judge 41 = .ok (.ireturn, 1) := by decide +kernel
theorem dX10_begun_0 : decode cX10_begun 0 = .ok (.aload_n 0, 1) := by decide +kernel
theorem dX10_begun_1 : decode cX10_begun 1 = .ok (.iload_n 1, 1) := by decide +kernel
theorem dX10_begun_2 : decode cX10_begun 2 = .ok (.invokevirtual 285, 3) := by decide +kernel
theorem dX10_begun_5 : decode cX10_begun 5 = .ok (.ifCond .lt 21, 3) := by decide +kernel
theorem dX10_begun_8 : decode cX10_begun 8 = .ok (.aload_n 0, 1) := by decide +kernel
theorem dX10_begun_9 : decode cX10_begun 9 = .ok (.iload_n 2, 1) := by decide +kernel
theorem dX10_begun_10 : decode cX10_begun 10 = .ok (.invokevirtual 133, 3) := by decide +kernel
theorem dX10_begun_13 : decode cX10_begun 13 = .ok (.ifCond .eq 13, 3) := by decide +kernel
theorem dX10_begun_16 : decode cX10_begun 16 = .ok (.iload_n 3, 1) := by decide +kernel
theorem dX10_begun_17 : decode cX10_begun 17 = .ok (.i2l, 1) := by decide +kernel
theorem dX10_begun_18 : decode cX10_begun 18 = .ok (.lconst 0, 1) := by decide +kernel
theorem dX10_begun_19 : decode cX10_begun 19 = .ok (.lconst 1, 1) := by decide +kernel
theorem dX10_begun_20 : decode cX10_begun 20 = .ok (.invokestatic 101, 3) := by decide +kernel
theorem dX10_begun_23 : decode cX10_begun 23 = .ok (.ifCond .ne 6, 3) := by decide +kernel
theorem dX10_begun_26 : decode cX10_begun 26 = .ok (.ldc 140, 2) := by decide +kernel
theorem dX10_begun_28 : decode cX10_begun 28 = .ok (.ireturn, 1) := by decide +kernel
theorem dX10_begun_29 : decode cX10_begun 29 = .ok (.aload_n 0, 1) := by decide +kernel
theorem dX10_begun_30 : decode cX10_begun 30 = .ok (.getfield 9, 3) := by decide +kernel
theorem dX10_begun_33 : decode cX10_begun 33 = .ok (.bipush 10, 2) := by decide +kernel
theorem dX10_begun_35 : decode cX10_begun 35 = .ok (.iload_n 2, 1) := by decide +kernel
theorem dX10_begun_36 : decode cX10_begun 36 = .ok (.iadd, 1) := by decide +kernel
theorem dX10_begun_37 : decode cX10_begun 37 = .ok (.iaload, 1) := by decide +kernel
theorem dX10_begun_38 : decode cX10_begun 38 = .ok (.istore 4, 2) := by decide +kernel
theorem dX10_begun_40 : decode cX10_begun 40 = .ok (.aload_n 0, 1) := by decide +kernel
theorem dX10_begun_41 : decode cX10_begun 41 = .ok (.getfield 25, 3) := by decide +kernel
theorem dX10_begun_44 : decode cX10_begun 44 = .ok (.iload_n 2, 1) := by decide +kernel
theorem dX10_begun_45 : decode cX10_begun 45 = .ok (.iaload, 1) := by decide +kernel
theorem dX10_begun_46 : decode cX10_begun 46 = .ok (.ifCond .le 8, 3) := by decide +kernel
theorem dX10_begun_49 : decode cX10_begun 49 = .ok (.bipush 9, 2) := by decide +kernel
theorem dX10_begun_51 : decode cX10_begun 51 = .ok (.goto 4, 3) := by decide +kernel
theorem dX10_begun_54 : decode cX10_begun 54 = .ok (.iconst 0, 1) := by decide +kernel
theorem dX10_begun_55 : decode cX10_begun 55 = .ok (.istore 5, 2) := by decide +kernel
theorem dX10_begun_57 : decode cX10_begun 57 = .ok (.iconst 0, 1) := by decide +kernel
theorem dX10_begun_58 : decode cX10_begun 58 = .ok (.istore 6, 2) := by decide +kernel
theorem dX10_begun_60 : decode cX10_begun 60 = .ok (.bipush (-2), 2) := by decide +kernel
theorem dX10_begun_62 : decode cX10_begun 62 = .ok (.istore 7, 2) := by decide +kernel
theorem dX10_begun_64 : decode cX10_begun 64 = .ok (.iload 5, 2) := by decide +kernel
theorem dX10_begun_66 : decode cX10_begun 66 = .ok (.ineg, 1) := by decide +kernel
theorem dX10_begun_67 : decode cX10_begun 67 = .ok (.istore 8, 2) := by decide +kernel
theorem dX10_begun_69 : decode cX10_begun 69 = .ok (.iload 8, 2) := by decide +kernel
theorem dX10_begun_71 : decode cX10_begun 71 = .ok (.iload 5, 2) := by decide +kernel
theorem dX10_begun_73 : decode cX10_begun 73 = .ok (.if_icmp .gt 48, 3) := by decide +kernel
theorem dX10_begun_76 : decode cX10_begun 76 = .ok (.aload_n 0, 1) := by decide +kernel
theorem dX10_begun_77 : decode cX10_begun 77 = .ok (.getfield 9, 3) := by decide +kernel
theorem dX10_begun_80 : decode cX10_begun 80 = .ok (.bipush 10, 2) := by decide +kernel
theorem dX10_begun_82 : decode cX10_begun 82 = .ok (.iload_n 2, 1) := by decide +kernel
theorem dX10_begun_83 : decode cX10_begun 83 = .ok (.iadd, 1) := by decide +kernel
theorem dX10_begun_84 : decode cX10_begun 84 = .ok (.iload 8, 2) := by decide +kernel
theorem dX10_begun_86 : decode cX10_begun 86 = .ok (.iastore, 1) := by decide +kernel
theorem dX10_begun_87 : decode cX10_begun 87 = .ok (.aload_n 0, 1) := by decide +kernel
theorem dX10_begun_88 : decode cX10_begun 88 = .ok (.iload_n 1, 1) := by decide +kernel
theorem dX10_begun_89 : decode cX10_begun 89 = .ok (.iload_n 2, 1) := by decide +kernel
theorem dX10_begun_90 : decode cX10_begun 90 = .ok (.invokevirtual 290, 3) := by decide +kernel
theorem dX10_begun_93 : decode cX10_begun 93 = .ok (.bipush (-2), 2) := by decide +kernel
theorem dX10_begun_95 : decode cX10_begun 95 = .ok (.if_icmp .ne 20, 3) := by decide +kernel
theorem dX10_begun_98 : decode cX10_begun 98 = .ok (.iload 6, 2) := by decide +kernel
theorem dX10_begun_100 : decode cX10_begun 100 = .ok (.ifCond .ne 8, 3) := by decide +kernel
theorem dX10_begun_103 : decode cX10_begun 103 = .ok (.iload 8, 2) := by decide +kernel
theorem dX10_begun_105 : decode cX10_begun 105 = .ok (.goto 5, 3) := by decide +kernel
theorem dX10_begun_108 : decode cX10_begun 108 = .ok (.iload 7, 2) := by decide +kernel
theorem dX10_begun_110 : decode cX10_begun 110 = .ok (.istore 7, 2) := by decide +kernel
theorem dX10_begun_112 : decode cX10_begun 112 = .ok (.iinc 6 1, 3) := by decide +kernel
theorem dX10_begun_115 : decode cX10_begun 115 = .ok (.iinc 8 1, 3) := by decide +kernel
theorem dX10_begun_118 : decode cX10_begun 118 = .ok (.goto (-49), 3) := by decide +kernel
theorem dX10_begun_121 : decode cX10_begun 121 = .ok (.aload_n 0, 1) := by decide +kernel
theorem dX10_begun_122 : decode cX10_begun 122 = .ok (.getfield 9, 3) := by decide +kernel
theorem dX10_begun_125 : decode cX10_begun 125 = .ok (.bipush 10, 2) := by decide +kernel
theorem dX10_begun_127 : decode cX10_begun 127 = .ok (.iload_n 2, 1) := by decide +kernel
theorem dX10_begun_128 : decode cX10_begun 128 = .ok (.iadd, 1) := by decide +kernel
theorem dX10_begun_129 : decode cX10_begun 129 = .ok (.iload 4, 2) := by decide +kernel
theorem dX10_begun_131 : decode cX10_begun 131 = .ok (.iastore, 1) := by decide +kernel
theorem dX10_begun_132 : decode cX10_begun 132 = .ok (.iload_n 3, 1) := by decide +kernel
theorem dX10_begun_133 : decode cX10_begun 133 = .ok (.ifCond .ne 8, 3) := by decide +kernel
theorem dX10_begun_136 : decode cX10_begun 136 = .ok (.iload 6, 2) := by decide +kernel
theorem dX10_begun_138 : decode cX10_begun 138 = .ok (.goto 5, 3) := by decide +kernel
theorem dX10_begun_141 : decode cX10_begun 141 = .ok (.iload 7, 2) := by decide +kernel
theorem dX10_begun_143 : decode cX10_begun 143 = .ok (.ireturn, 1) := by decide +kernel
theorem dX10_isGirl_0 : decode cX10_isGirl 0 = .ok (.iload_n 0, 1) := by decide +kernel
theorem dX10_isGirl_1 : decode cX10_isGirl 1 = .ok (.i2l, 1) := by decide +kernel
theorem dX10_isGirl_2 : decode cX10_isGirl 2 = .ok (.lconst 0, 1) := by decide +kernel
theorem dX10_isGirl_3 : decode cX10_isGirl 3 = .ok (.ldc2_w 158, 3) := by decide +kernel
theorem dX10_isGirl_6 : decode cX10_isGirl 6 = .ok (.invokestatic 101, 3) := by decide +kernel
theorem dX10_isGirl_9 : decode cX10_isGirl 9 = .ok (.ireturn, 1) := by decide +kernel
theorem dX10_skill_0 : decode cX10_skill 0 = .ok (.iload_n 1, 1) := by decide +kernel
theorem dX10_skill_1 : decode cX10_skill 1 = .ok (.invokestatic 293, 3) := by decide +kernel
theorem dX10_skill_4 : decode cX10_skill 4 = .ok (.ifCond .eq 15, 3) := by decide +kernel
theorem dX10_skill_7 : decode cX10_skill 7 = .ok (.iload_n 2, 1) := by decide +kernel
theorem dX10_skill_8 : decode cX10_skill 8 = .ok (.i2l, 1) := by decide +kernel
theorem dX10_skill_9 : decode cX10_skill 9 = .ok (.lconst 0, 1) := by decide +kernel
theorem dX10_skill_10 : decode cX10_skill 10 = .ok (.ldc2_w 296, 3) := by decide +kernel
theorem dX10_skill_13 : decode cX10_skill 13 = .ok (.invokestatic 101, 3) := by decide +kernel
theorem dX10_skill_16 : decode cX10_skill 16 = .ok (.ifCond .ne 5, 3) := by decide +kernel
theorem dX10_skill_19 : decode cX10_skill 19 = .ok (.iconst (-1), 1) := by decide +kernel
theorem dX10_skill_20 : decode cX10_skill 20 = .ok (.ireturn, 1) := by decide +kernel
theorem dX10_skill_21 : decode cX10_skill 21 = .ok (.aload_n 0, 1) := by decide +kernel
theorem dX10_skill_22 : decode cX10_skill 22 = .ok (.getfield 50, 3) := by decide +kernel
theorem dX10_skill_25 : decode cX10_skill 25 = .ok (.iload_n 1, 1) := by decide +kernel
theorem dX10_skill_26 : decode cX10_skill 26 = .ok (.iaload, 1) := by decide +kernel
theorem dX10_skill_27 : decode cX10_skill 27 = .ok (.istore_n 3, 1) := by decide +kernel
theorem dX10_skill_28 : decode cX10_skill 28 = .ok (.aload_n 0, 1) := by decide +kernel
theorem dX10_skill_29 : decode cX10_skill 29 = .ok (.getfield 50, 3) := by decide +kernel
theorem dX10_skill_32 : decode cX10_skill 32 = .ok (.iload_n 1, 1) := by decide +kernel
theorem dX10_skill_33 : decode cX10_skill 33 = .ok (.iload_n 2, 1) := by decide +kernel
theorem dX10_skill_34 : decode cX10_skill 34 = .ok (.iastore, 1) := by decide +kernel
theorem dX10_skill_35 : decode cX10_skill 35 = .ok (.aload_n 0, 1) := by decide +kernel
theorem dX10_skill_36 : decode cX10_skill 36 = .ok (.getfield 53, 3) := by decide +kernel
theorem dX10_skill_39 : decode cX10_skill 39 = .ok (.iload_n 1, 1) := by decide +kernel
theorem dX10_skill_40 : decode cX10_skill 40 = .ok (.iconst 0, 1) := by decide +kernel
theorem dX10_skill_41 : decode cX10_skill 41 = .ok (.iastore, 1) := by decide +kernel
theorem dX10_skill_42 : decode cX10_skill 42 = .ok (.iload_n 3, 1) := by decide +kernel
theorem dX10_skill_43 : decode cX10_skill 43 = .ok (.ireturn, 1) := by decide +kernel
theorem dX10_besideOf_0 : decode cX10_besideOf 0 = .ok (.iload_n 1, 1) := by decide +kernel
theorem dX10_besideOf_1 : decode cX10_besideOf 1 = .ok (.tableswitch 69 0 2 #[27, 40, 55], 27) := by decide +kernel
theorem dX10_besideOf_28 : decode cX10_besideOf 28 = .ok (.iload_n 0, 1) := by decide +kernel
theorem dX10_besideOf_29 : decode cX10_besideOf 29 = .ok (.iconst 5, 1) := by decide +kernel
theorem dX10_besideOf_30 : decode cX10_besideOf 30 = .ok (.if_icmp .ge 7, 3) := by decide +kernel
theorem dX10_besideOf_33 : decode cX10_besideOf 33 = .ok (.iconst (-1), 1) := by decide +kernel
theorem dX10_besideOf_34 : decode cX10_besideOf 34 = .ok (.goto 6, 3) := by decide +kernel
theorem dX10_besideOf_37 : decode cX10_besideOf 37 = .ok (.iload_n 0, 1) := by decide +kernel
theorem dX10_besideOf_38 : decode cX10_besideOf 38 = .ok (.iconst 5, 1) := by decide +kernel
theorem dX10_besideOf_39 : decode cX10_besideOf 39 = .ok (.isub, 1) := by decide +kernel
theorem dX10_besideOf_40 : decode cX10_besideOf 40 = .ok (.ireturn, 1) := by decide +kernel
theorem dX10_besideOf_41 : decode cX10_besideOf 41 = .ok (.iload_n 0, 1) := by decide +kernel
theorem dX10_besideOf_42 : decode cX10_besideOf 42 = .ok (.iconst 5, 1) := by decide +kernel
theorem dX10_besideOf_43 : decode cX10_besideOf 43 = .ok (.irem, 1) := by decide +kernel
theorem dX10_besideOf_44 : decode cX10_besideOf 44 = .ok (.iconst 4, 1) := by decide +kernel
theorem dX10_besideOf_45 : decode cX10_besideOf 45 = .ok (.if_icmp .ne 7, 3) := by decide +kernel
theorem dX10_besideOf_48 : decode cX10_besideOf 48 = .ok (.iconst (-1), 1) := by decide +kernel
theorem dX10_besideOf_49 : decode cX10_besideOf 49 = .ok (.goto 6, 3) := by decide +kernel
theorem dX10_besideOf_52 : decode cX10_besideOf 52 = .ok (.iload_n 0, 1) := by decide +kernel
theorem dX10_besideOf_53 : decode cX10_besideOf 53 = .ok (.iconst 1, 1) := by decide +kernel
theorem dX10_besideOf_54 : decode cX10_besideOf 54 = .ok (.iadd, 1) := by decide +kernel
theorem dX10_besideOf_55 : decode cX10_besideOf 55 = .ok (.ireturn, 1) := by decide +kernel
theorem dX10_besideOf_56 : decode cX10_besideOf 56 = .ok (.iload_n 0, 1) := by decide +kernel
theorem dX10_besideOf_57 : decode cX10_besideOf 57 = .ok (.bipush 19, 2) := by decide +kernel
theorem dX10_besideOf_59 : decode cX10_besideOf 59 = .ok (.if_icmp .le 7, 3) := by decide +kernel
theorem dX10_besideOf_62 : decode cX10_besideOf 62 = .ok (.iconst (-1), 1) := by decide +kernel
theorem dX10_besideOf_63 : decode cX10_besideOf 63 = .ok (.goto 6, 3) := by decide +kernel
theorem dX10_besideOf_66 : decode cX10_besideOf 66 = .ok (.iload_n 0, 1) := by decide +kernel
theorem dX10_besideOf_67 : decode cX10_besideOf 67 = .ok (.iconst 5, 1) := by decide +kernel
theorem dX10_besideOf_68 : decode cX10_besideOf 68 = .ok (.iadd, 1) := by decide +kernel
theorem dX10_besideOf_69 : decode cX10_besideOf 69 = .ok (.ireturn, 1) := by decide +kernel
theorem dX10_besideOf_70 : decode cX10_besideOf 70 = .ok (.iload_n 0, 1) := by decide +kernel
theorem dX10_besideOf_71 : decode cX10_besideOf 71 = .ok (.iconst 5, 1) := by decide +kernel
theorem dX10_besideOf_72 : decode cX10_besideOf 72 = .ok (.irem, 1) := by decide +kernel
theorem dX10_besideOf_73 : decode cX10_besideOf 73 = .ok (.ifCond .ne 7, 3) := by decide +kernel
theorem dX10_besideOf_76 : decode cX10_besideOf 76 = .ok (.iconst (-1), 1) := by decide +kernel
theorem dX10_besideOf_77 : decode cX10_besideOf 77 = .ok (.goto 6, 3) := by decide +kernel
theorem dX10_besideOf_80 : decode cX10_besideOf 80 = .ok (.iload_n 0, 1) := by decide +kernel
theorem dX10_besideOf_81 : decode cX10_besideOf 81 = .ok (.iconst 1, 1) := by decide +kernel
theorem dX10_besideOf_82 : decode cX10_besideOf 82 = .ok (.isub, 1) := by decide +kernel
theorem dX10_besideOf_83 : decode cX10_besideOf 83 = .ok (.ireturn, 1) := by decide +kernel
theorem dX10_draws_0 : decode cX10_draws 0 = .ok (.aload_n 0, 1) := by decide +kernel
theorem dX10_draws_1 : decode cX10_draws 1 = .ok (.aload_n 0, 1) := by decide +kernel
theorem dX10_draws_2 : decode cX10_draws 2 = .ok (.getfield 298, 3) := by decide +kernel
theorem dX10_draws_5 : decode cX10_draws 5 = .ok (.ldc_w 301, 3) := by decide +kernel
theorem dX10_draws_8 : decode cX10_draws 8 = .ok (.imul, 1) := by decide +kernel
theorem dX10_draws_9 : decode cX10_draws 9 = .ok (.sipush 12345, 3) := by decide +kernel
theorem dX10_draws_12 : decode cX10_draws 12 = .ok (.iadd, 1) := by decide +kernel
theorem dX10_draws_13 : decode cX10_draws 13 = .ok (.putfield 298, 3) := by decide +kernel
theorem dX10_draws_16 : decode cX10_draws 16 = .ok (.aload_n 0, 1) := by decide +kernel
theorem dX10_draws_17 : decode cX10_draws 17 = .ok (.getfield 298, 3) := by decide +kernel
theorem dX10_draws_20 : decode cX10_draws 20 = .ok (.bipush 8, 2) := by decide +kernel
theorem dX10_draws_22 : decode cX10_draws 22 = .ok (.iushr, 1) := by decide +kernel
theorem dX10_draws_23 : decode cX10_draws 23 = .ok (.bipush 12, 2) := by decide +kernel
theorem dX10_draws_25 : decode cX10_draws 25 = .ok (.irem, 1) := by decide +kernel
theorem dX10_draws_26 : decode cX10_draws 26 = .ok (.ireturn, 1) := by decide +kernel
theorem dX10_drops_0 : decode cX10_drops 0 = .ok (.aload_n 0, 1) := by decide +kernel
theorem dX10_drops_1 : decode cX10_drops 1 = .ok (.getfield 56, 3) := by decide +kernel
theorem dX10_drops_4 : decode cX10_drops 4 = .ok (.iload_n 1, 1) := by decide +kernel
theorem dX10_drops_5 : decode cX10_drops 5 = .ok (.iconst 0, 1) := by decide +kernel
theorem dX10_drops_6 : decode cX10_drops 6 = .ok (.bastore, 1) := by decide +kernel
theorem dX10_drops_7 : decode cX10_drops 7 = .ok (.aload_n 0, 1) := by decide +kernel
theorem dX10_drops_8 : decode cX10_drops 8 = .ok (.getfield 60, 3) := by decide +kernel
theorem dX10_drops_11 : decode cX10_drops 11 = .ok (.iload_n 1, 1) := by decide +kernel
theorem dX10_drops_12 : decode cX10_drops 12 = .ok (.iload_n 2, 1) := by decide +kernel
theorem dX10_drops_13 : decode cX10_drops 13 = .ok (.iastore, 1) := by decide +kernel
theorem dX10_drops_14 : decode cX10_drops 14 = .ok (.aload_n 0, 1) := by decide +kernel
theorem dX10_drops_15 : decode cX10_drops 15 = .ok (.getfield 63, 3) := by decide +kernel
theorem dX10_drops_18 : decode cX10_drops 18 = .ok (.iload_n 1, 1) := by decide +kernel
theorem dX10_drops_19 : decode cX10_drops 19 = .ok (.iload_n 3, 1) := by decide +kernel
theorem dX10_drops_20 : decode cX10_drops 20 = .ok (.iastore, 1) := by decide +kernel
theorem dX10_drops_21 : decode cX10_drops 21 = .ok (.return_, 1) := by decide +kernel
theorem dX10_field_0 : decode cX10_field 0 = .ok (.aload_n 0, 1) := by decide +kernel
theorem dX10_field_1 : decode cX10_field 1 = .ok (.iload_n 1, 1) := by decide +kernel
theorem dX10_field_2 : decode cX10_field 2 = .ok (.putfield 298, 3) := by decide +kernel
theorem dX10_field_5 : decode cX10_field 5 = .ok (.iconst 0, 1) := by decide +kernel
theorem dX10_field_6 : decode cX10_field 6 = .ok (.istore_n 3, 1) := by decide +kernel
theorem dX10_field_7 : decode cX10_field 7 = .ok (.iload_n 3, 1) := by decide +kernel
theorem dX10_field_8 : decode cX10_field 8 = .ok (.bipush 25, 2) := by decide +kernel
theorem dX10_field_10 : decode cX10_field 10 = .ok (.if_icmp .ge 32, 3) := by decide +kernel
theorem dX10_field_13 : decode cX10_field 13 = .ok (.aload_n 0, 1) := by decide +kernel
theorem dX10_field_14 : decode cX10_field 14 = .ok (.getfield 56, 3) := by decide +kernel
theorem dX10_field_17 : decode cX10_field 17 = .ok (.iload_n 3, 1) := by decide +kernel
theorem dX10_field_18 : decode cX10_field 18 = .ok (.iconst 1, 1) := by decide +kernel
theorem dX10_field_19 : decode cX10_field 19 = .ok (.bastore, 1) := by decide +kernel
theorem dX10_field_20 : decode cX10_field 20 = .ok (.aload_n 0, 1) := by decide +kernel
theorem dX10_field_21 : decode cX10_field 21 = .ok (.getfield 60, 3) := by decide +kernel
theorem dX10_field_24 : decode cX10_field 24 = .ok (.iload_n 3, 1) := by decide +kernel
theorem dX10_field_25 : decode cX10_field 25 = .ok (.bipush (-2), 2) := by decide +kernel
theorem dX10_field_27 : decode cX10_field 27 = .ok (.iastore, 1) := by decide +kernel
theorem dX10_field_28 : decode cX10_field 28 = .ok (.aload_n 0, 1) := by decide +kernel
theorem dX10_field_29 : decode cX10_field 29 = .ok (.getfield 63, 3) := by decide +kernel
theorem dX10_field_32 : decode cX10_field 32 = .ok (.iload_n 3, 1) := by decide +kernel
theorem dX10_field_33 : decode cX10_field 33 = .ok (.bipush 31, 2) := by decide +kernel
theorem dX10_field_35 : decode cX10_field 35 = .ok (.iastore, 1) := by decide +kernel
theorem dX10_field_36 : decode cX10_field 36 = .ok (.iinc 3 1, 3) := by decide +kernel
theorem dX10_field_39 : decode cX10_field 39 = .ok (.goto (-32), 3) := by decide +kernel
theorem dX10_field_42 : decode cX10_field 42 = .ok (.iconst 1, 1) := by decide +kernel
theorem dX10_field_43 : decode cX10_field 43 = .ok (.istore_n 3, 1) := by decide +kernel
theorem dX10_field_44 : decode cX10_field 44 = .ok (.iload_n 3, 1) := by decide +kernel
theorem dX10_field_45 : decode cX10_field 45 = .ok (.iload_n 2, 1) := by decide +kernel
theorem dX10_field_46 : decode cX10_field 46 = .ok (.if_icmp .gt 123, 3) := by decide +kernel
theorem dX10_field_49 : decode cX10_field 49 = .ok (.iconst 0, 1) := by decide +kernel
theorem dX10_field_50 : decode cX10_field 50 = .ok (.istore 4, 2) := by decide +kernel
theorem dX10_field_52 : decode cX10_field 52 = .ok (.iload 4, 2) := by decide +kernel
theorem dX10_field_54 : decode cX10_field 54 = .ok (.bipush 25, 2) := by decide +kernel
theorem dX10_field_56 : decode cX10_field 56 = .ok (.if_icmp .ge 107, 3) := by decide +kernel
theorem dX10_field_59 : decode cX10_field 59 = .ok (.aload_n 0, 1) := by decide +kernel
theorem dX10_field_60 : decode cX10_field 60 = .ok (.getfield 56, 3) := by decide +kernel
theorem dX10_field_63 : decode cX10_field 63 = .ok (.iload 4, 2) := by decide +kernel
theorem dX10_field_65 : decode cX10_field 65 = .ok (.baload, 1) := by decide +kernel
theorem dX10_field_66 : decode cX10_field 66 = .ok (.ifCond .eq 91, 3) := by decide +kernel
theorem dX10_field_69 : decode cX10_field 69 = .ok (.aload_n 0, 1) := by decide +kernel
theorem dX10_field_70 : decode cX10_field 70 = .ok (.invokevirtual 302, 3) := by decide +kernel
theorem dX10_field_73 : decode cX10_field 73 = .ok (.aload_n 0, 1) := by decide +kernel
theorem dX10_field_74 : decode cX10_field 74 = .ok (.getfield 50, 3) := by decide +kernel
theorem dX10_field_77 : decode cX10_field 77 = .ok (.iload 4, 2) := by decide +kernel
theorem dX10_field_79 : decode cX10_field 79 = .ok (.iaload, 1) := by decide +kernel
theorem dX10_field_80 : decode cX10_field 80 = .ok (.if_icmp .ge 6, 3) := by decide +kernel
theorem dX10_field_83 : decode cX10_field 83 = .ok (.goto 74, 3) := by decide +kernel
theorem dX10_field_86 : decode cX10_field 86 = .ok (.aload_n 0, 1) := by decide +kernel
theorem dX10_field_87 : decode cX10_field 87 = .ok (.iload 4, 2) := by decide +kernel
theorem dX10_field_89 : decode cX10_field 89 = .ok (.bipush (-2), 2) := by decide +kernel
theorem dX10_field_91 : decode cX10_field 91 = .ok (.iload_n 3, 1) := by decide +kernel
theorem dX10_field_92 : decode cX10_field 92 = .ok (.invokevirtual 305, 3) := by decide +kernel
theorem dX10_field_95 : decode cX10_field 95 = .ok (.iconst 0, 1) := by decide +kernel
theorem dX10_field_96 : decode cX10_field 96 = .ok (.istore 5, 2) := by decide +kernel
theorem dX10_field_98 : decode cX10_field 98 = .ok (.iload 5, 2) := by decide +kernel
theorem dX10_field_100 : decode cX10_field 100 = .ok (.iconst 4, 1) := by decide +kernel
theorem dX10_field_101 : decode cX10_field 101 = .ok (.if_icmp .ge 56, 3) := by decide +kernel
theorem dX10_field_104 : decode cX10_field 104 = .ok (.iload 4, 2) := by decide +kernel
theorem dX10_field_106 : decode cX10_field 106 = .ok (.iload 5, 2) := by decide +kernel
theorem dX10_field_108 : decode cX10_field 108 = .ok (.invokestatic 308, 3) := by decide +kernel
theorem dX10_field_111 : decode cX10_field 111 = .ok (.istore 6, 2) := by decide +kernel
theorem dX10_field_113 : decode cX10_field 113 = .ok (.iload 6, 2) := by decide +kernel
theorem dX10_field_115 : decode cX10_field 115 = .ok (.ifCond .lt 36, 3) := by decide +kernel
theorem dX10_field_118 : decode cX10_field 118 = .ok (.aload_n 0, 1) := by decide +kernel
theorem dX10_field_119 : decode cX10_field 119 = .ok (.getfield 56, 3) := by decide +kernel
theorem dX10_field_122 : decode cX10_field 122 = .ok (.iload 6, 2) := by decide +kernel
theorem dX10_field_124 : decode cX10_field 124 = .ok (.baload, 1) := by decide +kernel
theorem dX10_field_125 : decode cX10_field 125 = .ok (.ifCond .eq 26, 3) := by decide +kernel
theorem dX10_field_128 : decode cX10_field 128 = .ok (.aload_n 0, 1) := by decide +kernel
theorem dX10_field_129 : decode cX10_field 129 = .ok (.invokevirtual 302, 3) := by decide +kernel
theorem dX10_field_132 : decode cX10_field 132 = .ok (.aload_n 0, 1) := by decide +kernel
theorem dX10_field_133 : decode cX10_field 133 = .ok (.getfield 9, 3) := by decide +kernel
theorem dX10_field_136 : decode cX10_field 136 = .ok (.bipush 19, 2) := by decide +kernel
theorem dX10_field_138 : decode cX10_field 138 = .ok (.iaload, 1) := by decide +kernel
theorem dX10_field_139 : decode cX10_field 139 = .ok (.if_icmp .ge 12, 3) := by decide +kernel
theorem dX10_field_142 : decode cX10_field 142 = .ok (.aload_n 0, 1) := by decide +kernel
theorem dX10_field_143 : decode cX10_field 143 = .ok (.iload 6, 2) := by decide +kernel
theorem dX10_field_145 : decode cX10_field 145 = .ok (.iload 4, 2) := by decide +kernel
theorem dX10_field_147 : decode cX10_field 147 = .ok (.iload_n 3, 1) := by decide +kernel
theorem dX10_field_148 : decode cX10_field 148 = .ok (.invokevirtual 305, 3) := by decide +kernel
theorem dX10_field_151 : decode cX10_field 151 = .ok (.iinc 5 1, 3) := by decide +kernel
theorem dX10_field_154 : decode cX10_field 154 = .ok (.goto (-56), 3) := by decide +kernel
theorem dX10_field_157 : decode cX10_field 157 = .ok (.iinc 4 1, 3) := by decide +kernel
theorem dX10_field_160 : decode cX10_field 160 = .ok (.goto (-108), 3) := by decide +kernel
theorem dX10_field_163 : decode cX10_field 163 = .ok (.iinc 3 1, 3) := by decide +kernel
theorem dX10_field_166 : decode cX10_field 166 = .ok (.goto (-122), 3) := by decide +kernel
theorem dX10_field_169 : decode cX10_field 169 = .ok (.return_, 1) := by decide +kernel
theorem dX10_left_0 : decode cX10_left 0 = .ok (.iload_n 2, 1) := by decide +kernel
theorem dX10_left_1 : decode cX10_left 1 = .ok (.i2l, 1) := by decide +kernel
theorem dX10_left_2 : decode cX10_left 2 = .ok (.lconst 1, 1) := by decide +kernel
theorem dX10_left_3 : decode cX10_left 3 = .ok (.ldc2_w 311, 3) := by decide +kernel
theorem dX10_left_6 : decode cX10_left 6 = .ok (.invokestatic 101, 3) := by decide +kernel
theorem dX10_left_9 : decode cX10_left 9 = .ok (.ifCond .eq 15, 3) := by decide +kernel
theorem dX10_left_12 : decode cX10_left 12 = .ok (.iload_n 3, 1) := by decide +kernel
theorem dX10_left_13 : decode cX10_left 13 = .ok (.iconst (-1), 1) := by decide +kernel
theorem dX10_left_14 : decode cX10_left 14 = .ok (.if_icmp .eq 12, 3) := by decide +kernel
theorem dX10_left_17 : decode cX10_left 17 = .ok (.iload_n 3, 1) := by decide +kernel
theorem dX10_left_18 : decode cX10_left 18 = .ok (.invokestatic 293, 3) := by decide +kernel
theorem dX10_left_21 : decode cX10_left 21 = .ok (.ifCond .ne 5, 3) := by decide +kernel
theorem dX10_left_24 : decode cX10_left 24 = .ok (.iconst (-1), 1) := by decide +kernel
theorem dX10_left_25 : decode cX10_left 25 = .ok (.ireturn, 1) := by decide +kernel
theorem dX10_left_26 : decode cX10_left 26 = .ok (.aload_n 0, 1) := by decide +kernel
theorem dX10_left_27 : decode cX10_left 27 = .ok (.iload_n 1, 1) := by decide +kernel
theorem dX10_left_28 : decode cX10_left 28 = .ok (.iload_n 2, 1) := by decide +kernel
theorem dX10_left_29 : decode cX10_left 29 = .ok (.invokevirtual 313, 3) := by decide +kernel
theorem dX10_left_32 : decode cX10_left 32 = .ok (.iconst 0, 1) := by decide +kernel
theorem dX10_left_33 : decode cX10_left 33 = .ok (.istore 4, 2) := by decide +kernel
theorem dX10_left_35 : decode cX10_left 35 = .ok (.iconst 0, 1) := by decide +kernel
theorem dX10_left_36 : decode cX10_left 36 = .ok (.istore 5, 2) := by decide +kernel
theorem dX10_left_38 : decode cX10_left 38 = .ok (.iload 5, 2) := by decide +kernel
theorem dX10_left_40 : decode cX10_left 40 = .ok (.bipush 25, 2) := by decide +kernel
theorem dX10_left_42 : decode cX10_left 42 = .ok (.if_icmp .ge 29, 3) := by decide +kernel
theorem dX10_left_45 : decode cX10_left 45 = .ok (.iload 4, 2) := by decide +kernel
theorem dX10_left_47 : decode cX10_left 47 = .ok (.aload_n 0, 1) := by decide +kernel
theorem dX10_left_48 : decode cX10_left 48 = .ok (.getfield 56, 3) := by decide +kernel
theorem dX10_left_51 : decode cX10_left 51 = .ok (.iload 5, 2) := by decide +kernel
theorem dX10_left_53 : decode cX10_left 53 = .ok (.baload, 1) := by decide +kernel
theorem dX10_left_54 : decode cX10_left 54 = .ok (.ifCond .eq 7, 3) := by decide +kernel
theorem dX10_left_57 : decode cX10_left 57 = .ok (.iconst 1, 1) := by decide +kernel
theorem dX10_left_58 : decode cX10_left 58 = .ok (.goto 4, 3) := by decide +kernel
theorem dX10_left_61 : decode cX10_left 61 = .ok (.iconst 0, 1) := by decide +kernel
theorem dX10_left_62 : decode cX10_left 62 = .ok (.iadd, 1) := by decide +kernel
theorem dX10_left_63 : decode cX10_left 63 = .ok (.istore 4, 2) := by decide +kernel
theorem dX10_left_65 : decode cX10_left 65 = .ok (.iinc 5 1, 3) := by decide +kernel
theorem dX10_left_68 : decode cX10_left 68 = .ok (.goto (-30), 3) := by decide +kernel
theorem dX10_left_71 : decode cX10_left 71 = .ok (.iload_n 3, 1) := by decide +kernel
theorem dX10_left_72 : decode cX10_left 72 = .ok (.ifCond .ge 8, 3) := by decide +kernel
theorem dX10_left_75 : decode cX10_left 75 = .ok (.iload 4, 2) := by decide +kernel
theorem dX10_left_77 : decode cX10_left 77 = .ok (.goto 17, 3) := by decide +kernel
theorem dX10_left_80 : decode cX10_left 80 = .ok (.aload_n 0, 1) := by decide +kernel
theorem dX10_left_81 : decode cX10_left 81 = .ok (.getfield 56, 3) := by decide +kernel
theorem dX10_left_84 : decode cX10_left 84 = .ok (.iload_n 3, 1) := by decide +kernel
theorem dX10_left_85 : decode cX10_left 85 = .ok (.baload, 1) := by decide +kernel
theorem dX10_left_86 : decode cX10_left 86 = .ok (.ifCond .eq 7, 3) := by decide +kernel
theorem dX10_left_89 : decode cX10_left 89 = .ok (.iconst 1, 1) := by decide +kernel
theorem dX10_left_90 : decode cX10_left 90 = .ok (.goto 4, 3) := by decide +kernel
theorem dX10_left_93 : decode cX10_left 93 = .ok (.iconst 0, 1) := by decide +kernel
theorem dX10_left_94 : decode cX10_left 94 = .ok (.ireturn, 1) := by decide +kernel
theorem dX10_knocked_0 : decode cX10_knocked 0 = .ok (.iload_n 2, 1) := by decide +kernel
theorem dX10_knocked_1 : decode cX10_knocked 1 = .ok (.i2l, 1) := by decide +kernel
theorem dX10_knocked_2 : decode cX10_knocked 2 = .ok (.lconst 1, 1) := by decide +kernel
theorem dX10_knocked_3 : decode cX10_knocked 3 = .ok (.ldc2_w 311, 3) := by decide +kernel
theorem dX10_knocked_6 : decode cX10_knocked 6 = .ok (.invokestatic 101, 3) := by decide +kernel
theorem dX10_knocked_9 : decode cX10_knocked 9 = .ok (.ifCond .eq 10, 3) := by decide +kernel
theorem dX10_knocked_12 : decode cX10_knocked 12 = .ok (.iload_n 3, 1) := by decide +kernel
theorem dX10_knocked_13 : decode cX10_knocked 13 = .ok (.invokestatic 293, 3) := by decide +kernel
theorem dX10_knocked_16 : decode cX10_knocked 16 = .ok (.ifCond .ne 5, 3) := by decide +kernel
theorem dX10_knocked_19 : decode cX10_knocked 19 = .ok (.iconst (-1), 1) := by decide +kernel
theorem dX10_knocked_20 : decode cX10_knocked 20 = .ok (.ireturn, 1) := by decide +kernel
theorem dX10_knocked_21 : decode cX10_knocked 21 = .ok (.aload_n 0, 1) := by decide +kernel
theorem dX10_knocked_22 : decode cX10_knocked 22 = .ok (.iload_n 1, 1) := by decide +kernel
theorem dX10_knocked_23 : decode cX10_knocked 23 = .ok (.iload_n 2, 1) := by decide +kernel
theorem dX10_knocked_24 : decode cX10_knocked 24 = .ok (.invokevirtual 313, 3) := by decide +kernel
theorem dX10_knocked_27 : decode cX10_knocked 27 = .ok (.aload_n 0, 1) := by decide +kernel
theorem dX10_knocked_28 : decode cX10_knocked 28 = .ok (.getfield 60, 3) := by decide +kernel
theorem dX10_knocked_31 : decode cX10_knocked 31 = .ok (.iload_n 3, 1) := by decide +kernel
theorem dX10_knocked_32 : decode cX10_knocked 32 = .ok (.iaload, 1) := by decide +kernel
theorem dX10_knocked_33 : decode cX10_knocked 33 = .ok (.ireturn, 1) := by decide +kernel
theorem dX10_last_0 : decode cX10_last 0 = .ok (.iload_n 2, 1) := by decide +kernel
theorem dX10_last_1 : decode cX10_last 1 = .ok (.i2l, 1) := by decide +kernel
theorem dX10_last_2 : decode cX10_last 2 = .ok (.lconst 0, 1) := by decide +kernel
theorem dX10_last_3 : decode cX10_last 3 = .ok (.lconst 1, 1) := by decide +kernel
theorem dX10_last_4 : decode cX10_last 4 = .ok (.invokestatic 101, 3) := by decide +kernel
theorem dX10_last_7 : decode cX10_last 7 = .ok (.ifCond .ne 5, 3) := by decide +kernel
theorem dX10_last_10 : decode cX10_last 10 = .ok (.iconst (-1), 1) := by decide +kernel
theorem dX10_last_11 : decode cX10_last 11 = .ok (.ireturn, 1) := by decide +kernel
theorem dX10_last_12 : decode cX10_last 12 = .ok (.aload_n 0, 1) := by decide +kernel
theorem dX10_last_13 : decode cX10_last 13 = .ok (.iload_n 1, 1) := by decide +kernel
theorem dX10_last_14 : decode cX10_last 14 = .ok (.bipush 30, 2) := by decide +kernel
theorem dX10_last_16 : decode cX10_last 16 = .ok (.invokevirtual 313, 3) := by decide +kernel
theorem dX10_last_19 : decode cX10_last 19 = .ok (.iconst 0, 1) := by decide +kernel
theorem dX10_last_20 : decode cX10_last 20 = .ok (.istore_n 3, 1) := by decide +kernel
theorem dX10_last_21 : decode cX10_last 21 = .ok (.iconst 1, 1) := by decide +kernel
theorem dX10_last_22 : decode cX10_last 22 = .ok (.istore 4, 2) := by decide +kernel
theorem dX10_last_24 : decode cX10_last 24 = .ok (.iload 4, 2) := by decide +kernel
theorem dX10_last_26 : decode cX10_last 26 = .ok (.bipush 25, 2) := by decide +kernel
theorem dX10_last_28 : decode cX10_last 28 = .ok (.if_icmp .ge 32, 3) := by decide +kernel
theorem dX10_last_31 : decode cX10_last 31 = .ok (.aload_n 0, 1) := by decide +kernel
theorem dX10_last_32 : decode cX10_last 32 = .ok (.getfield 63, 3) := by decide +kernel
theorem dX10_last_35 : decode cX10_last 35 = .ok (.iload 4, 2) := by decide +kernel
theorem dX10_last_37 : decode cX10_last 37 = .ok (.iaload, 1) := by decide +kernel
theorem dX10_last_38 : decode cX10_last 38 = .ok (.aload_n 0, 1) := by decide +kernel
theorem dX10_last_39 : decode cX10_last 39 = .ok (.getfield 63, 3) := by decide +kernel
theorem dX10_last_42 : decode cX10_last 42 = .ok (.iload_n 3, 1) := by decide +kernel
theorem dX10_last_43 : decode cX10_last 43 = .ok (.iaload, 1) := by decide +kernel
theorem dX10_last_44 : decode cX10_last 44 = .ok (.if_icmp .le 8, 3) := by decide +kernel
theorem dX10_last_47 : decode cX10_last 47 = .ok (.iload 4, 2) := by decide +kernel
theorem dX10_last_49 : decode cX10_last 49 = .ok (.goto 4, 3) := by decide +kernel
theorem dX10_last_52 : decode cX10_last 52 = .ok (.iload_n 3, 1) := by decide +kernel
theorem dX10_last_53 : decode cX10_last 53 = .ok (.istore_n 3, 1) := by decide +kernel
theorem dX10_last_54 : decode cX10_last 54 = .ok (.iinc 4 1, 3) := by decide +kernel
theorem dX10_last_57 : decode cX10_last 57 = .ok (.goto (-33), 3) := by decide +kernel
theorem dX10_last_60 : decode cX10_last 60 = .ok (.iload_n 2, 1) := by decide +kernel
theorem dX10_last_61 : decode cX10_last 61 = .ok (.ifCond .ne 7, 3) := by decide +kernel
theorem dX10_last_64 : decode cX10_last 64 = .ok (.iload_n 3, 1) := by decide +kernel
theorem dX10_last_65 : decode cX10_last 65 = .ok (.goto 9, 3) := by decide +kernel
theorem dX10_last_68 : decode cX10_last 68 = .ok (.aload_n 0, 1) := by decide +kernel
theorem dX10_last_69 : decode cX10_last 69 = .ok (.getfield 63, 3) := by decide +kernel
theorem dX10_last_72 : decode cX10_last 72 = .ok (.iload_n 3, 1) := by decide +kernel
theorem dX10_last_73 : decode cX10_last 73 = .ok (.iaload, 1) := by decide +kernel
theorem dX10_last_74 : decode cX10_last 74 = .ok (.ireturn, 1) := by decide +kernel
theorem dX10_alone_0 : decode cX10_alone 0 = .ok (.iload_n 1, 1) := by decide +kernel
theorem dX10_alone_1 : decode cX10_alone 1 = .ok (.invokestatic 293, 3) := by decide +kernel
theorem dX10_alone_4 : decode cX10_alone 4 = .ok (.ifCond .eq 25, 3) := by decide +kernel
theorem dX10_alone_7 : decode cX10_alone 7 = .ok (.iload_n 2, 1) := by decide +kernel
theorem dX10_alone_8 : decode cX10_alone 8 = .ok (.i2l, 1) := by decide +kernel
theorem dX10_alone_9 : decode cX10_alone 9 = .ok (.lconst 0, 1) := by decide +kernel
theorem dX10_alone_10 : decode cX10_alone 10 = .ok (.ldc2_w 316, 3) := by decide +kernel
theorem dX10_alone_13 : decode cX10_alone 13 = .ok (.invokestatic 101, 3) := by decide +kernel
theorem dX10_alone_16 : decode cX10_alone 16 = .ok (.ifCond .eq 13, 3) := by decide +kernel
theorem dX10_alone_19 : decode cX10_alone 19 = .ok (.iload_n 3, 1) := by decide +kernel
theorem dX10_alone_20 : decode cX10_alone 20 = .ok (.i2l, 1) := by decide +kernel
theorem dX10_alone_21 : decode cX10_alone 21 = .ok (.lconst 0, 1) := by decide +kernel
theorem dX10_alone_22 : decode cX10_alone 22 = .ok (.lconst 1, 1) := by decide +kernel
theorem dX10_alone_23 : decode cX10_alone 23 = .ok (.invokestatic 101, 3) := by decide +kernel
theorem dX10_alone_26 : decode cX10_alone 26 = .ok (.ifCond .ne 7, 3) := by decide +kernel
theorem dX10_alone_29 : decode cX10_alone 29 = .ok (.ldc2_w 320, 3) := by decide +kernel
theorem dX10_alone_32 : decode cX10_alone 32 = .ok (.lreturn, 1) := by decide +kernel
theorem dX10_alone_33 : decode cX10_alone 33 = .ok (.lconst 1, 1) := by decide +kernel
theorem dX10_alone_34 : decode cX10_alone 34 = .ok (.lstore 4, 2) := by decide +kernel
theorem dX10_alone_36 : decode cX10_alone 36 = .ok (.lconst 1, 1) := by decide +kernel
theorem dX10_alone_37 : decode cX10_alone 37 = .ok (.lstore 6, 2) := by decide +kernel
theorem dX10_alone_39 : decode cX10_alone 39 = .ok (.iconst 0, 1) := by decide +kernel
theorem dX10_alone_40 : decode cX10_alone 40 = .ok (.istore 8, 2) := by decide +kernel
theorem dX10_alone_42 : decode cX10_alone 42 = .ok (.iload 8, 2) := by decide +kernel
theorem dX10_alone_44 : decode cX10_alone 44 = .ok (.iload_n 2, 1) := by decide +kernel
theorem dX10_alone_45 : decode cX10_alone 45 = .ok (.if_icmp .ge 29, 3) := by decide +kernel
theorem dX10_alone_48 : decode cX10_alone 48 = .ok (.lload 4, 2) := by decide +kernel
theorem dX10_alone_50 : decode cX10_alone 50 = .ok (.aload_n 0, 1) := by decide +kernel
theorem dX10_alone_51 : decode cX10_alone 51 = .ok (.getfield 50, 3) := by decide +kernel
theorem dX10_alone_54 : decode cX10_alone 54 = .ok (.iload_n 1, 1) := by decide +kernel
theorem dX10_alone_55 : decode cX10_alone 55 = .ok (.iaload, 1) := by decide +kernel
theorem dX10_alone_56 : decode cX10_alone 56 = .ok (.i2l, 1) := by decide +kernel
theorem dX10_alone_57 : decode cX10_alone 57 = .ok (.lmul, 1) := by decide +kernel
theorem dX10_alone_58 : decode cX10_alone 58 = .ok (.lstore 4, 2) := by decide +kernel
theorem dX10_alone_60 : decode cX10_alone 60 = .ok (.lload 6, 2) := by decide +kernel
theorem dX10_alone_62 : decode cX10_alone 62 = .ok (.ldc2_w 296, 3) := by decide +kernel
theorem dX10_alone_65 : decode cX10_alone 65 = .ok (.lmul, 1) := by decide +kernel
theorem dX10_alone_66 : decode cX10_alone 66 = .ok (.lstore 6, 2) := by decide +kernel
theorem dX10_alone_68 : decode cX10_alone 68 = .ok (.iinc 8 1, 3) := by decide +kernel
theorem dX10_alone_71 : decode cX10_alone 71 = .ok (.goto (-29), 3) := by decide +kernel
theorem dX10_alone_74 : decode cX10_alone 74 = .ok (.lload 4, 2) := by decide +kernel
theorem dX10_alone_76 : decode cX10_alone 76 = .ok (.lconst 0, 1) := by decide +kernel
theorem dX10_alone_77 : decode cX10_alone 77 = .ok (.lcmp, 1) := by decide +kernel
theorem dX10_alone_78 : decode cX10_alone 78 = .ok (.ifCond .ne 6, 3) := by decide +kernel
theorem dX10_alone_81 : decode cX10_alone 81 = .ok (.iload_n 3, 1) := by decide +kernel
theorem dX10_alone_82 : decode cX10_alone 82 = .ok (.i2l, 1) := by decide +kernel
theorem dX10_alone_83 : decode cX10_alone 83 = .ok (.lreturn, 1) := by decide +kernel
theorem dX10_alone_84 : decode cX10_alone 84 = .ok (.lload 6, 2) := by decide +kernel
theorem dX10_alone_86 : decode cX10_alone 86 = .ok (.lstore 8, 2) := by decide +kernel
theorem dX10_alone_88 : decode cX10_alone 88 = .ok (.lload 4, 2) := by decide +kernel
theorem dX10_alone_90 : decode cX10_alone 90 = .ok (.lstore 10, 2) := by decide +kernel
theorem dX10_alone_92 : decode cX10_alone 92 = .ok (.lload 10, 2) := by decide +kernel
theorem dX10_alone_94 : decode cX10_alone 94 = .ok (.lconst 0, 1) := by decide +kernel
theorem dX10_alone_95 : decode cX10_alone 95 = .ok (.lcmp, 1) := by decide +kernel
theorem dX10_alone_96 : decode cX10_alone 96 = .ok (.ifCond .eq 21, 3) := by decide +kernel
theorem dX10_alone_99 : decode cX10_alone 99 = .ok (.lload 8, 2) := by decide +kernel
theorem dX10_alone_101 : decode cX10_alone 101 = .ok (.lload 10, 2) := by decide +kernel
theorem dX10_alone_103 : decode cX10_alone 103 = .ok (.lrem, 1) := by decide +kernel
theorem dX10_alone_104 : decode cX10_alone 104 = .ok (.lstore 12, 2) := by decide +kernel
theorem dX10_alone_106 : decode cX10_alone 106 = .ok (.lload 10, 2) := by decide +kernel
theorem dX10_alone_108 : decode cX10_alone 108 = .ok (.lstore 8, 2) := by decide +kernel
theorem dX10_alone_110 : decode cX10_alone 110 = .ok (.lload 12, 2) := by decide +kernel
theorem dX10_alone_112 : decode cX10_alone 112 = .ok (.lstore 10, 2) := by decide +kernel
theorem dX10_alone_114 : decode cX10_alone 114 = .ok (.goto (-22), 3) := by decide +kernel
theorem dX10_alone_117 : decode cX10_alone 117 = .ok (.iload_n 3, 1) := by decide +kernel
theorem dX10_alone_118 : decode cX10_alone 118 = .ok (.ifCond .ne 11, 3) := by decide +kernel
theorem dX10_alone_121 : decode cX10_alone 121 = .ok (.lload 4, 2) := by decide +kernel
theorem dX10_alone_123 : decode cX10_alone 123 = .ok (.lload 8, 2) := by decide +kernel
theorem dX10_alone_125 : decode cX10_alone 125 = .ok (.ldiv, 1) := by decide +kernel
theorem dX10_alone_126 : decode cX10_alone 126 = .ok (.goto 8, 3) := by decide +kernel
theorem dX10_alone_129 : decode cX10_alone 129 = .ok (.lload 6, 2) := by decide +kernel
theorem dX10_alone_131 : decode cX10_alone 131 = .ok (.lload 8, 2) := by decide +kernel
theorem dX10_alone_133 : decode cX10_alone 133 = .ok (.ldiv, 1) := by decide +kernel
theorem dX10_alone_134 : decode cX10_alone 134 = .ok (.lreturn, 1) := by decide +kernel
theorem dX10_needsOf_0 : decode cX10_needsOf 0 = .ok (.iload_n 0, 1) := by decide +kernel
theorem dX10_needsOf_1 : decode cX10_needsOf 1 = .ok (.iconst 1, 1) := by decide +kernel
theorem dX10_needsOf_2 : decode cX10_needsOf 2 = .ok (.if_icmp .ge 7, 3) := by decide +kernel
theorem dX10_needsOf_5 : decode cX10_needsOf 5 = .ok (.iconst 1, 1) := by decide +kernel
theorem dX10_needsOf_6 : decode cX10_needsOf 6 = .ok (.goto 4, 3) := by decide +kernel
theorem dX10_needsOf_9 : decode cX10_needsOf 9 = .ok (.iload_n 0, 1) := by decide +kernel
theorem dX10_needsOf_10 : decode cX10_needsOf 10 = .ok (.ireturn, 1) := by decide +kernel
theorem dX10_learn_0 : decode cX10_learn 0 = .ok (.iload_n 1, 1) := by decide +kernel
theorem dX10_learn_1 : decode cX10_learn 1 = .ok (.invokestatic 293, 3) := by decide +kernel
theorem dX10_learn_4 : decode cX10_learn 4 = .ok (.ifCond .eq 15, 3) := by decide +kernel
theorem dX10_learn_7 : decode cX10_learn 7 = .ok (.iload_n 2, 1) := by decide +kernel
theorem dX10_learn_8 : decode cX10_learn 8 = .ok (.i2l, 1) := by decide +kernel
theorem dX10_learn_9 : decode cX10_learn 9 = .ok (.lconst 1, 1) := by decide +kernel
theorem dX10_learn_10 : decode cX10_learn 10 = .ok (.ldc2_w 322, 3) := by decide +kernel
theorem dX10_learn_13 : decode cX10_learn 13 = .ok (.invokestatic 101, 3) := by decide +kernel
theorem dX10_learn_16 : decode cX10_learn 16 = .ok (.ifCond .ne 5, 3) := by decide +kernel
theorem dX10_learn_19 : decode cX10_learn 19 = .ok (.iconst (-1), 1) := by decide +kernel
theorem dX10_learn_20 : decode cX10_learn 20 = .ok (.ireturn, 1) := by decide +kernel
theorem dX10_learn_21 : decode cX10_learn 21 = .ok (.iconst 0, 1) := by decide +kernel
theorem dX10_learn_22 : decode cX10_learn 22 = .ok (.istore_n 3, 1) := by decide +kernel
theorem dX10_learn_23 : decode cX10_learn 23 = .ok (.iload_n 3, 1) := by decide +kernel
theorem dX10_learn_24 : decode cX10_learn 24 = .ok (.iload_n 2, 1) := by decide +kernel
theorem dX10_learn_25 : decode cX10_learn 25 = .ok (.if_icmp .ge 65, 3) := by decide +kernel
theorem dX10_learn_28 : decode cX10_learn 28 = .ok (.aload_n 0, 1) := by decide +kernel
theorem dX10_learn_29 : decode cX10_learn 29 = .ok (.getfield 50, 3) := by decide +kernel
theorem dX10_learn_32 : decode cX10_learn 32 = .ok (.iload_n 1, 1) := by decide +kernel
theorem dX10_learn_33 : decode cX10_learn 33 = .ok (.iaload, 1) := by decide +kernel
theorem dX10_learn_34 : decode cX10_learn 34 = .ok (.bipush 12, 2) := by decide +kernel
theorem dX10_learn_36 : decode cX10_learn 36 = .ok (.if_icmp .ge 54, 3) := by decide +kernel
theorem dX10_learn_39 : decode cX10_learn 39 = .ok (.aload_n 0, 1) := by decide +kernel
theorem dX10_learn_40 : decode cX10_learn 40 = .ok (.getfield 53, 3) := by decide +kernel
theorem dX10_learn_43 : decode cX10_learn 43 = .ok (.iload_n 1, 1) := by decide +kernel
theorem dX10_learn_44 : decode cX10_learn 44 = .ok (.dup2, 1) := by decide +kernel
theorem dX10_learn_45 : decode cX10_learn 45 = .ok (.iaload, 1) := by decide +kernel
theorem dX10_learn_46 : decode cX10_learn 46 = .ok (.iconst 1, 1) := by decide +kernel
theorem dX10_learn_47 : decode cX10_learn 47 = .ok (.iadd, 1) := by decide +kernel
theorem dX10_learn_48 : decode cX10_learn 48 = .ok (.iastore, 1) := by decide +kernel
theorem dX10_learn_49 : decode cX10_learn 49 = .ok (.aload_n 0, 1) := by decide +kernel
theorem dX10_learn_50 : decode cX10_learn 50 = .ok (.getfield 53, 3) := by decide +kernel
theorem dX10_learn_53 : decode cX10_learn 53 = .ok (.iload_n 1, 1) := by decide +kernel
theorem dX10_learn_54 : decode cX10_learn 54 = .ok (.iaload, 1) := by decide +kernel
theorem dX10_learn_55 : decode cX10_learn 55 = .ok (.aload_n 0, 1) := by decide +kernel
theorem dX10_learn_56 : decode cX10_learn 56 = .ok (.getfield 50, 3) := by decide +kernel
theorem dX10_learn_59 : decode cX10_learn 59 = .ok (.iload_n 1, 1) := by decide +kernel
theorem dX10_learn_60 : decode cX10_learn 60 = .ok (.iaload, 1) := by decide +kernel
theorem dX10_learn_61 : decode cX10_learn 61 = .ok (.invokestatic 324, 3) := by decide +kernel
theorem dX10_learn_64 : decode cX10_learn 64 = .ok (.if_icmp .ne 20, 3) := by decide +kernel
theorem dX10_learn_67 : decode cX10_learn 67 = .ok (.aload_n 0, 1) := by decide +kernel
theorem dX10_learn_68 : decode cX10_learn 68 = .ok (.getfield 50, 3) := by decide +kernel
theorem dX10_learn_71 : decode cX10_learn 71 = .ok (.iload_n 1, 1) := by decide +kernel
theorem dX10_learn_72 : decode cX10_learn 72 = .ok (.dup2, 1) := by decide +kernel
theorem dX10_learn_73 : decode cX10_learn 73 = .ok (.iaload, 1) := by decide +kernel
theorem dX10_learn_74 : decode cX10_learn 74 = .ok (.iconst 1, 1) := by decide +kernel
theorem dX10_learn_75 : decode cX10_learn 75 = .ok (.iadd, 1) := by decide +kernel
theorem dX10_learn_76 : decode cX10_learn 76 = .ok (.iastore, 1) := by decide +kernel
theorem dX10_learn_77 : decode cX10_learn 77 = .ok (.aload_n 0, 1) := by decide +kernel
theorem dX10_learn_78 : decode cX10_learn 78 = .ok (.getfield 53, 3) := by decide +kernel
theorem dX10_learn_81 : decode cX10_learn 81 = .ok (.iload_n 1, 1) := by decide +kernel
theorem dX10_learn_82 : decode cX10_learn 82 = .ok (.iconst 0, 1) := by decide +kernel
theorem dX10_learn_83 : decode cX10_learn 83 = .ok (.iastore, 1) := by decide +kernel
theorem dX10_learn_84 : decode cX10_learn 84 = .ok (.iinc 3 1, 3) := by decide +kernel
theorem dX10_learn_87 : decode cX10_learn 87 = .ok (.goto (-64), 3) := by decide +kernel
theorem dX10_learn_90 : decode cX10_learn 90 = .ok (.aload_n 0, 1) := by decide +kernel
theorem dX10_learn_91 : decode cX10_learn 91 = .ok (.getfield 50, 3) := by decide +kernel
theorem dX10_learn_94 : decode cX10_learn 94 = .ok (.iload_n 1, 1) := by decide +kernel
theorem dX10_learn_95 : decode cX10_learn 95 = .ok (.iaload, 1) := by decide +kernel
theorem dX10_learn_96 : decode cX10_learn 96 = .ok (.ireturn, 1) := by decide +kernel
theorem dX10_till_0 : decode cX10_till 0 = .ok (.iload_n 1, 1) := by decide +kernel
theorem dX10_till_1 : decode cX10_till 1 = .ok (.invokestatic 293, 3) := by decide +kernel
theorem dX10_till_4 : decode cX10_till 4 = .ok (.ifCond .eq 15, 3) := by decide +kernel
theorem dX10_till_7 : decode cX10_till 7 = .ok (.iload_n 2, 1) := by decide +kernel
theorem dX10_till_8 : decode cX10_till 8 = .ok (.i2l, 1) := by decide +kernel
theorem dX10_till_9 : decode cX10_till 9 = .ok (.lconst 0, 1) := by decide +kernel
theorem dX10_till_10 : decode cX10_till 10 = .ok (.ldc2_w 296, 3) := by decide +kernel
theorem dX10_till_13 : decode cX10_till 13 = .ok (.invokestatic 101, 3) := by decide +kernel
theorem dX10_till_16 : decode cX10_till 16 = .ok (.ifCond .ne 5, 3) := by decide +kernel
theorem dX10_till_19 : decode cX10_till 19 = .ok (.iconst (-1), 1) := by decide +kernel
theorem dX10_till_20 : decode cX10_till 20 = .ok (.ireturn, 1) := by decide +kernel
theorem dX10_till_21 : decode cX10_till 21 = .ok (.aload_n 0, 1) := by decide +kernel
theorem dX10_till_22 : decode cX10_till 22 = .ok (.getfield 50, 3) := by decide +kernel
theorem dX10_till_25 : decode cX10_till 25 = .ok (.iload_n 1, 1) := by decide +kernel
theorem dX10_till_26 : decode cX10_till 26 = .ok (.iaload, 1) := by decide +kernel
theorem dX10_till_27 : decode cX10_till 27 = .ok (.iload_n 2, 1) := by decide +kernel
theorem dX10_till_28 : decode cX10_till 28 = .ok (.if_icmp .ge 13, 3) := by decide +kernel
theorem dX10_till_31 : decode cX10_till 31 = .ok (.aload_n 0, 1) := by decide +kernel
theorem dX10_till_32 : decode cX10_till 32 = .ok (.getfield 53, 3) := by decide +kernel
theorem dX10_till_35 : decode cX10_till 35 = .ok (.iload_n 1, 1) := by decide +kernel
theorem dX10_till_36 : decode cX10_till 36 = .ok (.iaload, 1) := by decide +kernel
theorem dX10_till_37 : decode cX10_till 37 = .ok (.ineg, 1) := by decide +kernel
theorem dX10_till_38 : decode cX10_till 38 = .ok (.goto 4, 3) := by decide +kernel
theorem dX10_till_41 : decode cX10_till 41 = .ok (.iconst 0, 1) := by decide +kernel
theorem dX10_till_42 : decode cX10_till 42 = .ok (.istore_n 3, 1) := by decide +kernel
theorem dX10_till_43 : decode cX10_till 43 = .ok (.aload_n 0, 1) := by decide +kernel
theorem dX10_till_44 : decode cX10_till 44 = .ok (.getfield 50, 3) := by decide +kernel
theorem dX10_till_47 : decode cX10_till 47 = .ok (.iload_n 1, 1) := by decide +kernel
theorem dX10_till_48 : decode cX10_till 48 = .ok (.iaload, 1) := by decide +kernel
theorem dX10_till_49 : decode cX10_till 49 = .ok (.istore 4, 2) := by decide +kernel
theorem dX10_till_51 : decode cX10_till 51 = .ok (.iload 4, 2) := by decide +kernel
theorem dX10_till_53 : decode cX10_till 53 = .ok (.iload_n 2, 1) := by decide +kernel
theorem dX10_till_54 : decode cX10_till 54 = .ok (.if_icmp .ge 17, 3) := by decide +kernel
theorem dX10_till_57 : decode cX10_till 57 = .ok (.iload_n 3, 1) := by decide +kernel
theorem dX10_till_58 : decode cX10_till 58 = .ok (.iload 4, 2) := by decide +kernel
theorem dX10_till_60 : decode cX10_till 60 = .ok (.invokestatic 324, 3) := by decide +kernel
theorem dX10_till_63 : decode cX10_till 63 = .ok (.iadd, 1) := by decide +kernel
theorem dX10_till_64 : decode cX10_till 64 = .ok (.istore_n 3, 1) := by decide +kernel
theorem dX10_till_65 : decode cX10_till 65 = .ok (.iinc 4 1, 3) := by decide +kernel
theorem dX10_till_68 : decode cX10_till 68 = .ok (.goto (-17), 3) := by decide +kernel
theorem dX10_till_71 : decode cX10_till 71 = .ok (.iload_n 3, 1) := by decide +kernel
theorem dX10_till_72 : decode cX10_till 72 = .ok (.ireturn, 1) := by decide +kernel
theorem dX10_image_0 : decode cX10_image 0 = .ok (.aload_n 0, 1) := by decide +kernel
theorem dX10_image_1 : decode cX10_image 1 = .ok (.iconst 1, 1) := by decide +kernel
theorem dX10_image_2 : decode cX10_image 2 = .ok (.putfield 327, 3) := by decide +kernel
theorem dX10_image_5 : decode cX10_image 5 = .ok (.aload_n 0, 1) := by decide +kernel
theorem dX10_image_6 : decode cX10_image 6 = .ok (.aload_n 0, 1) := by decide +kernel
theorem dX10_image_7 : decode cX10_image 7 = .ok (.getfield 109, 3) := by decide +kernel
theorem dX10_image_10 : decode cX10_image 10 = .ok (.putfield 331, 3) := by decide +kernel
theorem dX10_image_13 : decode cX10_image 13 = .ok (.aload_n 0, 1) := by decide +kernel
theorem dX10_image_14 : decode cX10_image 14 = .ok (.getfield 66, 3) := by decide +kernel
theorem dX10_image_17 : decode cX10_image 17 = .ok (.iconst 0, 1) := by decide +kernel
theorem dX10_image_18 : decode cX10_image 18 = .ok (.aload_n 0, 1) := by decide +kernel
theorem dX10_image_19 : decode cX10_image 19 = .ok (.getfield 151, 3) := by decide +kernel
theorem dX10_image_22 : decode cX10_image 22 = .ok (.iastore, 1) := by decide +kernel
theorem dX10_image_23 : decode cX10_image 23 = .ok (.aload_n 0, 1) := by decide +kernel
theorem dX10_image_24 : decode cX10_image 24 = .ok (.getfield 66, 3) := by decide +kernel
theorem dX10_image_27 : decode cX10_image 27 = .ok (.iconst 1, 1) := by decide +kernel
theorem dX10_image_28 : decode cX10_image 28 = .ok (.aload_n 0, 1) := by decide +kernel
theorem dX10_image_29 : decode cX10_image 29 = .ok (.getfield 258, 3) := by decide +kernel
theorem dX10_image_32 : decode cX10_image 32 = .ok (.iastore, 1) := by decide +kernel
theorem dX10_image_33 : decode cX10_image 33 = .ok (.aload_n 0, 1) := by decide +kernel
theorem dX10_image_34 : decode cX10_image 34 = .ok (.getfield 66, 3) := by decide +kernel
theorem dX10_image_37 : decode cX10_image 37 = .ok (.iconst 2, 1) := by decide +kernel
theorem dX10_image_38 : decode cX10_image 38 = .ok (.aload_n 0, 1) := by decide +kernel
theorem dX10_image_39 : decode cX10_image 39 = .ok (.getfield 46, 3) := by decide +kernel
theorem dX10_image_42 : decode cX10_image 42 = .ok (.iastore, 1) := by decide +kernel
theorem dX10_image_43 : decode cX10_image 43 = .ok (.iconst 0, 1) := by decide +kernel
theorem dX10_image_44 : decode cX10_image 44 = .ok (.istore_n 1, 1) := by decide +kernel
theorem dX10_image_45 : decode cX10_image 45 = .ok (.iload_n 1, 1) := by decide +kernel
theorem dX10_image_46 : decode cX10_image 46 = .ok (.aload_n 0, 1) := by decide +kernel
theorem dX10_image_47 : decode cX10_image 47 = .ok (.getfield 109, 3) := by decide +kernel
theorem dX10_image_50 : decode cX10_image 50 = .ok (.if_icmp .ge 60, 3) := by decide +kernel
theorem dX10_image_53 : decode cX10_image 53 = .ok (.aload_n 0, 1) := by decide +kernel
theorem dX10_image_54 : decode cX10_image 54 = .ok (.getfield 66, 3) := by decide +kernel
theorem dX10_image_57 : decode cX10_image 57 = .ok (.iconst 3, 1) := by decide +kernel
theorem dX10_image_58 : decode cX10_image 58 = .ok (.iconst 3, 1) := by decide +kernel
theorem dX10_image_59 : decode cX10_image 59 = .ok (.iload_n 1, 1) := by decide +kernel
theorem dX10_image_60 : decode cX10_image 60 = .ok (.imul, 1) := by decide +kernel
theorem dX10_image_61 : decode cX10_image 61 = .ok (.iadd, 1) := by decide +kernel
theorem dX10_image_62 : decode cX10_image 62 = .ok (.aload_n 0, 1) := by decide +kernel
theorem dX10_image_63 : decode cX10_image 63 = .ok (.getfield 22, 3) := by decide +kernel
theorem dX10_image_66 : decode cX10_image 66 = .ok (.iload_n 1, 1) := by decide +kernel
theorem dX10_image_67 : decode cX10_image 67 = .ok (.iaload, 1) := by decide +kernel
theorem dX10_image_68 : decode cX10_image 68 = .ok (.iastore, 1) := by decide +kernel
theorem dX10_image_69 : decode cX10_image 69 = .ok (.aload_n 0, 1) := by decide +kernel
theorem dX10_image_70 : decode cX10_image 70 = .ok (.getfield 66, 3) := by decide +kernel
theorem dX10_image_73 : decode cX10_image 73 = .ok (.iconst 4, 1) := by decide +kernel
theorem dX10_image_74 : decode cX10_image 74 = .ok (.iconst 3, 1) := by decide +kernel
theorem dX10_image_75 : decode cX10_image 75 = .ok (.iload_n 1, 1) := by decide +kernel
theorem dX10_image_76 : decode cX10_image 76 = .ok (.imul, 1) := by decide +kernel
theorem dX10_image_77 : decode cX10_image 77 = .ok (.iadd, 1) := by decide +kernel
theorem dX10_image_78 : decode cX10_image 78 = .ok (.aload_n 0, 1) := by decide +kernel
theorem dX10_image_79 : decode cX10_image 79 = .ok (.getfield 9, 3) := by decide +kernel
theorem dX10_image_82 : decode cX10_image 82 = .ok (.bipush 10, 2) := by decide +kernel
theorem dX10_image_84 : decode cX10_image 84 = .ok (.iload_n 1, 1) := by decide +kernel
theorem dX10_image_85 : decode cX10_image 85 = .ok (.iadd, 1) := by decide +kernel
theorem dX10_image_86 : decode cX10_image 86 = .ok (.iaload, 1) := by decide +kernel
theorem dX10_image_87 : decode cX10_image 87 = .ok (.iastore, 1) := by decide +kernel
theorem dX10_image_88 : decode cX10_image 88 = .ok (.aload_n 0, 1) := by decide +kernel
theorem dX10_image_89 : decode cX10_image 89 = .ok (.getfield 66, 3) := by decide +kernel
theorem dX10_image_92 : decode cX10_image 92 = .ok (.iconst 5, 1) := by decide +kernel
theorem dX10_image_93 : decode cX10_image 93 = .ok (.iconst 3, 1) := by decide +kernel
theorem dX10_image_94 : decode cX10_image 94 = .ok (.iload_n 1, 1) := by decide +kernel
theorem dX10_image_95 : decode cX10_image 95 = .ok (.imul, 1) := by decide +kernel
theorem dX10_image_96 : decode cX10_image 96 = .ok (.iadd, 1) := by decide +kernel
theorem dX10_image_97 : decode cX10_image 97 = .ok (.aload_n 0, 1) := by decide +kernel
theorem dX10_image_98 : decode cX10_image 98 = .ok (.getfield 25, 3) := by decide +kernel
theorem dX10_image_101 : decode cX10_image 101 = .ok (.iload_n 1, 1) := by decide +kernel
theorem dX10_image_102 : decode cX10_image 102 = .ok (.iaload, 1) := by decide +kernel
theorem dX10_image_103 : decode cX10_image 103 = .ok (.iastore, 1) := by decide +kernel
theorem dX10_image_104 : decode cX10_image 104 = .ok (.iinc 1 1, 3) := by decide +kernel
theorem dX10_image_107 : decode cX10_image 107 = .ok (.goto (-62), 3) := by decide +kernel
theorem dX10_image_110 : decode cX10_image 110 = .ok (.aload_n 0, 1) := by decide +kernel
theorem dX10_image_111 : decode cX10_image 111 = .ok (.getfield 151, 3) := by decide +kernel
theorem dX10_image_114 : decode cX10_image 114 = .ok (.ireturn, 1) := by decide +kernel
theorem dX10_back_0 : decode cX10_back 0 = .ok (.aload_n 0, 1) := by decide +kernel
theorem dX10_back_1 : decode cX10_back 1 = .ok (.getfield 327, 3) := by decide +kernel
theorem dX10_back_4 : decode cX10_back 4 = .ok (.ifCond .ne 6, 3) := by decide +kernel
theorem dX10_back_7 : decode cX10_back 7 = .ok (.bipush (-5), 2) := by decide +kernel
theorem dX10_back_9 : decode cX10_back 9 = .ok (.ireturn, 1) := by decide +kernel
theorem dX10_back_10 : decode cX10_back 10 = .ok (.aload_n 0, 1) := by decide +kernel
theorem dX10_back_11 : decode cX10_back 11 = .ok (.aload_n 0, 1) := by decide +kernel
theorem dX10_back_12 : decode cX10_back 12 = .ok (.getfield 66, 3) := by decide +kernel
theorem dX10_back_15 : decode cX10_back 15 = .ok (.iconst 0, 1) := by decide +kernel
theorem dX10_back_16 : decode cX10_back 16 = .ok (.iaload, 1) := by decide +kernel
theorem dX10_back_17 : decode cX10_back 17 = .ok (.putfield 151, 3) := by decide +kernel
theorem dX10_back_20 : decode cX10_back 20 = .ok (.aload_n 0, 1) := by decide +kernel
theorem dX10_back_21 : decode cX10_back 21 = .ok (.aload_n 0, 1) := by decide +kernel
theorem dX10_back_22 : decode cX10_back 22 = .ok (.getfield 66, 3) := by decide +kernel
theorem dX10_back_25 : decode cX10_back 25 = .ok (.iconst 1, 1) := by decide +kernel
theorem dX10_back_26 : decode cX10_back 26 = .ok (.iaload, 1) := by decide +kernel
theorem dX10_back_27 : decode cX10_back 27 = .ok (.putfield 258, 3) := by decide +kernel
theorem dX10_back_30 : decode cX10_back 30 = .ok (.aload_n 0, 1) := by decide +kernel
theorem dX10_back_31 : decode cX10_back 31 = .ok (.aload_n 0, 1) := by decide +kernel
theorem dX10_back_32 : decode cX10_back 32 = .ok (.getfield 66, 3) := by decide +kernel
theorem dX10_back_35 : decode cX10_back 35 = .ok (.iconst 2, 1) := by decide +kernel
theorem dX10_back_36 : decode cX10_back 36 = .ok (.iaload, 1) := by decide +kernel
theorem dX10_back_37 : decode cX10_back 37 = .ok (.putfield 46, 3) := by decide +kernel
theorem dX10_back_40 : decode cX10_back 40 = .ok (.iconst 0, 1) := by decide +kernel
theorem dX10_back_41 : decode cX10_back 41 = .ok (.istore_n 1, 1) := by decide +kernel
theorem dX10_back_42 : decode cX10_back 42 = .ok (.iload_n 1, 1) := by decide +kernel
theorem dX10_back_43 : decode cX10_back 43 = .ok (.aload_n 0, 1) := by decide +kernel
theorem dX10_back_44 : decode cX10_back 44 = .ok (.getfield 331, 3) := by decide +kernel
theorem dX10_back_47 : decode cX10_back 47 = .ok (.if_icmp .ge 60, 3) := by decide +kernel
theorem dX10_back_50 : decode cX10_back 50 = .ok (.aload_n 0, 1) := by decide +kernel
theorem dX10_back_51 : decode cX10_back 51 = .ok (.getfield 22, 3) := by decide +kernel
theorem dX10_back_54 : decode cX10_back 54 = .ok (.iload_n 1, 1) := by decide +kernel
theorem dX10_back_55 : decode cX10_back 55 = .ok (.aload_n 0, 1) := by decide +kernel
theorem dX10_back_56 : decode cX10_back 56 = .ok (.getfield 66, 3) := by decide +kernel
theorem dX10_back_59 : decode cX10_back 59 = .ok (.iconst 3, 1) := by decide +kernel
theorem dX10_back_60 : decode cX10_back 60 = .ok (.iconst 3, 1) := by decide +kernel
theorem dX10_back_61 : decode cX10_back 61 = .ok (.iload_n 1, 1) := by decide +kernel
theorem dX10_back_62 : decode cX10_back 62 = .ok (.imul, 1) := by decide +kernel
theorem dX10_back_63 : decode cX10_back 63 = .ok (.iadd, 1) := by decide +kernel
theorem dX10_back_64 : decode cX10_back 64 = .ok (.iaload, 1) := by decide +kernel
theorem dX10_back_65 : decode cX10_back 65 = .ok (.iastore, 1) := by decide +kernel
theorem dX10_back_66 : decode cX10_back 66 = .ok (.aload_n 0, 1) := by decide +kernel
theorem dX10_back_67 : decode cX10_back 67 = .ok (.getfield 9, 3) := by decide +kernel
theorem dX10_back_70 : decode cX10_back 70 = .ok (.bipush 10, 2) := by decide +kernel
theorem dX10_back_72 : decode cX10_back 72 = .ok (.iload_n 1, 1) := by decide +kernel
theorem dX10_back_73 : decode cX10_back 73 = .ok (.iadd, 1) := by decide +kernel
theorem dX10_back_74 : decode cX10_back 74 = .ok (.aload_n 0, 1) := by decide +kernel
theorem dX10_back_75 : decode cX10_back 75 = .ok (.getfield 66, 3) := by decide +kernel
theorem dX10_back_78 : decode cX10_back 78 = .ok (.iconst 4, 1) := by decide +kernel
theorem dX10_back_79 : decode cX10_back 79 = .ok (.iconst 3, 1) := by decide +kernel
theorem dX10_back_80 : decode cX10_back 80 = .ok (.iload_n 1, 1) := by decide +kernel
theorem dX10_back_81 : decode cX10_back 81 = .ok (.imul, 1) := by decide +kernel
theorem dX10_back_82 : decode cX10_back 82 = .ok (.iadd, 1) := by decide +kernel
theorem dX10_back_83 : decode cX10_back 83 = .ok (.iaload, 1) := by decide +kernel
theorem dX10_back_84 : decode cX10_back 84 = .ok (.iastore, 1) := by decide +kernel
theorem dX10_back_85 : decode cX10_back 85 = .ok (.aload_n 0, 1) := by decide +kernel
theorem dX10_back_86 : decode cX10_back 86 = .ok (.getfield 25, 3) := by decide +kernel
theorem dX10_back_89 : decode cX10_back 89 = .ok (.iload_n 1, 1) := by decide +kernel
theorem dX10_back_90 : decode cX10_back 90 = .ok (.aload_n 0, 1) := by decide +kernel
theorem dX10_back_91 : decode cX10_back 91 = .ok (.getfield 66, 3) := by decide +kernel
theorem dX10_back_94 : decode cX10_back 94 = .ok (.iconst 5, 1) := by decide +kernel
theorem dX10_back_95 : decode cX10_back 95 = .ok (.iconst 3, 1) := by decide +kernel
theorem dX10_back_96 : decode cX10_back 96 = .ok (.iload_n 1, 1) := by decide +kernel
theorem dX10_back_97 : decode cX10_back 97 = .ok (.imul, 1) := by decide +kernel
theorem dX10_back_98 : decode cX10_back 98 = .ok (.iadd, 1) := by decide +kernel
theorem dX10_back_99 : decode cX10_back 99 = .ok (.iaload, 1) := by decide +kernel
theorem dX10_back_100 : decode cX10_back 100 = .ok (.iastore, 1) := by decide +kernel
theorem dX10_back_101 : decode cX10_back 101 = .ok (.iinc 1 1, 3) := by decide +kernel
theorem dX10_back_104 : decode cX10_back 104 = .ok (.goto (-62), 3) := by decide +kernel
theorem dX10_back_107 : decode cX10_back 107 = .ok (.aload_n 0, 1) := by decide +kernel
theorem dX10_back_108 : decode cX10_back 108 = .ok (.getfield 151, 3) := by decide +kernel
theorem dX10_back_111 : decode cX10_back 111 = .ok (.ireturn, 1) := by decide +kernel
theorem dX10_isBody_0 : decode cX10_isBody 0 = .ok (.iload_n 1, 1) := by decide +kernel
theorem dX10_isBody_1 : decode cX10_isBody 1 = .ok (.i2l, 1) := by decide +kernel
theorem dX10_isBody_2 : decode cX10_isBody 2 = .ok (.lconst 0, 1) := by decide +kernel
theorem dX10_isBody_3 : decode cX10_isBody 3 = .ok (.aload_n 0, 1) := by decide +kernel
theorem dX10_isBody_4 : decode cX10_isBody 4 = .ok (.getfield 334, 3) := by decide +kernel
theorem dX10_isBody_7 : decode cX10_isBody 7 = .ok (.iconst 1, 1) := by decide +kernel
theorem dX10_isBody_8 : decode cX10_isBody 8 = .ok (.isub, 1) := by decide +kernel
theorem dX10_isBody_9 : decode cX10_isBody 9 = .ok (.i2l, 1) := by decide +kernel
theorem dX10_isBody_10 : decode cX10_isBody 10 = .ok (.invokestatic 101, 3) := by decide +kernel
theorem dX10_isBody_13 : decode cX10_isBody 13 = .ok (.ireturn, 1) := by decide +kernel
theorem dX10_kindOf_0 : decode cX10_kindOf 0 = .ok (.aload_n 0, 1) := by decide +kernel
theorem dX10_kindOf_1 : decode cX10_kindOf 1 = .ok (.getfield 69, 3) := by decide +kernel
theorem dX10_kindOf_4 : decode cX10_kindOf 4 = .ok (.iload_n 1, 1) := by decide +kernel
theorem dX10_kindOf_5 : decode cX10_kindOf 5 = .ok (.iaload, 1) := by decide +kernel
theorem dX10_kindOf_6 : decode cX10_kindOf 6 = .ok (.ireturn, 1) := by decide +kernel
theorem dX10_body_0 : decode cX10_body 0 = .ok (.iload_n 1, 1) := by decide +kernel
theorem dX10_body_1 : decode cX10_body 1 = .ok (.i2l, 1) := by decide +kernel
theorem dX10_body_2 : decode cX10_body 2 = .ok (.lconst 0, 1) := by decide +kernel
theorem dX10_body_3 : decode cX10_body 3 = .ok (.ldc2_w 143, 3) := by decide +kernel
theorem dX10_body_6 : decode cX10_body 6 = .ok (.invokestatic 101, 3) := by decide +kernel
theorem dX10_body_9 : decode cX10_body 9 = .ok (.ifCond .ne 5, 3) := by decide +kernel
theorem dX10_body_12 : decode cX10_body 12 = .ok (.iconst (-1), 1) := by decide +kernel
theorem dX10_body_13 : decode cX10_body 13 = .ok (.ireturn, 1) := by decide +kernel
theorem dX10_body_14 : decode cX10_body 14 = .ok (.aload_n 0, 1) := by decide +kernel
theorem dX10_body_15 : decode cX10_body 15 = .ok (.getfield 334, 3) := by decide +kernel
theorem dX10_body_18 : decode cX10_body 18 = .ok (.bipush 50, 2) := by decide +kernel
theorem dX10_body_20 : decode cX10_body 20 = .ok (.if_icmp .ne 6, 3) := by decide +kernel
theorem dX10_body_23 : decode cX10_body 23 = .ok (.bipush (-3), 2) := by decide +kernel
theorem dX10_body_25 : decode cX10_body 25 = .ok (.ireturn, 1) := by decide +kernel
theorem dX10_body_26 : decode cX10_body 26 = .ok (.aload_n 0, 1) := by decide +kernel
theorem dX10_body_27 : decode cX10_body 27 = .ok (.getfield 69, 3) := by decide +kernel
theorem dX10_body_30 : decode cX10_body 30 = .ok (.aload_n 0, 1) := by decide +kernel
theorem dX10_body_31 : decode cX10_body 31 = .ok (.getfield 334, 3) := by decide +kernel
theorem dX10_body_34 : decode cX10_body 34 = .ok (.iload_n 1, 1) := by decide +kernel
theorem dX10_body_35 : decode cX10_body 35 = .ok (.iastore, 1) := by decide +kernel
theorem dX10_body_36 : decode cX10_body 36 = .ok (.aload_n 0, 1) := by decide +kernel
theorem dX10_body_37 : decode cX10_body 37 = .ok (.dup, 1) := by decide +kernel
theorem dX10_body_38 : decode cX10_body 38 = .ok (.getfield 334, 3) := by decide +kernel
theorem dX10_body_41 : decode cX10_body 41 = .ok (.iconst 1, 1) := by decide +kernel
theorem dX10_body_42 : decode cX10_body 42 = .ok (.iadd, 1) := by decide +kernel
theorem dX10_body_43 : decode cX10_body 43 = .ok (.putfield 334, 3) := by decide +kernel
theorem dX10_body_46 : decode cX10_body 46 = .ok (.aload_n 0, 1) := by decide +kernel
theorem dX10_body_47 : decode cX10_body 47 = .ok (.getfield 334, 3) := by decide +kernel
theorem dX10_body_50 : decode cX10_body 50 = .ok (.iconst 1, 1) := by decide +kernel
theorem dX10_body_51 : decode cX10_body 51 = .ok (.isub, 1) := by decide +kernel
theorem dX10_body_52 : decode cX10_body 52 = .ok (.ireturn, 1) := by decide +kernel
theorem dX10_above_0 : decode cX10_above 0 = .ok (.iload_n 0, 1) := by decide +kernel
theorem dX10_above_1 : decode cX10_above 1 = .ok (.iconst 3, 1) := by decide +kernel
theorem dX10_above_2 : decode cX10_above 2 = .ok (.if_icmp .ne 7, 3) := by decide +kernel
theorem dX10_above_5 : decode cX10_above 5 = .ok (.iconst 2, 1) := by decide +kernel
theorem dX10_above_6 : decode cX10_above 6 = .ok (.goto 32, 3) := by decide +kernel
theorem dX10_above_9 : decode cX10_above 9 = .ok (.iload_n 0, 1) := by decide +kernel
theorem dX10_above_10 : decode cX10_above 10 = .ok (.iconst 4, 1) := by decide +kernel
theorem dX10_above_11 : decode cX10_above 11 = .ok (.if_icmp .ne 7, 3) := by decide +kernel
theorem dX10_above_14 : decode cX10_above 14 = .ok (.iconst 1, 1) := by decide +kernel
theorem dX10_above_15 : decode cX10_above 15 = .ok (.goto 23, 3) := by decide +kernel
theorem dX10_above_18 : decode cX10_above 18 = .ok (.iload_n 0, 1) := by decide +kernel
theorem dX10_above_19 : decode cX10_above 19 = .ok (.iconst 5, 1) := by decide +kernel
theorem dX10_above_20 : decode cX10_above 20 = .ok (.if_icmp .ne 7, 3) := by decide +kernel
theorem dX10_above_23 : decode cX10_above 23 = .ok (.iconst 3, 1) := by decide +kernel
theorem dX10_above_24 : decode cX10_above 24 = .ok (.goto 14, 3) := by decide +kernel
theorem dX10_above_27 : decode cX10_above 27 = .ok (.iload_n 0, 1) := by decide +kernel
theorem dX10_above_28 : decode cX10_above 28 = .ok (.bipush 7, 2) := by decide +kernel
theorem dX10_above_30 : decode cX10_above 30 = .ok (.if_icmp .ne 7, 3) := by decide +kernel
theorem dX10_above_33 : decode cX10_above 33 = .ok (.iconst 4, 1) := by decide +kernel
theorem dX10_above_34 : decode cX10_above 34 = .ok (.goto 4, 3) := by decide +kernel
theorem dX10_above_37 : decode cX10_above 37 = .ok (.iconst 0, 1) := by decide +kernel
theorem dX10_above_38 : decode cX10_above 38 = .ok (.ireturn, 1) := by decide +kernel
theorem dX10_begins_0 : decode cX10_begins 0 = .ok (.aload_n 0, 1) := by decide +kernel
theorem dX10_begins_1 : decode cX10_begins 1 = .ok (.getfield 337, 3) := by decide +kernel
theorem dX10_begins_4 : decode cX10_begins 4 = .ok (.bipush 24, 2) := by decide +kernel
theorem dX10_begins_6 : decode cX10_begins 6 = .ok (.if_icmp .ge 13, 3) := by decide +kernel
theorem dX10_begins_9 : decode cX10_begins 9 = .ok (.aload_n 0, 1) := by decide +kernel
theorem dX10_begins_10 : decode cX10_begins 10 = .ok (.getfield 72, 3) := by decide +kernel
theorem dX10_begins_13 : decode cX10_begins 13 = .ok (.aload_n 0, 1) := by decide +kernel
theorem dX10_begins_14 : decode cX10_begins 14 = .ok (.getfield 337, 3) := by decide +kernel
theorem dX10_begins_17 : decode cX10_begins 17 = .ok (.iload_n 1, 1) := by decide +kernel
theorem dX10_begins_18 : decode cX10_begins 18 = .ok (.iastore, 1) := by decide +kernel
theorem dX10_begins_19 : decode cX10_begins 19 = .ok (.aload_n 0, 1) := by decide +kernel
theorem dX10_begins_20 : decode cX10_begins 20 = .ok (.dup, 1) := by decide +kernel
theorem dX10_begins_21 : decode cX10_begins 21 = .ok (.getfield 337, 3) := by decide +kernel
theorem dX10_begins_24 : decode cX10_begins 24 = .ok (.iconst 1, 1) := by decide +kernel
theorem dX10_begins_25 : decode cX10_begins 25 = .ok (.iadd, 1) := by decide +kernel
theorem dX10_begins_26 : decode cX10_begins 26 = .ok (.putfield 337, 3) := by decide +kernel
theorem dX10_begins_29 : decode cX10_begins 29 = .ok (.return_, 1) := by decide +kernel
theorem dX10_pushesAs_0 : decode cX10_pushesAs 0 = .ok (.iload_n 1, 1) := by decide +kernel
theorem dX10_pushesAs_1 : decode cX10_pushesAs 1 = .ok (.iconst 1, 1) := by decide +kernel
theorem dX10_pushesAs_2 : decode cX10_pushesAs 2 = .ok (.if_icmp .eq 14, 3) := by decide +kernel
theorem dX10_pushesAs_5 : decode cX10_pushesAs 5 = .ok (.iload_n 1, 1) := by decide +kernel
theorem dX10_pushesAs_6 : decode cX10_pushesAs 6 = .ok (.iconst 4, 1) := by decide +kernel
theorem dX10_pushesAs_7 : decode cX10_pushesAs 7 = .ok (.if_icmp .eq 9, 3) := by decide +kernel
theorem dX10_pushesAs_10 : decode cX10_pushesAs 10 = .ok (.iload_n 1, 1) := by decide +kernel
theorem dX10_pushesAs_11 : decode cX10_pushesAs 11 = .ok (.bipush 7, 2) := by decide +kernel
theorem dX10_pushesAs_13 : decode cX10_pushesAs 13 = .ok (.if_icmp .ne 18, 3) := by decide +kernel
theorem dX10_pushesAs_16 : decode cX10_pushesAs 16 = .ok (.aload_n 0, 1) := by decide +kernel
theorem dX10_pushesAs_17 : decode cX10_pushesAs 17 = .ok (.bipush 20, 2) := by decide +kernel
theorem dX10_pushesAs_19 : decode cX10_pushesAs 19 = .ok (.invokevirtual 340, 3) := by decide +kernel
theorem dX10_pushesAs_22 : decode cX10_pushesAs 22 = .ok (.aload_n 0, 1) := by decide +kernel
theorem dX10_pushesAs_23 : decode cX10_pushesAs 23 = .ok (.iconst 0, 1) := by decide +kernel
theorem dX10_pushesAs_24 : decode cX10_pushesAs 24 = .ok (.iload_n 2, 1) := by decide +kernel
theorem dX10_pushesAs_25 : decode cX10_pushesAs 25 = .ok (.invokevirtual 343, 3) := by decide +kernel
theorem dX10_pushesAs_28 : decode cX10_pushesAs 28 = .ok (.iconst 3, 1) := by decide +kernel
theorem dX10_pushesAs_29 : decode cX10_pushesAs 29 = .ok (.iadd, 1) := by decide +kernel
theorem dX10_pushesAs_30 : decode cX10_pushesAs 30 = .ok (.ireturn, 1) := by decide +kernel
theorem dX10_pushesAs_31 : decode cX10_pushesAs 31 = .ok (.iload_n 1, 1) := by decide +kernel
theorem dX10_pushesAs_32 : decode cX10_pushesAs 32 = .ok (.bipush 6, 2) := by decide +kernel
theorem dX10_pushesAs_34 : decode cX10_pushesAs 34 = .ok (.if_icmp .ne 18, 3) := by decide +kernel
theorem dX10_pushesAs_37 : decode cX10_pushesAs 37 = .ok (.aload_n 0, 1) := by decide +kernel
theorem dX10_pushesAs_38 : decode cX10_pushesAs 38 = .ok (.bipush 70, 2) := by decide +kernel
theorem dX10_pushesAs_40 : decode cX10_pushesAs 40 = .ok (.invokevirtual 340, 3) := by decide +kernel
theorem dX10_pushesAs_43 : decode cX10_pushesAs 43 = .ok (.aload_n 0, 1) := by decide +kernel
theorem dX10_pushesAs_44 : decode cX10_pushesAs 44 = .ok (.iconst 0, 1) := by decide +kernel
theorem dX10_pushesAs_45 : decode cX10_pushesAs 45 = .ok (.iload_n 2, 1) := by decide +kernel
theorem dX10_pushesAs_46 : decode cX10_pushesAs 46 = .ok (.invokevirtual 343, 3) := by decide +kernel
theorem dX10_pushesAs_49 : decode cX10_pushesAs 49 = .ok (.iconst 2, 1) := by decide +kernel
theorem dX10_pushesAs_50 : decode cX10_pushesAs 50 = .ok (.imul, 1) := by decide +kernel
theorem dX10_pushesAs_51 : decode cX10_pushesAs 51 = .ok (.ireturn, 1) := by decide +kernel
theorem dX10_pushesAs_52 : decode cX10_pushesAs 52 = .ok (.aload_n 0, 1) := by decide +kernel
theorem dX10_pushesAs_53 : decode cX10_pushesAs 53 = .ok (.iconst 1, 1) := by decide +kernel
theorem dX10_pushesAs_54 : decode cX10_pushesAs 54 = .ok (.invokevirtual 340, 3) := by decide +kernel
theorem dX10_pushesAs_57 : decode cX10_pushesAs 57 = .ok (.iload_n 2, 1) := by decide +kernel
theorem dX10_pushesAs_58 : decode cX10_pushesAs 58 = .ok (.aload_n 0, 1) := by decide +kernel
theorem dX10_pushesAs_59 : decode cX10_pushesAs 59 = .ok (.getfield 346, 3) := by decide +kernel
theorem dX10_pushesAs_62 : decode cX10_pushesAs 62 = .ok (.iadd, 1) := by decide +kernel
theorem dX10_pushesAs_63 : decode cX10_pushesAs 63 = .ok (.ireturn, 1) := by decide +kernel
theorem dX10_turnsAs_0 : decode cX10_turnsAs 0 = .ok (.iload_n 1, 1) := by decide +kernel
theorem dX10_turnsAs_1 : decode cX10_turnsAs 1 = .ok (.iconst 3, 1) := by decide +kernel
theorem dX10_turnsAs_2 : decode cX10_turnsAs 2 = .ok (.if_icmp .eq 8, 3) := by decide +kernel
theorem dX10_turnsAs_5 : decode cX10_turnsAs 5 = .ok (.iload_n 1, 1) := by decide +kernel
theorem dX10_turnsAs_6 : decode cX10_turnsAs 6 = .ok (.iconst 5, 1) := by decide +kernel
theorem dX10_turnsAs_7 : decode cX10_turnsAs 7 = .ok (.if_icmp .ne 18, 3) := by decide +kernel
theorem dX10_turnsAs_10 : decode cX10_turnsAs 10 = .ok (.aload_n 0, 1) := by decide +kernel
theorem dX10_turnsAs_11 : decode cX10_turnsAs 11 = .ok (.bipush 41, 2) := by decide +kernel
theorem dX10_turnsAs_13 : decode cX10_turnsAs 13 = .ok (.invokevirtual 340, 3) := by decide +kernel
theorem dX10_turnsAs_16 : decode cX10_turnsAs 16 = .ok (.aload_n 0, 1) := by decide +kernel
theorem dX10_turnsAs_17 : decode cX10_turnsAs 17 = .ok (.iconst 2, 1) := by decide +kernel
theorem dX10_turnsAs_18 : decode cX10_turnsAs 18 = .ok (.iload_n 2, 1) := by decide +kernel
theorem dX10_turnsAs_19 : decode cX10_turnsAs 19 = .ok (.iconst 1, 1) := by decide +kernel
theorem dX10_turnsAs_20 : decode cX10_turnsAs 20 = .ok (.iadd, 1) := by decide +kernel
theorem dX10_turnsAs_21 : decode cX10_turnsAs 21 = .ok (.invokevirtual 349, 3) := by decide +kernel
theorem dX10_turnsAs_24 : decode cX10_turnsAs 24 = .ok (.ireturn, 1) := by decide +kernel
theorem dX10_turnsAs_25 : decode cX10_turnsAs 25 = .ok (.iload_n 1, 1) := by decide +kernel
theorem dX10_turnsAs_26 : decode cX10_turnsAs 26 = .ok (.iconst 2, 1) := by decide +kernel
theorem dX10_turnsAs_27 : decode cX10_turnsAs 27 = .ok (.if_icmp .ne 17, 3) := by decide +kernel
theorem dX10_turnsAs_30 : decode cX10_turnsAs 30 = .ok (.aload_n 0, 1) := by decide +kernel
theorem dX10_turnsAs_31 : decode cX10_turnsAs 31 = .ok (.bipush 30, 2) := by decide +kernel
theorem dX10_turnsAs_33 : decode cX10_turnsAs 33 = .ok (.invokevirtual 340, 3) := by decide +kernel
theorem dX10_turnsAs_36 : decode cX10_turnsAs 36 = .ok (.aload_n 0, 1) := by decide +kernel
theorem dX10_turnsAs_37 : decode cX10_turnsAs 37 = .ok (.iconst 0, 1) := by decide +kernel
theorem dX10_turnsAs_38 : decode cX10_turnsAs 38 = .ok (.iload_n 2, 1) := by decide +kernel
theorem dX10_turnsAs_39 : decode cX10_turnsAs 39 = .ok (.invokevirtual 349, 3) := by decide +kernel
theorem dX10_turnsAs_42 : decode cX10_turnsAs 42 = .ok (.ineg, 1) := by decide +kernel
theorem dX10_turnsAs_43 : decode cX10_turnsAs 43 = .ok (.ireturn, 1) := by decide +kernel
theorem dX10_turnsAs_44 : decode cX10_turnsAs 44 = .ok (.iload_n 1, 1) := by decide +kernel
theorem dX10_turnsAs_45 : decode cX10_turnsAs 45 = .ok (.bipush 7, 2) := by decide +kernel
theorem dX10_turnsAs_47 : decode cX10_turnsAs 47 = .ok (.if_icmp .ne 28, 3) := by decide +kernel
theorem dX10_turnsAs_50 : decode cX10_turnsAs 50 = .ok (.aload_n 0, 1) := by decide +kernel
theorem dX10_turnsAs_51 : decode cX10_turnsAs 51 = .ok (.bipush 80, 2) := by decide +kernel
theorem dX10_turnsAs_53 : decode cX10_turnsAs 53 = .ok (.invokevirtual 340, 3) := by decide +kernel
theorem dX10_turnsAs_56 : decode cX10_turnsAs 56 = .ok (.aload_n 0, 1) := by decide +kernel
theorem dX10_turnsAs_57 : decode cX10_turnsAs 57 = .ok (.iconst 4, 1) := by decide +kernel
theorem dX10_turnsAs_58 : decode cX10_turnsAs 58 = .ok (.iload_n 2, 1) := by decide +kernel
theorem dX10_turnsAs_59 : decode cX10_turnsAs 59 = .ok (.invokevirtual 349, 3) := by decide +kernel
theorem dX10_turnsAs_62 : decode cX10_turnsAs 62 = .ok (.istore_n 3, 1) := by decide +kernel
theorem dX10_turnsAs_63 : decode cX10_turnsAs 63 = .ok (.iload_n 3, 1) := by decide +kernel
theorem dX10_turnsAs_64 : decode cX10_turnsAs 64 = .ok (.aload_n 0, 1) := by decide +kernel
theorem dX10_turnsAs_65 : decode cX10_turnsAs 65 = .ok (.aload_n 0, 1) := by decide +kernel
theorem dX10_turnsAs_66 : decode cX10_turnsAs 66 = .ok (.getfield 352, 3) := by decide +kernel
theorem dX10_turnsAs_69 : decode cX10_turnsAs 69 = .ok (.iconst 2, 1) := by decide +kernel
theorem dX10_turnsAs_70 : decode cX10_turnsAs 70 = .ok (.invokevirtual 355, 3) := by decide +kernel
theorem dX10_turnsAs_73 : decode cX10_turnsAs 73 = .ok (.iadd, 1) := by decide +kernel
theorem dX10_turnsAs_74 : decode cX10_turnsAs 74 = .ok (.ireturn, 1) := by decide +kernel
theorem dX10_turnsAs_75 : decode cX10_turnsAs 75 = .ok (.aload_n 0, 1) := by decide +kernel
theorem dX10_turnsAs_76 : decode cX10_turnsAs 76 = .ok (.bipush 10, 2) := by decide +kernel
theorem dX10_turnsAs_78 : decode cX10_turnsAs 78 = .ok (.invokevirtual 340, 3) := by decide +kernel
theorem dX10_turnsAs_81 : decode cX10_turnsAs 81 = .ok (.aload_n 0, 1) := by decide +kernel
theorem dX10_turnsAs_82 : decode cX10_turnsAs 82 = .ok (.aload_n 0, 1) := by decide +kernel
theorem dX10_turnsAs_83 : decode cX10_turnsAs 83 = .ok (.getfield 352, 3) := by decide +kernel
theorem dX10_turnsAs_86 : decode cX10_turnsAs 86 = .ok (.iload_n 2, 1) := by decide +kernel
theorem dX10_turnsAs_87 : decode cX10_turnsAs 87 = .ok (.invokevirtual 343, 3) := by decide +kernel
theorem dX10_turnsAs_90 : decode cX10_turnsAs 90 = .ok (.iconst 2, 1) := by decide +kernel
theorem dX10_turnsAs_91 : decode cX10_turnsAs 91 = .ok (.imul, 1) := by decide +kernel
theorem dX10_turnsAs_92 : decode cX10_turnsAs 92 = .ok (.ireturn, 1) := by decide +kernel
theorem dX10_sinksAs_0 : decode cX10_sinksAs 0 = .ok (.iload_n 1, 1) := by decide +kernel
theorem dX10_sinksAs_1 : decode cX10_sinksAs 1 = .ok (.iconst 3, 1) := by decide +kernel
theorem dX10_sinksAs_2 : decode cX10_sinksAs 2 = .ok (.if_icmp .eq 8, 3) := by decide +kernel
theorem dX10_sinksAs_5 : decode cX10_sinksAs 5 = .ok (.iload_n 1, 1) := by decide +kernel
theorem dX10_sinksAs_6 : decode cX10_sinksAs 6 = .ok (.iconst 5, 1) := by decide +kernel
theorem dX10_sinksAs_7 : decode cX10_sinksAs 7 = .ok (.if_icmp .ne 18, 3) := by decide +kernel
theorem dX10_sinksAs_10 : decode cX10_sinksAs 10 = .ok (.aload_n 0, 1) := by decide +kernel
theorem dX10_sinksAs_11 : decode cX10_sinksAs 11 = .ok (.bipush 40, 2) := by decide +kernel
theorem dX10_sinksAs_13 : decode cX10_sinksAs 13 = .ok (.invokevirtual 340, 3) := by decide +kernel
theorem dX10_sinksAs_16 : decode cX10_sinksAs 16 = .ok (.aload_n 0, 1) := by decide +kernel
theorem dX10_sinksAs_17 : decode cX10_sinksAs 17 = .ok (.iconst 2, 1) := by decide +kernel
theorem dX10_sinksAs_18 : decode cX10_sinksAs 18 = .ok (.iload_n 2, 1) := by decide +kernel
theorem dX10_sinksAs_19 : decode cX10_sinksAs 19 = .ok (.invokevirtual 355, 3) := by decide +kernel
theorem dX10_sinksAs_22 : decode cX10_sinksAs 22 = .ok (.iconst 3, 1) := by decide +kernel
theorem dX10_sinksAs_23 : decode cX10_sinksAs 23 = .ok (.imul, 1) := by decide +kernel
theorem dX10_sinksAs_24 : decode cX10_sinksAs 24 = .ok (.ireturn, 1) := by decide +kernel
theorem dX10_sinksAs_25 : decode cX10_sinksAs 25 = .ok (.iload_n 1, 1) := by decide +kernel
theorem dX10_sinksAs_26 : decode cX10_sinksAs 26 = .ok (.iconst 4, 1) := by decide +kernel
theorem dX10_sinksAs_27 : decode cX10_sinksAs 27 = .ok (.if_icmp .eq 9, 3) := by decide +kernel
theorem dX10_sinksAs_30 : decode cX10_sinksAs 30 = .ok (.iload_n 1, 1) := by decide +kernel
theorem dX10_sinksAs_31 : decode cX10_sinksAs 31 = .ok (.bipush 7, 2) := by decide +kernel
theorem dX10_sinksAs_33 : decode cX10_sinksAs 33 = .ok (.if_icmp .ne 28, 3) := by decide +kernel
theorem dX10_sinksAs_36 : decode cX10_sinksAs 36 = .ok (.aload_n 0, 1) := by decide +kernel
theorem dX10_sinksAs_37 : decode cX10_sinksAs 37 = .ok (.bipush 50, 2) := by decide +kernel
theorem dX10_sinksAs_39 : decode cX10_sinksAs 39 = .ok (.invokevirtual 340, 3) := by decide +kernel
theorem dX10_sinksAs_42 : decode cX10_sinksAs 42 = .ok (.aload_n 0, 1) := by decide +kernel
theorem dX10_sinksAs_43 : decode cX10_sinksAs 43 = .ok (.iconst 1, 1) := by decide +kernel
theorem dX10_sinksAs_44 : decode cX10_sinksAs 44 = .ok (.iload_n 2, 1) := by decide +kernel
theorem dX10_sinksAs_45 : decode cX10_sinksAs 45 = .ok (.invokevirtual 355, 3) := by decide +kernel
theorem dX10_sinksAs_48 : decode cX10_sinksAs 48 = .ok (.istore_n 3, 1) := by decide +kernel
theorem dX10_sinksAs_49 : decode cX10_sinksAs 49 = .ok (.iload_n 3, 1) := by decide +kernel
theorem dX10_sinksAs_50 : decode cX10_sinksAs 50 = .ok (.aload_n 0, 1) := by decide +kernel
theorem dX10_sinksAs_51 : decode cX10_sinksAs 51 = .ok (.aload_n 0, 1) := by decide +kernel
theorem dX10_sinksAs_52 : decode cX10_sinksAs 52 = .ok (.getfield 352, 3) := by decide +kernel
theorem dX10_sinksAs_55 : decode cX10_sinksAs 55 = .ok (.iconst 2, 1) := by decide +kernel
theorem dX10_sinksAs_56 : decode cX10_sinksAs 56 = .ok (.invokevirtual 343, 3) := by decide +kernel
theorem dX10_sinksAs_59 : decode cX10_sinksAs 59 = .ok (.isub, 1) := by decide +kernel
theorem dX10_sinksAs_60 : decode cX10_sinksAs 60 = .ok (.ireturn, 1) := by decide +kernel
theorem dX10_sinksAs_61 : decode cX10_sinksAs 61 = .ok (.aload_n 0, 1) := by decide +kernel
theorem dX10_sinksAs_62 : decode cX10_sinksAs 62 = .ok (.bipush 11, 2) := by decide +kernel
theorem dX10_sinksAs_64 : decode cX10_sinksAs 64 = .ok (.invokevirtual 340, 3) := by decide +kernel
theorem dX10_sinksAs_67 : decode cX10_sinksAs 67 = .ok (.iload_n 2, 1) := by decide +kernel
theorem dX10_sinksAs_68 : decode cX10_sinksAs 68 = .ok (.aload_n 0, 1) := by decide +kernel
theorem dX10_sinksAs_69 : decode cX10_sinksAs 69 = .ok (.getfield 346, 3) := by decide +kernel
theorem dX10_sinksAs_72 : decode cX10_sinksAs 72 = .ok (.ixor, 1) := by decide +kernel
theorem dX10_sinksAs_73 : decode cX10_sinksAs 73 = .ok (.ireturn, 1) := by decide +kernel
theorem dX10_tellsAs_0 : decode cX10_tellsAs 0 = .ok (.iload_n 1, 1) := by decide +kernel
theorem dX10_tellsAs_1 : decode cX10_tellsAs 1 = .ok (.iconst 5, 1) := by decide +kernel
theorem dX10_tellsAs_2 : decode cX10_tellsAs 2 = .ok (.if_icmp .ne 18, 3) := by decide +kernel
theorem dX10_tellsAs_5 : decode cX10_tellsAs 5 = .ok (.aload_n 0, 1) := by decide +kernel
theorem dX10_tellsAs_6 : decode cX10_tellsAs 6 = .ok (.bipush 60, 2) := by decide +kernel
theorem dX10_tellsAs_8 : decode cX10_tellsAs 8 = .ok (.invokevirtual 340, 3) := by decide +kernel
theorem dX10_tellsAs_11 : decode cX10_tellsAs 11 = .ok (.aload_n 0, 1) := by decide +kernel
theorem dX10_tellsAs_12 : decode cX10_tellsAs 12 = .ok (.iconst 3, 1) := by decide +kernel
theorem dX10_tellsAs_13 : decode cX10_tellsAs 13 = .ok (.iload_n 2, 1) := by decide +kernel
theorem dX10_tellsAs_14 : decode cX10_tellsAs 14 = .ok (.invokevirtual 358, 3) := by decide +kernel
theorem dX10_tellsAs_17 : decode cX10_tellsAs 17 = .ok (.iconst 5, 1) := by decide +kernel
theorem dX10_tellsAs_18 : decode cX10_tellsAs 18 = .ok (.ixor, 1) := by decide +kernel
theorem dX10_tellsAs_19 : decode cX10_tellsAs 19 = .ok (.ireturn, 1) := by decide +kernel
theorem dX10_tellsAs_20 : decode cX10_tellsAs 20 = .ok (.iload_n 1, 1) := by decide +kernel
theorem dX10_tellsAs_21 : decode cX10_tellsAs 21 = .ok (.bipush 7, 2) := by decide +kernel
theorem dX10_tellsAs_23 : decode cX10_tellsAs 23 = .ok (.if_icmp .ne 18, 3) := by decide +kernel
theorem dX10_tellsAs_26 : decode cX10_tellsAs 26 = .ok (.aload_n 0, 1) := by decide +kernel
theorem dX10_tellsAs_27 : decode cX10_tellsAs 27 = .ok (.bipush 81, 2) := by decide +kernel
theorem dX10_tellsAs_29 : decode cX10_tellsAs 29 = .ok (.invokevirtual 340, 3) := by decide +kernel
theorem dX10_tellsAs_32 : decode cX10_tellsAs 32 = .ok (.aload_n 0, 1) := by decide +kernel
theorem dX10_tellsAs_33 : decode cX10_tellsAs 33 = .ok (.iconst 4, 1) := by decide +kernel
theorem dX10_tellsAs_34 : decode cX10_tellsAs 34 = .ok (.iload_n 2, 1) := by decide +kernel
theorem dX10_tellsAs_35 : decode cX10_tellsAs 35 = .ok (.invokevirtual 358, 3) := by decide +kernel
theorem dX10_tellsAs_38 : decode cX10_tellsAs 38 = .ok (.iconst 1, 1) := by decide +kernel
theorem dX10_tellsAs_39 : decode cX10_tellsAs 39 = .ok (.isub, 1) := by decide +kernel
theorem dX10_tellsAs_40 : decode cX10_tellsAs 40 = .ok (.ireturn, 1) := by decide +kernel
theorem dX10_tellsAs_41 : decode cX10_tellsAs 41 = .ok (.aload_n 0, 1) := by decide +kernel
theorem dX10_tellsAs_42 : decode cX10_tellsAs 42 = .ok (.iconst 2, 1) := by decide +kernel
theorem dX10_tellsAs_43 : decode cX10_tellsAs 43 = .ok (.invokevirtual 340, 3) := by decide +kernel
theorem dX10_tellsAs_46 : decode cX10_tellsAs 46 = .ok (.aload_n 0, 1) := by decide +kernel
theorem dX10_tellsAs_47 : decode cX10_tellsAs 47 = .ok (.aload_n 0, 1) := by decide +kernel
theorem dX10_tellsAs_48 : decode cX10_tellsAs 48 = .ok (.getfield 352, 3) := by decide +kernel
theorem dX10_tellsAs_51 : decode cX10_tellsAs 51 = .ok (.iload_n 2, 1) := by decide +kernel
theorem dX10_tellsAs_52 : decode cX10_tellsAs 52 = .ok (.invokevirtual 349, 3) := by decide +kernel
theorem dX10_tellsAs_55 : decode cX10_tellsAs 55 = .ok (.istore_n 3, 1) := by decide +kernel
theorem dX10_tellsAs_56 : decode cX10_tellsAs 56 = .ok (.iload_n 3, 1) := by decide +kernel
theorem dX10_tellsAs_57 : decode cX10_tellsAs 57 = .ok (.aload_n 0, 1) := by decide +kernel
theorem dX10_tellsAs_58 : decode cX10_tellsAs 58 = .ok (.aload_n 0, 1) := by decide +kernel
theorem dX10_tellsAs_59 : decode cX10_tellsAs 59 = .ok (.getfield 352, 3) := by decide +kernel
theorem dX10_tellsAs_62 : decode cX10_tellsAs 62 = .ok (.iconst 1, 1) := by decide +kernel
theorem dX10_tellsAs_63 : decode cX10_tellsAs 63 = .ok (.invokevirtual 355, 3) := by decide +kernel
theorem dX10_tellsAs_66 : decode cX10_tellsAs 66 = .ok (.isub, 1) := by decide +kernel
theorem dX10_tellsAs_67 : decode cX10_tellsAs 67 = .ok (.ireturn, 1) := by decide +kernel
theorem dX10_act_0 : decode cX10_act 0 = .ok (.aload_n 0, 1) := by decide +kernel
theorem dX10_act_1 : decode cX10_act 1 = .ok (.iconst 0, 1) := by decide +kernel
theorem dX10_act_2 : decode cX10_act 2 = .ok (.putfield 337, 3) := by decide +kernel
theorem dX10_act_5 : decode cX10_act 5 = .ok (.aload_n 0, 1) := by decide +kernel
theorem dX10_act_6 : decode cX10_act 6 = .ok (.iload_n 1, 1) := by decide +kernel
theorem dX10_act_7 : decode cX10_act 7 = .ok (.invokevirtual 361, 3) := by decide +kernel
theorem dX10_act_10 : decode cX10_act 10 = .ok (.ifCond .ne 5, 3) := by decide +kernel
theorem dX10_act_13 : decode cX10_act 13 = .ok (.iconst 0, 1) := by decide +kernel
theorem dX10_act_14 : decode cX10_act 14 = .ok (.ireturn, 1) := by decide +kernel
theorem dX10_act_15 : decode cX10_act 15 = .ok (.aload_n 0, 1) := by decide +kernel
theorem dX10_act_16 : decode cX10_act 16 = .ok (.aload_n 0, 1) := by decide +kernel
theorem dX10_act_17 : decode cX10_act 17 = .ok (.getfield 69, 3) := by decide +kernel
theorem dX10_act_20 : decode cX10_act 20 = .ok (.iload_n 1, 1) := by decide +kernel
theorem dX10_act_21 : decode cX10_act 21 = .ok (.iaload, 1) := by decide +kernel
theorem dX10_act_22 : decode cX10_act 22 = .ok (.putfield 352, 3) := by decide +kernel
theorem dX10_act_25 : decode cX10_act 25 = .ok (.aload_n 0, 1) := by decide +kernel
theorem dX10_act_26 : decode cX10_act 26 = .ok (.iload_n 1, 1) := by decide +kernel
theorem dX10_act_27 : decode cX10_act 27 = .ok (.putfield 346, 3) := by decide +kernel
theorem dX10_act_30 : decode cX10_act 30 = .ok (.iload_n 2, 1) := by decide +kernel
theorem dX10_act_31 : decode cX10_act 31 = .ok (.tableswitch 69 0 3 #[29, 39, 49, 59], 29) := by decide +kernel
theorem dX10_act_60 : decode cX10_act 60 = .ok (.aload_n 0, 1) := by decide +kernel
theorem dX10_act_61 : decode cX10_act 61 = .ok (.aload_n 0, 1) := by decide +kernel
theorem dX10_act_62 : decode cX10_act 62 = .ok (.getfield 352, 3) := by decide +kernel
theorem dX10_act_65 : decode cX10_act 65 = .ok (.iload_n 3, 1) := by decide +kernel
theorem dX10_act_66 : decode cX10_act 66 = .ok (.invokevirtual 343, 3) := by decide +kernel
theorem dX10_act_69 : decode cX10_act 69 = .ok (.ireturn, 1) := by decide +kernel
theorem dX10_act_70 : decode cX10_act 70 = .ok (.aload_n 0, 1) := by decide +kernel
theorem dX10_act_71 : decode cX10_act 71 = .ok (.aload_n 0, 1) := by decide +kernel
theorem dX10_act_72 : decode cX10_act 72 = .ok (.getfield 352, 3) := by decide +kernel
theorem dX10_act_75 : decode cX10_act 75 = .ok (.iload_n 3, 1) := by decide +kernel
theorem dX10_act_76 : decode cX10_act 76 = .ok (.invokevirtual 349, 3) := by decide +kernel
theorem dX10_act_79 : decode cX10_act 79 = .ok (.ireturn, 1) := by decide +kernel
theorem dX10_act_80 : decode cX10_act 80 = .ok (.aload_n 0, 1) := by decide +kernel
theorem dX10_act_81 : decode cX10_act 81 = .ok (.aload_n 0, 1) := by decide +kernel
theorem dX10_act_82 : decode cX10_act 82 = .ok (.getfield 352, 3) := by decide +kernel
theorem dX10_act_85 : decode cX10_act 85 = .ok (.iload_n 3, 1) := by decide +kernel
theorem dX10_act_86 : decode cX10_act 86 = .ok (.invokevirtual 355, 3) := by decide +kernel
theorem dX10_act_89 : decode cX10_act 89 = .ok (.ireturn, 1) := by decide +kernel
theorem dX10_act_90 : decode cX10_act 90 = .ok (.aload_n 0, 1) := by decide +kernel
theorem dX10_act_91 : decode cX10_act 91 = .ok (.aload_n 0, 1) := by decide +kernel
theorem dX10_act_92 : decode cX10_act 92 = .ok (.getfield 352, 3) := by decide +kernel
theorem dX10_act_95 : decode cX10_act 95 = .ok (.iload_n 3, 1) := by decide +kernel
theorem dX10_act_96 : decode cX10_act 96 = .ok (.invokevirtual 358, 3) := by decide +kernel
theorem dX10_act_99 : decode cX10_act 99 = .ok (.ireturn, 1) := by decide +kernel
theorem dX10_act_100 : decode cX10_act 100 = .ok (.iconst 0, 1) := by decide +kernel
theorem dX10_act_101 : decode cX10_act 101 = .ok (.ireturn, 1) := by decide +kernel
theorem dX10_trace_0 : decode cX10_trace 0 = .ok (.iload_n 1, 1) := by decide +kernel
theorem dX10_trace_1 : decode cX10_trace 1 = .ok (.ifCond .lt 26, 3) := by decide +kernel
theorem dX10_trace_4 : decode cX10_trace 4 = .ok (.iload_n 1, 1) := by decide +kernel
theorem dX10_trace_5 : decode cX10_trace 5 = .ok (.aload_n 0, 1) := by decide +kernel
theorem dX10_trace_6 : decode cX10_trace 6 = .ok (.getfield 337, 3) := by decide +kernel
theorem dX10_trace_9 : decode cX10_trace 9 = .ok (.if_icmp .ge 18, 3) := by decide +kernel
theorem dX10_trace_12 : decode cX10_trace 12 = .ok (.iload_n 1, 1) := by decide +kernel
theorem dX10_trace_13 : decode cX10_trace 13 = .ok (.bipush 24, 2) := by decide +kernel
theorem dX10_trace_15 : decode cX10_trace 15 = .ok (.if_icmp .ge 12, 3) := by decide +kernel
theorem dX10_trace_18 : decode cX10_trace 18 = .ok (.aload_n 0, 1) := by decide +kernel
theorem dX10_trace_19 : decode cX10_trace 19 = .ok (.getfield 72, 3) := by decide +kernel
theorem dX10_trace_22 : decode cX10_trace 22 = .ok (.iload_n 1, 1) := by decide +kernel
theorem dX10_trace_23 : decode cX10_trace 23 = .ok (.iaload, 1) := by decide +kernel
theorem dX10_trace_24 : decode cX10_trace 24 = .ok (.goto 4, 3) := by decide +kernel
theorem dX10_trace_27 : decode cX10_trace 27 = .ok (.iconst (-1), 1) := by decide +kernel
theorem dX10_trace_28 : decode cX10_trace 28 = .ok (.ireturn, 1) := by decide +kernel
theorem dX10_isShelf_0 : decode cX10_isShelf 0 = .ok (.iload_n 0, 1) := by decide +kernel
theorem dX10_isShelf_1 : decode cX10_isShelf 1 = .ok (.i2l, 1) := by decide +kernel
theorem dX10_isShelf_2 : decode cX10_isShelf 2 = .ok (.lconst 0, 1) := by decide +kernel
theorem dX10_isShelf_3 : decode cX10_isShelf 3 = .ok (.ldc2_w 129, 3) := by decide +kernel
theorem dX10_isShelf_6 : decode cX10_isShelf 6 = .ok (.invokestatic 101, 3) := by decide +kernel
theorem dX10_isShelf_9 : decode cX10_isShelf 9 = .ok (.ireturn, 1) := by decide +kernel
theorem dX10_keep_0 : decode cX10_keep 0 = .ok (.iload_n 1, 1) := by decide +kernel
theorem dX10_keep_1 : decode cX10_keep 1 = .ok (.invokestatic 125, 3) := by decide +kernel
theorem dX10_keep_4 : decode cX10_keep 4 = .ok (.ifCond .eq 16, 3) := by decide +kernel
theorem dX10_keep_7 : decode cX10_keep 7 = .ok (.iload_n 2, 1) := by decide +kernel
theorem dX10_keep_8 : decode cX10_keep 8 = .ok (.iconst (-1), 1) := by decide +kernel
theorem dX10_keep_9 : decode cX10_keep 9 = .ok (.if_icmp .eq 13, 3) := by decide +kernel
theorem dX10_keep_12 : decode cX10_keep 12 = .ok (.aload_n 0, 1) := by decide +kernel
theorem dX10_keep_13 : decode cX10_keep 13 = .ok (.iload_n 2, 1) := by decide +kernel
theorem dX10_keep_14 : decode cX10_keep 14 = .ok (.invokevirtual 361, 3) := by decide +kernel
theorem dX10_keep_17 : decode cX10_keep 17 = .ok (.ifCond .ne 5, 3) := by decide +kernel
theorem dX10_keep_20 : decode cX10_keep 20 = .ok (.iconst (-1), 1) := by decide +kernel
theorem dX10_keep_21 : decode cX10_keep 21 = .ok (.ireturn, 1) := by decide +kernel
theorem dX10_keep_22 : decode cX10_keep 22 = .ok (.aload_n 0, 1) := by decide +kernel
theorem dX10_keep_23 : decode cX10_keep 23 = .ok (.getfield 75, 3) := by decide +kernel
theorem dX10_keep_26 : decode cX10_keep 26 = .ok (.iload_n 1, 1) := by decide +kernel
theorem dX10_keep_27 : decode cX10_keep 27 = .ok (.iload_n 2, 1) := by decide +kernel
theorem dX10_keep_28 : decode cX10_keep 28 = .ok (.iastore, 1) := by decide +kernel
theorem dX10_keep_29 : decode cX10_keep 29 = .ok (.aload_n 0, 1) := by decide +kernel
theorem dX10_keep_30 : decode cX10_keep 30 = .ok (.getfield 78, 3) := by decide +kernel
theorem dX10_keep_33 : decode cX10_keep 33 = .ok (.iload_n 1, 1) := by decide +kernel
theorem dX10_keep_34 : decode cX10_keep 34 = .ok (.iconst 0, 1) := by decide +kernel
theorem dX10_keep_35 : decode cX10_keep 35 = .ok (.iastore, 1) := by decide +kernel
theorem dX10_keep_36 : decode cX10_keep 36 = .ok (.iconst 1, 1) := by decide +kernel
theorem dX10_keep_37 : decode cX10_keep 37 = .ok (.ireturn, 1) := by decide +kernel
theorem dX10_row_0 : decode cX10_row 0 = .ok (.iload_n 1, 1) := by decide +kernel
theorem dX10_row_1 : decode cX10_row 1 = .ok (.invokestatic 125, 3) := by decide +kernel
theorem dX10_row_4 : decode cX10_row 4 = .ok (.ifCond .eq 21, 3) := by decide +kernel
theorem dX10_row_7 : decode cX10_row 7 = .ok (.iload_n 2, 1) := by decide +kernel
theorem dX10_row_8 : decode cX10_row 8 = .ok (.i2l, 1) := by decide +kernel
theorem dX10_row_9 : decode cX10_row 9 = .ok (.lconst 0, 1) := by decide +kernel
theorem dX10_row_10 : decode cX10_row 10 = .ok (.ldc2_w 116, 3) := by decide +kernel
theorem dX10_row_13 : decode cX10_row 13 = .ok (.invokestatic 101, 3) := by decide +kernel
theorem dX10_row_16 : decode cX10_row 16 = .ok (.ifCond .eq 9, 3) := by decide +kernel
theorem dX10_row_19 : decode cX10_row 19 = .ok (.iload_n 3, 1) := by decide +kernel
theorem dX10_row_20 : decode cX10_row 20 = .ok (.bipush 60, 2) := by decide +kernel
theorem dX10_row_22 : decode cX10_row 22 = .ok (.if_icmp .le 5, 3) := by decide +kernel
theorem dX10_row_25 : decode cX10_row 25 = .ok (.iconst (-1), 1) := by decide +kernel
theorem dX10_row_26 : decode cX10_row 26 = .ok (.ireturn, 1) := by decide +kernel
theorem dX10_row_27 : decode cX10_row 27 = .ok (.iload_n 3, 1) := by decide +kernel
theorem dX10_row_28 : decode cX10_row 28 = .ok (.ifCond .ge 6, 3) := by decide +kernel
theorem dX10_row_31 : decode cX10_row 31 = .ok (.bipush (-14), 2) := by decide +kernel
theorem dX10_row_33 : decode cX10_row 33 = .ok (.ireturn, 1) := by decide +kernel
theorem dX10_row_34 : decode cX10_row 34 = .ok (.aload_n 0, 1) := by decide +kernel
theorem dX10_row_35 : decode cX10_row 35 = .ok (.getfield 75, 3) := by decide +kernel
theorem dX10_row_38 : decode cX10_row 38 = .ok (.iload_n 1, 1) := by decide +kernel
theorem dX10_row_39 : decode cX10_row 39 = .ok (.bipush 50, 2) := by decide +kernel
theorem dX10_row_41 : decode cX10_row 41 = .ok (.iload_n 2, 1) := by decide +kernel
theorem dX10_row_42 : decode cX10_row 42 = .ok (.iadd, 1) := by decide +kernel
theorem dX10_row_43 : decode cX10_row 43 = .ok (.iastore, 1) := by decide +kernel
theorem dX10_row_44 : decode cX10_row 44 = .ok (.aload_n 0, 1) := by decide +kernel
theorem dX10_row_45 : decode cX10_row 45 = .ok (.getfield 78, 3) := by decide +kernel
theorem dX10_row_48 : decode cX10_row 48 = .ok (.iload_n 1, 1) := by decide +kernel
theorem dX10_row_49 : decode cX10_row 49 = .ok (.iload_n 3, 1) := by decide +kernel
theorem dX10_row_50 : decode cX10_row 50 = .ok (.iastore, 1) := by decide +kernel
theorem dX10_row_51 : decode cX10_row 51 = .ok (.bipush 60, 2) := by decide +kernel
theorem dX10_row_53 : decode cX10_row 53 = .ok (.iload_n 1, 1) := by decide +kernel
theorem dX10_row_54 : decode cX10_row 54 = .ok (.imul, 1) := by decide +kernel
theorem dX10_row_55 : decode cX10_row 55 = .ok (.istore 4, 2) := by decide +kernel
theorem dX10_row_57 : decode cX10_row 57 = .ok (.iload 4, 2) := by decide +kernel
theorem dX10_row_59 : decode cX10_row 59 = .ok (.bipush 60, 2) := by decide +kernel
theorem dX10_row_61 : decode cX10_row 61 = .ok (.iload_n 1, 1) := by decide +kernel
theorem dX10_row_62 : decode cX10_row 62 = .ok (.imul, 1) := by decide +kernel
theorem dX10_row_63 : decode cX10_row 63 = .ok (.bipush 60, 2) := by decide +kernel
theorem dX10_row_65 : decode cX10_row 65 = .ok (.iadd, 1) := by decide +kernel
theorem dX10_row_66 : decode cX10_row 66 = .ok (.if_icmp .ge 17, 3) := by decide +kernel
theorem dX10_row_69 : decode cX10_row 69 = .ok (.aload_n 0, 1) := by decide +kernel
theorem dX10_row_70 : decode cX10_row 70 = .ok (.getfield 81, 3) := by decide +kernel
theorem dX10_row_73 : decode cX10_row 73 = .ok (.iload 4, 2) := by decide +kernel
theorem dX10_row_75 : decode cX10_row 75 = .ok (.lconst 0, 1) := by decide +kernel
theorem dX10_row_76 : decode cX10_row 76 = .ok (.lastore, 1) := by decide +kernel
theorem dX10_row_77 : decode cX10_row 77 = .ok (.iinc 4 1, 3) := by decide +kernel
theorem dX10_row_80 : decode cX10_row 80 = .ok (.goto (-23), 3) := by decide +kernel
theorem dX10_row_83 : decode cX10_row 83 = .ok (.iconst 1, 1) := by decide +kernel
theorem dX10_row_84 : decode cX10_row 84 = .ok (.ireturn, 1) := by decide +kernel
theorem dX10_refusal_0 : decode cX10_refusal 0 = .ok (.iload_n 1, 1) := by decide +kernel
theorem dX10_refusal_1 : decode cX10_refusal 1 = .ok (.invokestatic 125, 3) := by decide +kernel
theorem dX10_refusal_4 : decode cX10_refusal 4 = .ok (.ifCond .ne 5, 3) := by decide +kernel
theorem dX10_refusal_7 : decode cX10_refusal 7 = .ok (.iconst (-1), 1) := by decide +kernel
theorem dX10_refusal_8 : decode cX10_refusal 8 = .ok (.ireturn, 1) := by decide +kernel
theorem dX10_refusal_9 : decode cX10_refusal 9 = .ok (.aload_n 0, 1) := by decide +kernel
theorem dX10_refusal_10 : decode cX10_refusal 10 = .ok (.getfield 75, 3) := by decide +kernel
theorem dX10_refusal_13 : decode cX10_refusal 13 = .ok (.iload_n 1, 1) := by decide +kernel
theorem dX10_refusal_14 : decode cX10_refusal 14 = .ok (.iaload, 1) := by decide +kernel
theorem dX10_refusal_15 : decode cX10_refusal 15 = .ok (.ifCond .ge 6, 3) := by decide +kernel
theorem dX10_refusal_18 : decode cX10_refusal 18 = .ok (.bipush (-11), 2) := by decide +kernel
theorem dX10_refusal_20 : decode cX10_refusal 20 = .ok (.ireturn, 1) := by decide +kernel
theorem dX10_refusal_21 : decode cX10_refusal 21 = .ok (.aload_n 0, 1) := by decide +kernel
theorem dX10_refusal_22 : decode cX10_refusal 22 = .ok (.getfield 75, 3) := by decide +kernel
theorem dX10_refusal_25 : decode cX10_refusal 25 = .ok (.iload_n 1, 1) := by decide +kernel
theorem dX10_refusal_26 : decode cX10_refusal 26 = .ok (.iaload, 1) := by decide +kernel
theorem dX10_refusal_27 : decode cX10_refusal 27 = .ok (.bipush 50, 2) := by decide +kernel
theorem dX10_refusal_29 : decode cX10_refusal 29 = .ok (.if_icmp .ge 6, 3) := by decide +kernel
theorem dX10_refusal_32 : decode cX10_refusal 32 = .ok (.bipush (-12), 2) := by decide +kernel
theorem dX10_refusal_34 : decode cX10_refusal 34 = .ok (.ireturn, 1) := by decide +kernel
theorem dX10_refusal_35 : decode cX10_refusal 35 = .ok (.iload_n 2, 1) := by decide +kernel
theorem dX10_refusal_36 : decode cX10_refusal 36 = .ok (.ifCond .lt 17, 3) := by decide +kernel
theorem dX10_refusal_39 : decode cX10_refusal 39 = .ok (.iload_n 2, 1) := by decide +kernel
theorem dX10_refusal_40 : decode cX10_refusal 40 = .ok (.aload_n 0, 1) := by decide +kernel
theorem dX10_refusal_41 : decode cX10_refusal 41 = .ok (.getfield 78, 3) := by decide +kernel
theorem dX10_refusal_44 : decode cX10_refusal 44 = .ok (.iload_n 1, 1) := by decide +kernel
theorem dX10_refusal_45 : decode cX10_refusal 45 = .ok (.iaload, 1) := by decide +kernel
theorem dX10_refusal_46 : decode cX10_refusal 46 = .ok (.if_icmp .ge 7, 3) := by decide +kernel
theorem dX10_refusal_49 : decode cX10_refusal 49 = .ok (.iconst 0, 1) := by decide +kernel
theorem dX10_refusal_50 : decode cX10_refusal 50 = .ok (.goto 5, 3) := by decide +kernel
theorem dX10_refusal_53 : decode cX10_refusal 53 = .ok (.bipush (-13), 2) := by decide +kernel
theorem dX10_refusal_55 : decode cX10_refusal 55 = .ok (.ireturn, 1) := by decide +kernel
theorem dX10_asSort_0 : decode cX10_asSort 0 = .ok (.iload_n 0, 1) := by decide +kernel
theorem dX10_asSort_1 : decode cX10_asSort 1 = .ok (.ifCond .ne 10, 3) := by decide +kernel
theorem dX10_asSort_4 : decode cX10_asSort 4 = .ok (.lload_n 1, 1) := by decide +kernel
theorem dX10_asSort_5 : decode cX10_asSort 5 = .ok (.l2i, 1) := by decide +kernel
theorem dX10_asSort_6 : decode cX10_asSort 6 = .ok (.i2b, 1) := by decide +kernel
theorem dX10_asSort_7 : decode cX10_asSort 7 = .ok (.i2l, 1) := by decide +kernel
theorem dX10_asSort_8 : decode cX10_asSort 8 = .ok (.goto 46, 3) := by decide +kernel
theorem dX10_asSort_11 : decode cX10_asSort 11 = .ok (.iload_n 0, 1) := by decide +kernel
theorem dX10_asSort_12 : decode cX10_asSort 12 = .ok (.iconst 1, 1) := by decide +kernel
theorem dX10_asSort_13 : decode cX10_asSort 13 = .ok (.if_icmp .ne 10, 3) := by decide +kernel
theorem dX10_asSort_16 : decode cX10_asSort 16 = .ok (.lload_n 1, 1) := by decide +kernel
theorem dX10_asSort_17 : decode cX10_asSort 17 = .ok (.l2i, 1) := by decide +kernel
theorem dX10_asSort_18 : decode cX10_asSort 18 = .ok (.i2s, 1) := by decide +kernel
theorem dX10_asSort_19 : decode cX10_asSort 19 = .ok (.i2l, 1) := by decide +kernel
theorem dX10_asSort_20 : decode cX10_asSort 20 = .ok (.goto 34, 3) := by decide +kernel
theorem dX10_asSort_23 : decode cX10_asSort 23 = .ok (.iload_n 0, 1) := by decide +kernel
theorem dX10_asSort_24 : decode cX10_asSort 24 = .ok (.iconst 2, 1) := by decide +kernel
theorem dX10_asSort_25 : decode cX10_asSort 25 = .ok (.if_icmp .ne 9, 3) := by decide +kernel
theorem dX10_asSort_28 : decode cX10_asSort 28 = .ok (.lload_n 1, 1) := by decide +kernel
theorem dX10_asSort_29 : decode cX10_asSort 29 = .ok (.l2i, 1) := by decide +kernel
theorem dX10_asSort_30 : decode cX10_asSort 30 = .ok (.i2l, 1) := by decide +kernel
theorem dX10_asSort_31 : decode cX10_asSort 31 = .ok (.goto 23, 3) := by decide +kernel
theorem dX10_asSort_34 : decode cX10_asSort 34 = .ok (.iload_n 0, 1) := by decide +kernel
theorem dX10_asSort_35 : decode cX10_asSort 35 = .ok (.iconst 4, 1) := by decide +kernel
theorem dX10_asSort_36 : decode cX10_asSort 36 = .ok (.if_icmp .ne 17, 3) := by decide +kernel
theorem dX10_asSort_39 : decode cX10_asSort 39 = .ok (.lload_n 1, 1) := by decide +kernel
theorem dX10_asSort_40 : decode cX10_asSort 40 = .ok (.lconst 0, 1) := by decide +kernel
theorem dX10_asSort_41 : decode cX10_asSort 41 = .ok (.lcmp, 1) := by decide +kernel
theorem dX10_asSort_42 : decode cX10_asSort 42 = .ok (.ifCond .eq 7, 3) := by decide +kernel
theorem dX10_asSort_45 : decode cX10_asSort 45 = .ok (.lconst 1, 1) := by decide +kernel
theorem dX10_asSort_46 : decode cX10_asSort 46 = .ok (.goto 8, 3) := by decide +kernel
theorem dX10_asSort_49 : decode cX10_asSort 49 = .ok (.lconst 0, 1) := by decide +kernel
theorem dX10_asSort_50 : decode cX10_asSort 50 = .ok (.goto 4, 3) := by decide +kernel
theorem dX10_asSort_53 : decode cX10_asSort 53 = .ok (.lload_n 1, 1) := by decide +kernel
theorem dX10_asSort_54 : decode cX10_asSort 54 = .ok (.lreturn, 1) := by decide +kernel
theorem dX10_put_0 : decode cX10_put 0 = .ok (.aload_n 0, 1) := by decide +kernel
theorem dX10_put_1 : decode cX10_put 1 = .ok (.iload_n 1, 1) := by decide +kernel
theorem dX10_put_2 : decode cX10_put 2 = .ok (.iload_n 2, 1) := by decide +kernel
theorem dX10_put_3 : decode cX10_put 3 = .ok (.invokevirtual 364, 3) := by decide +kernel
theorem dX10_put_6 : decode cX10_put 6 = .ok (.istore 5, 2) := by decide +kernel
theorem dX10_put_8 : decode cX10_put 8 = .ok (.iload 5, 2) := by decide +kernel
theorem dX10_put_10 : decode cX10_put 10 = .ok (.ifCond .ne 27, 3) := by decide +kernel
theorem dX10_put_13 : decode cX10_put 13 = .ok (.aload_n 0, 1) := by decide +kernel
theorem dX10_put_14 : decode cX10_put 14 = .ok (.getfield 81, 3) := by decide +kernel
theorem dX10_put_17 : decode cX10_put 17 = .ok (.bipush 60, 2) := by decide +kernel
theorem dX10_put_19 : decode cX10_put 19 = .ok (.iload_n 1, 1) := by decide +kernel
theorem dX10_put_20 : decode cX10_put 20 = .ok (.imul, 1) := by decide +kernel
theorem dX10_put_21 : decode cX10_put 21 = .ok (.iload_n 2, 1) := by decide +kernel
theorem dX10_put_22 : decode cX10_put 22 = .ok (.iadd, 1) := by decide +kernel
theorem dX10_put_23 : decode cX10_put 23 = .ok (.aload_n 0, 1) := by decide +kernel
theorem dX10_put_24 : decode cX10_put 24 = .ok (.getfield 75, 3) := by decide +kernel
theorem dX10_put_27 : decode cX10_put 27 = .ok (.iload_n 1, 1) := by decide +kernel
theorem dX10_put_28 : decode cX10_put 28 = .ok (.iaload, 1) := by decide +kernel
theorem dX10_put_29 : decode cX10_put 29 = .ok (.bipush 50, 2) := by decide +kernel
theorem dX10_put_31 : decode cX10_put 31 = .ok (.isub, 1) := by decide +kernel
theorem dX10_put_32 : decode cX10_put 32 = .ok (.lload_n 3, 1) := by decide +kernel
theorem dX10_put_33 : decode cX10_put 33 = .ok (.invokestatic 367, 3) := by decide +kernel
theorem dX10_put_36 : decode cX10_put 36 = .ok (.lastore, 1) := by decide +kernel
theorem dX10_put_37 : decode cX10_put 37 = .ok (.iload 5, 2) := by decide +kernel
theorem dX10_put_39 : decode cX10_put 39 = .ok (.ifCond .ne 7, 3) := by decide +kernel
theorem dX10_put_42 : decode cX10_put 42 = .ok (.iconst 1, 1) := by decide +kernel
theorem dX10_put_43 : decode cX10_put 43 = .ok (.goto 5, 3) := by decide +kernel
theorem dX10_put_46 : decode cX10_put 46 = .ok (.iload 5, 2) := by decide +kernel
theorem dX10_put_48 : decode cX10_put 48 = .ok (.ireturn, 1) := by decide +kernel
theorem dX10_element_0 : decode cX10_element 0 = .ok (.aload_n 0, 1) := by decide +kernel
theorem dX10_element_1 : decode cX10_element 1 = .ok (.iload_n 1, 1) := by decide +kernel
theorem dX10_element_2 : decode cX10_element 2 = .ok (.iload_n 2, 1) := by decide +kernel
theorem dX10_element_3 : decode cX10_element 3 = .ok (.invokevirtual 364, 3) := by decide +kernel
theorem dX10_element_6 : decode cX10_element 6 = .ok (.ifCond .eq 9, 3) := by decide +kernel
theorem dX10_element_9 : decode cX10_element 9 = .ok (.ldc2_w 320, 3) := by decide +kernel
theorem dX10_element_12 : decode cX10_element 12 = .ok (.goto 14, 3) := by decide +kernel
theorem dX10_element_15 : decode cX10_element 15 = .ok (.aload_n 0, 1) := by decide +kernel
theorem dX10_element_16 : decode cX10_element 16 = .ok (.getfield 81, 3) := by decide +kernel
theorem dX10_element_19 : decode cX10_element 19 = .ok (.bipush 60, 2) := by decide +kernel
theorem dX10_element_21 : decode cX10_element 21 = .ok (.iload_n 1, 1) := by decide +kernel
theorem dX10_element_22 : decode cX10_element 22 = .ok (.imul, 1) := by decide +kernel
theorem dX10_element_23 : decode cX10_element 23 = .ok (.iload_n 2, 1) := by decide +kernel
theorem dX10_element_24 : decode cX10_element 24 = .ok (.iadd, 1) := by decide +kernel
theorem dX10_element_25 : decode cX10_element 25 = .ok (.laload, 1) := by decide +kernel
theorem dX10_element_26 : decode cX10_element 26 = .ok (.lreturn, 1) := by decide +kernel
theorem dX10_shift_0 : decode cX10_shift 0 = .ok (.iload_n 1, 1) := by decide +kernel
theorem dX10_shift_1 : decode cX10_shift 1 = .ok (.invokestatic 125, 3) := by decide +kernel
theorem dX10_shift_4 : decode cX10_shift 4 = .ok (.ifCond .eq 10, 3) := by decide +kernel
theorem dX10_shift_7 : decode cX10_shift 7 = .ok (.iload_n 3, 1) := by decide +kernel
theorem dX10_shift_8 : decode cX10_shift 8 = .ok (.invokestatic 125, 3) := by decide +kernel
theorem dX10_shift_11 : decode cX10_shift 11 = .ok (.ifCond .ne 5, 3) := by decide +kernel
theorem dX10_shift_14 : decode cX10_shift 14 = .ok (.iconst (-1), 1) := by decide +kernel
theorem dX10_shift_15 : decode cX10_shift 15 = .ok (.ireturn, 1) := by decide +kernel
theorem dX10_shift_16 : decode cX10_shift 16 = .ok (.aload_n 0, 1) := by decide +kernel
theorem dX10_shift_17 : decode cX10_shift 17 = .ok (.getfield 75, 3) := by decide +kernel
theorem dX10_shift_20 : decode cX10_shift 20 = .ok (.iload_n 1, 1) := by decide +kernel
theorem dX10_shift_21 : decode cX10_shift 21 = .ok (.iaload, 1) := by decide +kernel
theorem dX10_shift_22 : decode cX10_shift 22 = .ok (.ifCond .lt 12, 3) := by decide +kernel
theorem dX10_shift_25 : decode cX10_shift 25 = .ok (.aload_n 0, 1) := by decide +kernel
theorem dX10_shift_26 : decode cX10_shift 26 = .ok (.getfield 75, 3) := by decide +kernel
theorem dX10_shift_29 : decode cX10_shift 29 = .ok (.iload_n 3, 1) := by decide +kernel
theorem dX10_shift_30 : decode cX10_shift 30 = .ok (.iaload, 1) := by decide +kernel
theorem dX10_shift_31 : decode cX10_shift 31 = .ok (.ifCond .ge 6, 3) := by decide +kernel
theorem dX10_shift_34 : decode cX10_shift 34 = .ok (.bipush (-11), 2) := by decide +kernel
theorem dX10_shift_36 : decode cX10_shift 36 = .ok (.ireturn, 1) := by decide +kernel
theorem dX10_shift_37 : decode cX10_shift 37 = .ok (.aload_n 0, 1) := by decide +kernel
theorem dX10_shift_38 : decode cX10_shift 38 = .ok (.getfield 75, 3) := by decide +kernel
theorem dX10_shift_41 : decode cX10_shift 41 = .ok (.iload_n 1, 1) := by decide +kernel
theorem dX10_shift_42 : decode cX10_shift 42 = .ok (.iaload, 1) := by decide +kernel
theorem dX10_shift_43 : decode cX10_shift 43 = .ok (.bipush 50, 2) := by decide +kernel
theorem dX10_shift_45 : decode cX10_shift 45 = .ok (.if_icmp .lt 18, 3) := by decide +kernel
theorem dX10_shift_48 : decode cX10_shift 48 = .ok (.aload_n 0, 1) := by decide +kernel
theorem dX10_shift_49 : decode cX10_shift 49 = .ok (.getfield 75, 3) := by decide +kernel
theorem dX10_shift_52 : decode cX10_shift 52 = .ok (.iload_n 1, 1) := by decide +kernel
theorem dX10_shift_53 : decode cX10_shift 53 = .ok (.iaload, 1) := by decide +kernel
theorem dX10_shift_54 : decode cX10_shift 54 = .ok (.aload_n 0, 1) := by decide +kernel
theorem dX10_shift_55 : decode cX10_shift 55 = .ok (.getfield 75, 3) := by decide +kernel
theorem dX10_shift_58 : decode cX10_shift 58 = .ok (.iload_n 3, 1) := by decide +kernel
theorem dX10_shift_59 : decode cX10_shift 59 = .ok (.iaload, 1) := by decide +kernel
theorem dX10_shift_60 : decode cX10_shift 60 = .ok (.if_icmp .eq 6, 3) := by decide +kernel
theorem dX10_shift_63 : decode cX10_shift 63 = .ok (.bipush (-12), 2) := by decide +kernel
theorem dX10_shift_65 : decode cX10_shift 65 = .ok (.ireturn, 1) := by decide +kernel
theorem dX10_shift_66 : decode cX10_shift 66 = .ok (.iload 5, 2) := by decide +kernel
theorem dX10_shift_68 : decode cX10_shift 68 = .ok (.ifCond .lt 39, 3) := by decide +kernel
theorem dX10_shift_71 : decode cX10_shift 71 = .ok (.iload_n 2, 1) := by decide +kernel
theorem dX10_shift_72 : decode cX10_shift 72 = .ok (.ifCond .lt 35, 3) := by decide +kernel
theorem dX10_shift_75 : decode cX10_shift 75 = .ok (.iload 4, 2) := by decide +kernel
theorem dX10_shift_77 : decode cX10_shift 77 = .ok (.ifCond .lt 30, 3) := by decide +kernel
theorem dX10_shift_80 : decode cX10_shift 80 = .ok (.iload_n 2, 1) := by decide +kernel
theorem dX10_shift_81 : decode cX10_shift 81 = .ok (.aload_n 0, 1) := by decide +kernel
theorem dX10_shift_82 : decode cX10_shift 82 = .ok (.getfield 78, 3) := by decide +kernel
theorem dX10_shift_85 : decode cX10_shift 85 = .ok (.iload_n 1, 1) := by decide +kernel
theorem dX10_shift_86 : decode cX10_shift 86 = .ok (.iaload, 1) := by decide +kernel
theorem dX10_shift_87 : decode cX10_shift 87 = .ok (.iload 5, 2) := by decide +kernel
theorem dX10_shift_89 : decode cX10_shift 89 = .ok (.isub, 1) := by decide +kernel
theorem dX10_shift_90 : decode cX10_shift 90 = .ok (.if_icmp .gt 17, 3) := by decide +kernel
theorem dX10_shift_93 : decode cX10_shift 93 = .ok (.iload 4, 2) := by decide +kernel
theorem dX10_shift_95 : decode cX10_shift 95 = .ok (.aload_n 0, 1) := by decide +kernel
theorem dX10_shift_96 : decode cX10_shift 96 = .ok (.getfield 78, 3) := by decide +kernel
theorem dX10_shift_99 : decode cX10_shift 99 = .ok (.iload_n 3, 1) := by decide +kernel
theorem dX10_shift_100 : decode cX10_shift 100 = .ok (.iaload, 1) := by decide +kernel
theorem dX10_shift_101 : decode cX10_shift 101 = .ok (.iload 5, 2) := by decide +kernel
theorem dX10_shift_103 : decode cX10_shift 103 = .ok (.isub, 1) := by decide +kernel
theorem dX10_shift_104 : decode cX10_shift 104 = .ok (.if_icmp .le 6, 3) := by decide +kernel
theorem dX10_shift_107 : decode cX10_shift 107 = .ok (.bipush (-13), 2) := by decide +kernel
theorem dX10_shift_109 : decode cX10_shift 109 = .ok (.ireturn, 1) := by decide +kernel
theorem dX10_shift_110 : decode cX10_shift 110 = .ok (.iconst 0, 1) := by decide +kernel
theorem dX10_shift_111 : decode cX10_shift 111 = .ok (.istore 6, 2) := by decide +kernel
theorem dX10_shift_113 : decode cX10_shift 113 = .ok (.iload 6, 2) := by decide +kernel
theorem dX10_shift_115 : decode cX10_shift 115 = .ok (.iload 5, 2) := by decide +kernel
theorem dX10_shift_117 : decode cX10_shift 117 = .ok (.if_icmp .ge 30, 3) := by decide +kernel
theorem dX10_shift_120 : decode cX10_shift 120 = .ok (.aload_n 0, 1) := by decide +kernel
theorem dX10_shift_121 : decode cX10_shift 121 = .ok (.getfield 85, 3) := by decide +kernel
theorem dX10_shift_124 : decode cX10_shift 124 = .ok (.iload 6, 2) := by decide +kernel
theorem dX10_shift_126 : decode cX10_shift 126 = .ok (.aload_n 0, 1) := by decide +kernel
theorem dX10_shift_127 : decode cX10_shift 127 = .ok (.getfield 81, 3) := by decide +kernel
theorem dX10_shift_130 : decode cX10_shift 130 = .ok (.bipush 60, 2) := by decide +kernel
theorem dX10_shift_132 : decode cX10_shift 132 = .ok (.iload_n 1, 1) := by decide +kernel
theorem dX10_shift_133 : decode cX10_shift 133 = .ok (.imul, 1) := by decide +kernel
theorem dX10_shift_134 : decode cX10_shift 134 = .ok (.iload_n 2, 1) := by decide +kernel
theorem dX10_shift_135 : decode cX10_shift 135 = .ok (.iadd, 1) := by decide +kernel
theorem dX10_shift_136 : decode cX10_shift 136 = .ok (.iload 6, 2) := by decide +kernel
theorem dX10_shift_138 : decode cX10_shift 138 = .ok (.iadd, 1) := by decide +kernel
theorem dX10_shift_139 : decode cX10_shift 139 = .ok (.laload, 1) := by decide +kernel
theorem dX10_shift_140 : decode cX10_shift 140 = .ok (.lastore, 1) := by decide +kernel
theorem dX10_shift_141 : decode cX10_shift 141 = .ok (.iinc 6 1, 3) := by decide +kernel
theorem dX10_shift_144 : decode cX10_shift 144 = .ok (.goto (-31), 3) := by decide +kernel
theorem dX10_shift_147 : decode cX10_shift 147 = .ok (.iconst 0, 1) := by decide +kernel
theorem dX10_shift_148 : decode cX10_shift 148 = .ok (.istore 6, 2) := by decide +kernel
theorem dX10_shift_150 : decode cX10_shift 150 = .ok (.iload 6, 2) := by decide +kernel
theorem dX10_shift_152 : decode cX10_shift 152 = .ok (.iload 5, 2) := by decide +kernel
theorem dX10_shift_154 : decode cX10_shift 154 = .ok (.if_icmp .ge 31, 3) := by decide +kernel
theorem dX10_shift_157 : decode cX10_shift 157 = .ok (.aload_n 0, 1) := by decide +kernel
theorem dX10_shift_158 : decode cX10_shift 158 = .ok (.getfield 81, 3) := by decide +kernel
theorem dX10_shift_161 : decode cX10_shift 161 = .ok (.bipush 60, 2) := by decide +kernel
theorem dX10_shift_163 : decode cX10_shift 163 = .ok (.iload_n 3, 1) := by decide +kernel
theorem dX10_shift_164 : decode cX10_shift 164 = .ok (.imul, 1) := by decide +kernel
theorem dX10_shift_165 : decode cX10_shift 165 = .ok (.iload 4, 2) := by decide +kernel
theorem dX10_shift_167 : decode cX10_shift 167 = .ok (.iadd, 1) := by decide +kernel
theorem dX10_shift_168 : decode cX10_shift 168 = .ok (.iload 6, 2) := by decide +kernel
theorem dX10_shift_170 : decode cX10_shift 170 = .ok (.iadd, 1) := by decide +kernel
theorem dX10_shift_171 : decode cX10_shift 171 = .ok (.aload_n 0, 1) := by decide +kernel
theorem dX10_shift_172 : decode cX10_shift 172 = .ok (.getfield 85, 3) := by decide +kernel
theorem dX10_shift_175 : decode cX10_shift 175 = .ok (.iload 6, 2) := by decide +kernel
theorem dX10_shift_177 : decode cX10_shift 177 = .ok (.laload, 1) := by decide +kernel
theorem dX10_shift_178 : decode cX10_shift 178 = .ok (.lastore, 1) := by decide +kernel
theorem dX10_shift_179 : decode cX10_shift 179 = .ok (.iinc 6 1, 3) := by decide +kernel
theorem dX10_shift_182 : decode cX10_shift 182 = .ok (.goto (-32), 3) := by decide +kernel
theorem dX10_shift_185 : decode cX10_shift 185 = .ok (.iload 5, 2) := by decide +kernel
theorem dX10_shift_187 : decode cX10_shift 187 = .ok (.ireturn, 1) := by decide +kernel
theorem dX10_taken_0 : decode cX10_taken 0 = .ok (.iload_n 1, 1) := by decide +kernel
theorem dX10_taken_1 : decode cX10_taken 1 = .ok (.invokestatic 125, 3) := by decide +kernel
theorem dX10_taken_4 : decode cX10_taken 4 = .ok (.ifCond .eq 15, 3) := by decide +kernel
theorem dX10_taken_7 : decode cX10_taken 7 = .ok (.iload_n 2, 1) := by decide +kernel
theorem dX10_taken_8 : decode cX10_taken 8 = .ok (.i2l, 1) := by decide +kernel
theorem dX10_taken_9 : decode cX10_taken 9 = .ok (.lconst 0, 1) := by decide +kernel
theorem dX10_taken_10 : decode cX10_taken 10 = .ok (.ldc2_w 143, 3) := by decide +kernel
theorem dX10_taken_13 : decode cX10_taken 13 = .ok (.invokestatic 101, 3) := by decide +kernel
theorem dX10_taken_16 : decode cX10_taken 16 = .ok (.ifCond .ne 5, 3) := by decide +kernel
theorem dX10_taken_19 : decode cX10_taken 19 = .ok (.iconst (-1), 1) := by decide +kernel
theorem dX10_taken_20 : decode cX10_taken 20 = .ok (.ireturn, 1) := by decide +kernel
theorem dX10_taken_21 : decode cX10_taken 21 = .ok (.aload_n 0, 1) := by decide +kernel
theorem dX10_taken_22 : decode cX10_taken 22 = .ok (.getfield 75, 3) := by decide +kernel
theorem dX10_taken_25 : decode cX10_taken 25 = .ok (.iload_n 1, 1) := by decide +kernel
theorem dX10_taken_26 : decode cX10_taken 26 = .ok (.iaload, 1) := by decide +kernel
theorem dX10_taken_27 : decode cX10_taken 27 = .ok (.ifCond .ge 6, 3) := by decide +kernel
theorem dX10_taken_30 : decode cX10_taken 30 = .ok (.bipush (-11), 2) := by decide +kernel
theorem dX10_taken_32 : decode cX10_taken 32 = .ok (.ireturn, 1) := by decide +kernel
theorem dX10_taken_33 : decode cX10_taken 33 = .ok (.aload_n 0, 1) := by decide +kernel
theorem dX10_taken_34 : decode cX10_taken 34 = .ok (.getfield 75, 3) := by decide +kernel
theorem dX10_taken_37 : decode cX10_taken 37 = .ok (.iload_n 1, 1) := by decide +kernel
theorem dX10_taken_38 : decode cX10_taken 38 = .ok (.iaload, 1) := by decide +kernel
theorem dX10_taken_39 : decode cX10_taken 39 = .ok (.bipush 50, 2) := by decide +kernel
theorem dX10_taken_41 : decode cX10_taken 41 = .ok (.if_icmp .lt 6, 3) := by decide +kernel
theorem dX10_taken_44 : decode cX10_taken 44 = .ok (.bipush (-12), 2) := by decide +kernel
theorem dX10_taken_46 : decode cX10_taken 46 = .ok (.ireturn, 1) := by decide +kernel
theorem dX10_taken_47 : decode cX10_taken 47 = .ok (.aload_n 0, 1) := by decide +kernel
theorem dX10_taken_48 : decode cX10_taken 48 = .ok (.aload_n 0, 1) := by decide +kernel
theorem dX10_taken_49 : decode cX10_taken 49 = .ok (.getfield 75, 3) := by decide +kernel
theorem dX10_taken_52 : decode cX10_taken 52 = .ok (.iload_n 1, 1) := by decide +kernel
theorem dX10_taken_53 : decode cX10_taken 53 = .ok (.iaload, 1) := by decide +kernel
theorem dX10_taken_54 : decode cX10_taken 54 = .ok (.invokevirtual 371, 3) := by decide +kernel
theorem dX10_taken_57 : decode cX10_taken 57 = .ok (.istore_n 3, 1) := by decide +kernel
theorem dX10_taken_58 : decode cX10_taken 58 = .ok (.iload_n 3, 1) := by decide +kernel
theorem dX10_taken_59 : decode cX10_taken 59 = .ok (.iload_n 2, 1) := by decide +kernel
theorem dX10_taken_60 : decode cX10_taken 60 = .ok (.if_icmp .eq 15, 3) := by decide +kernel
theorem dX10_taken_63 : decode cX10_taken 63 = .ok (.iload_n 3, 1) := by decide +kernel
theorem dX10_taken_64 : decode cX10_taken 64 = .ok (.ifCond .le 11, 3) := by decide +kernel
theorem dX10_taken_67 : decode cX10_taken 67 = .ok (.iload_n 3, 1) := by decide +kernel
theorem dX10_taken_68 : decode cX10_taken 68 = .ok (.invokestatic 374, 3) := by decide +kernel
theorem dX10_taken_71 : decode cX10_taken 71 = .ok (.istore_n 3, 1) := by decide +kernel
theorem dX10_taken_72 : decode cX10_taken 72 = .ok (.goto (-14), 3) := by decide +kernel
theorem dX10_taken_75 : decode cX10_taken 75 = .ok (.iload_n 3, 1) := by decide +kernel
theorem dX10_taken_76 : decode cX10_taken 76 = .ok (.iload_n 2, 1) := by decide +kernel
theorem dX10_taken_77 : decode cX10_taken 77 = .ok (.if_icmp .ne 16, 3) := by decide +kernel
theorem dX10_taken_80 : decode cX10_taken 80 = .ok (.aload_n 0, 1) := by decide +kernel
theorem dX10_taken_81 : decode cX10_taken 81 = .ok (.aload_n 0, 1) := by decide +kernel
theorem dX10_taken_82 : decode cX10_taken 82 = .ok (.getfield 75, 3) := by decide +kernel
theorem dX10_taken_85 : decode cX10_taken 85 = .ok (.iload_n 1, 1) := by decide +kernel
theorem dX10_taken_86 : decode cX10_taken 86 = .ok (.iaload, 1) := by decide +kernel
theorem dX10_taken_87 : decode cX10_taken 87 = .ok (.invokevirtual 371, 3) := by decide +kernel
theorem dX10_taken_90 : decode cX10_taken 90 = .ok (.goto 5, 3) := by decide +kernel
theorem dX10_taken_93 : decode cX10_taken 93 = .ok (.bipush (-12), 2) := by decide +kernel
theorem dX10_taken_95 : decode cX10_taken 95 = .ok (.ireturn, 1) := by decide +kernel
theorem dX10_count_0 : decode cX10_count 0 = .ok (.iload_n 1, 1) := by decide +kernel
theorem dX10_count_1 : decode cX10_count 1 = .ok (.tableswitch 72 0 5 #[39, 44, 52, 57, 62, 67], 39) := by decide +kernel
theorem dX10_count_40 : decode cX10_count 40 = .ok (.aload_n 0, 1) := by decide +kernel
theorem dX10_count_41 : decode cX10_count 41 = .ok (.getfield 109, 3) := by decide +kernel
theorem dX10_count_44 : decode cX10_count 44 = .ok (.ireturn, 1) := by decide +kernel
theorem dX10_count_45 : decode cX10_count 45 = .ok (.aload_n 0, 1) := by decide +kernel
theorem dX10_count_46 : decode cX10_count 46 = .ok (.invokevirtual 246, 3) := by decide +kernel
theorem dX10_count_49 : decode cX10_count 49 = .ok (.invokestatic 261, 3) := by decide +kernel
theorem dX10_count_52 : decode cX10_count 52 = .ok (.ireturn, 1) := by decide +kernel
theorem dX10_count_53 : decode cX10_count 53 = .ok (.aload_n 0, 1) := by decide +kernel
theorem dX10_count_54 : decode cX10_count 54 = .ok (.getfield 162, 3) := by decide +kernel
theorem dX10_count_57 : decode cX10_count 57 = .ok (.ireturn, 1) := by decide +kernel
theorem dX10_count_58 : decode cX10_count 58 = .ok (.aload_n 0, 1) := by decide +kernel
theorem dX10_count_59 : decode cX10_count 59 = .ok (.getfield 91, 3) := by decide +kernel
theorem dX10_count_62 : decode cX10_count 62 = .ok (.ireturn, 1) := by decide +kernel
theorem dX10_count_63 : decode cX10_count 63 = .ok (.aload_n 0, 1) := by decide +kernel
theorem dX10_count_64 : decode cX10_count 64 = .ok (.getfield 334, 3) := by decide +kernel
theorem dX10_count_67 : decode cX10_count 67 = .ok (.ireturn, 1) := by decide +kernel
theorem dX10_count_68 : decode cX10_count 68 = .ok (.aload_n 0, 1) := by decide +kernel
theorem dX10_count_69 : decode cX10_count 69 = .ok (.getfield 337, 3) := by decide +kernel
theorem dX10_count_72 : decode cX10_count 72 = .ok (.ireturn, 1) := by decide +kernel
theorem dX10_count_73 : decode cX10_count 73 = .ok (.iconst (-1), 1) := by decide +kernel
theorem dX10_count_74 : decode cX10_count 74 = .ok (.ireturn, 1) := by decide +kernel
end
section
/-! a world as two functions (ints by place and index, longs by place and index) over a list of shapes; places are addresses from a base on -/
abbrev xS : Type := (Nat × List (Option (Option Nat))) ⊕ (Nat × Nat × (Nat → Option Nat))
abbrev xM : Type := Nat → Nat → Int32
abbrev xJ : Type := Nat → Nat → Int64
abbrev xQ : Type := Option Value → List xS → xM → xJ → Prop
abbrev xG : Type := va_G × (Nat → ClassId) × Nat × (Nat → Nat) × Nat × (Nat → Int32)
def x_ad (G : xG) (p : Nat) : Nat := if p < 1000 then G.2.2.1 + p else G.2.2.2.1 (p - 1000)
def x_rn (G : xG) : Value → Value
  | .ref p => .ref (x_ad G p)
  | v => v
def x_rl (G : xG) (q : Nat × Value) : Nat × Value := (q.1, x_rn G q.2)
def x_A (G : xG) : Nat → Prop := fun q => G.2.2.1 ≤ q
def x_row (M : xM) (p : Nat) (r : Nat → Int32) : xM := fun q => if q = p then r else M q
def x_up (M : xM) (p k : Nat) (v : Int32) : xM := x_row M p (upd (M p) k v)
def x_rowJ (J : xJ) (p : Nat) (r : Nat → Int64) : xJ := fun q => if q = p then r else J q
def x_upJ (J : xJ) (p k : Nat) (v : Int64) : xJ := x_rowJ J p (vp_updL (J p) k v)
def x_fs (G : xG) (M : xM) (p : Nat) (fs : List (Option (Option Nat))) : List Value :=
  fs.mapIdx fun k o => match o with
    | none => .int (M p k)
    | some r => va_rf (r.map (x_ad G))
def x_e (G : xG) (M : xM) (J : xJ) (p : Nat) (e : xS) : va_E := match e with
  | .inl (ci, fs) => .inr (ci, x_fs G M p fs)
  | .inr (t, n, f) => .inl (G.2.1 t, n, if t < 2 then .inl (M p) else if t = 2 then .inr (.inl (J p)) else .inr (.inr (.inr (.inr (fun i => (f i).map (x_ad G))))))
def x_w (G : xG) (sh : List xS) (M : xM) (J : xJ) : va_W := sh.mapIdx fun p e => (x_ad G p, x_e G M J p e)
/-- how many cells stand when both objects are made -/
def x_N : Nat := 87
def x_R (G : xG) (sh : List xS) (M : xM) (J : xJ) (H : Heap) : Prop := va_P G.1 vwCl (x_w G sh M J) H ∧ (sh.length < x_N → H.size = G.2.2.1 + sh.length) ∧ sh.length ≤ 900
def x_ty (G : xG) : List (ClassId × FieldType) := [(G.2.1 0, .int), (G.2.1 1, .boolean), (G.2.1 2, .long), (G.2.1 3, .object RX2), (G.2.1 4, .object RX6)]
def x_tyOf : Nat → FieldType
  | 0 => .int
  | 1 => .boolean
  | 2 => .long
  | 3 => .object RX2
  | _ => .object RX6
def x_K (G : xG) (U : State) : Prop := va_K G.1 vwCl (x_ty G) U
def x_above : List Int32 := [-1, 0, 0, 2, 1, 3, 0, 4]
def x_own : List Int32 := [1, 10, 11, 2, 20, 0, 0, 0, 0, 30, 0, 0, 0, 41, 40, 0, 0, 0, 50, 0, 0, 0, 0, 60, 70, 0, 0, 0, 0, 80, 0, 81]
def x_St (G : xG) (U : State) (H : Heap) : Prop :=
  va_Z RX8 "ABOVE" "[I" (.ref (G.2.2.2.1 0)) (x_A G) U H ∧ va_T .int (G.2.2.2.1 0) 8 (fun j => .int (x_above.getD j 0)) (x_A G) U H ∧
  va_Z RX8 "OWN" "[I" (.ref (G.2.2.2.1 1)) (x_A G) U H ∧ va_T .int (G.2.2.2.1 1) 32 (fun j => .int (x_own.getD j 0)) (x_A G) U H
def xU : List Cond := lw_tbl.filter goodWord
theorem x_good {y : MethodName} {b : ByteArray} {n : Nat} {r : Option FieldType} (h : Cond.code y b n r ∈ xU) : GoodIn xU (Cond.code y b n r :: xU) := by
  intro w hw
  have hw2 : w ∈ xU := by
    rcases List.mem_cons.mp hw with e | e
    · rw [e]; exact h
    · exact e
  exact ⟨hw2, good_of_word (List.mem_filter.mp hw2).2⟩
theorem x_mem {w : Cond} {t : List Cond} (i : Nat) (ht : ∀ w ∈ t, w ∈ lw_tbl) (hi : t[i]? = some w) (hg : goodWord w = true) : w ∈ xU := List.mem_filter.mpr ⟨ht w (List.mem_of_getElem? hi), hg⟩
/-! what holds at every point of a method's body -/
def x_C (G : xG) (f : xF) (d mc ms : Nat) (p : Program) (R : Room) (s : State) (m : MethodId) (args : Array Value) (meth : Method) (c : Code) : Prop :=
  p.tables.exec = Jvm.exec ∧ c.code = f.2.1 ∧ c.maxLocals = f.2.2.1 ∧ meth.sig.returnType = f.2.2.2 ∧ s.vm.findClass f.1.cls = some m.cls ∧ (∀ w ∈ xU, w.before args s = true) ∧ x_K G s ∧ x_St G s s.heap ∧
  (d ≤ R.frames ∧ 40 * d ≤ R.locals ∧ mc = R.cells ∧ ms = R.slots) ∧ G.2.2.1 ≤ s.heap.size ∧ (f.1.name = "<init>" → meth.name = "<init>") ∧
  (f.1.cls = RL → va_X (G.2.2.2.1 2) G.2.2.2.2.1 G.2.2.2.2.2 s s.heap ∧ G.2.2.2.1 2 < s.heap.size ∧ ¬ x_A G (G.2.2.2.1 2))
/-- how a method may end -/
def x_rop (f : xF) (pc : Nat) (v : Option Value) : Prop :=
  (f.2.2.2 = none ∧ v = none ∧ decode f.2.1 pc = .ok (.return_, 1)) ∨ (∃ ty x, f.2.2.2 = some ty ∧ v = some (.int x) ∧ narrow ty (.int x) = .int x ∧ decode f.2.1 pc = .ok (.ireturn, 1)) ∨
  (∃ x, f.2.2.2 = some .long ∧ v = some (.long x) ∧ decode f.2.1 pc = .ok (.lreturn, 1)) ∨ (∃ C a, f.2.2.2 = some (.object C) ∧ v = some (.ref a) ∧ decode f.2.1 pc = .ok (.areturn, 1))
def x_ret (l : Launch) (G : xG) (f : xF) (mc ms : Nat) (Q : xQ) (p : Program) (e : Env) (R : Room) (s : State) (m : MethodId) (args : Array Value) (below : List Frame) (meth : Method) (c : Code) (WQ : State → Prop) : Prop :=
  ∀ (v : Option Value) (sh : List xS) (M : xM) (J : xJ) (H : Heap) (locs : List Loc) (kc ks pc : Nat) (arr : Array Slot), Q v sh M J → kc ≤ mc → ks ≤ ms → x_R G sh M J H → va_S (x_A G) s.heap H locs → x_rop f pc v →
    W p l e R s m args below meth c H locs kc ks WQ (F0 m pc arr (v.map (x_rn G)).toList)
/-- from here on the method's body comes to its end with Q -/
def x_X (l : Launch) (G : xG) (f : xF) (d mc ms : Nat) (Q : xQ) (pc : Nat) (ls : List (Nat × Value)) (st : List Value) (sh : List xS) (M : xM) (J : xJ) (kc ks : Nat) : Prop :=
  ∀ (p : Program) (e : Env) (R : Room) (s : State) (m : MethodId) (args : Array Value) (below : List Frame) (meth : Method) (c : Code) (H : Heap) (locs : List Loc) (WQ : State → Prop) (arr : Array Slot),
    x_C G f d mc ms p R s m args meth c → x_ret l G f mc ms Q p e R s m args below meth c WQ → x_R G sh M J H → va_S (x_A G) s.heap H locs → kc ≤ mc → ks ≤ ms → lv_has arr f.2.2.1 (ls.map (x_rl G)) →
    W p l e R s m args below meth c H locs kc ks WQ (F0 m pc arr (st.map (x_rn G)))
def x_rm (d mc ms : Nat) : Room := { frames := d, cells := mc, slots := ms, locals := 40 * d }
def x_Pre (G : xG) (sh : List xS) (M : xM) (J : xJ) (U : State) : Prop := x_R G sh M J U.heap ∧ x_K G U ∧ x_St G U U.heap
def x_Post (G : xG) (Q : xQ) : Array Value → State → Outcome → State → Prop := fun _ st oc t =>
  (∃ (v : Option Value) (sh : List xS) (M : xM) (J : xJ), oc = .returned (v.map (x_rn G)) ∧ Q v sh M J ∧ x_R G sh M J t.heap) ∧ va_F (x_A G) st t
/-- a method's contract -/
def x_M (l : Launch) (G : xG) (f : xF) (d mc ms : Nat) (args : List Value) (sh : List xS) (M : xM) (J : xJ) (Q : xQ) : Prop :=
  Met l f.1 (Cond.code f.1 f.2.1 f.2.2.1 f.2.2.2 :: xU) (x_rm d mc ms) (va_Pc (args.map (x_rn G)) (x_Pre G sh M J)) (x_Post G Q) mc ms (x_A G)
/-! worlds -/
theorem x_rn_cat (G : xG) (v : Value) : (x_rn G v).category = v.category := by cases v <;> rfl
theorem x_row_s (M : xM) (p : Nat) (r : Nat → Int32) : x_row M p r p = r := if_pos rfl
theorem x_row_n (M : xM) {p q : Nat} (r : Nat → Int32) (h : q ≠ p) : x_row M p r q = M q := if_neg h
theorem x_rowJ_s (J : xJ) (p : Nat) (r : Nat → Int64) : x_rowJ J p r p = r := if_pos rfl
theorem x_rowJ_n (J : xJ) {p q : Nat} (r : Nat → Int64) (h : q ≠ p) : x_rowJ J p r q = J q := if_neg h
theorem x_up_r (M : xM) (p k : Nat) (v : Int32) : x_up M p k v p = upd (M p) k v := if_pos rfl
theorem x_up_n (M : xM) {p q : Nat} (k : Nat) (v : Int32) (h : q ≠ p) : x_up M p k v q = M q := if_neg h
theorem x_up_s (M : xM) (p k : Nat) (v : Int32) : x_up M p k v p k = v := by rw [x_up_r]; exact if_pos rfl
theorem x_up_k (M : xM) (p : Nat) {k j : Nat} (v : Int32) (h : j ≠ k) : x_up M p k v p j = M p j := by rw [x_up_r]; exact if_neg h
theorem x_upJ_r (J : xJ) (p k : Nat) (v : Int64) : x_upJ J p k v p = vp_updL (J p) k v := if_pos rfl
theorem x_upJ_n (J : xJ) {p q : Nat} (k : Nat) (v : Int64) (h : q ≠ p) : x_upJ J p k v q = J q := if_neg h
theorem x_w_get {G : xG} {sh : List xS} {M : xM} {J : xJ} {p : Nat} {e : xS} (h : sh[p]? = some e) : (x_w G sh M J)[p]? = some (x_ad G p, x_e G M J p e) := by
  simp [x_w, List.getElem?_mapIdx, h]
theorem x_w_of {G : xG} {sh : List xS} {M : xM} {J : xJ} {p : Nat} {q : Nat × va_E} (h : (x_w G sh M J)[p]? = some q) : p < sh.length ∧ q.1 = x_ad G p := by
  rw [x_w, List.getElem?_mapIdx] at h
  cases hp : sh[p]? with
  | none => rw [hp] at h; cases h
  | some e =>
    rw [hp] at h
    cases h
    exact ⟨(List.getElem?_eq_some_iff.mp hp).1, rfl⟩
theorem x_fs_get {G : xG} {M : xM} {p k : Nat} {fs : List (Option (Option Nat))} (h : fs[k]? = some none) : (x_fs G M p fs)[k]? = some (.int (M p k)) := by
  simp [x_fs, List.getElem?_mapIdx, h]
theorem x_fs_getR {G : xG} {M : xM} {p k : Nat} {fs : List (Option (Option Nat))} {r : Option Nat} (h : fs[k]? = some (some r)) : (x_fs G M p fs)[k]? = some (va_rf (r.map (x_ad G))) := by
  simp [x_fs, List.getElem?_mapIdx, h]
theorem x_fs_len {G : xG} {M : xM} {p : Nat} {fs : List (Option (Option Nat))} : (x_fs G M p fs).length = fs.length := by simp [x_fs]
theorem x_fs_set {G : xG} {M : xM} {p k : Nat} {v : Int32} {fs : List (Option (Option Nat))} (h : fs[k]? = some none) : (x_fs G M p fs).set k (.int v) = x_fs G (x_up M p k v) p fs := by
  apply List.ext_getElem?
  intro j
  by_cases hj : j = k
  · subst hj
    rw [List.getElem?_set_self (by rw [x_fs_len]; exact (List.getElem?_eq_some_iff.mp h).1), x_fs_get h, x_up_s]
  · rw [List.getElem?_set_ne (Ne.symm hj)]
    simp only [x_fs, List.getElem?_mapIdx]
    cases fs[j]? with
    | none => rfl
    | some o =>
      cases o with
      | none => simp only [Option.map_some]; rw [x_up_k _ _ _ hj]
      | some r => rfl
theorem x_fs_setR {G : xG} {M : xM} {p k : Nat} {a : Nat} {o : Option (Option Nat)} {fs : List (Option (Option Nat))} (h : fs[k]? = some o) : (x_fs G M p fs).set k (.ref (x_ad G a)) = x_fs G M p (fs.set k (some (some a))) := by
  have hl := (List.getElem?_eq_some_iff.mp h).1
  apply List.ext_getElem?
  intro j
  by_cases hj : j = k
  · subst hj
    rw [List.getElem?_set_self (by rw [x_fs_len]; exact hl), x_fs_getR (r := some a) (List.getElem?_set_self hl)]
    rfl
  · rw [List.getElem?_set_ne (Ne.symm hj)]
    simp only [x_fs, List.getElem?_mapIdx]
    rw [List.getElem?_set_ne (Ne.symm hj)]
theorem x_e_congr {G : xG} {M M' : xM} {J J' : xJ} {p : Nat} (e : xS) (h : M' p = M p) (h2 : J' p = J p) : x_e G M' J' p e = x_e G M J p e := by
  cases e with
  | inl o => simp only [x_e, x_fs, h]
  | inr o => simp only [x_e, h, h2]
theorem x_w_set {G : xG} {sh : List xS} {M M' : xM} {J J' : xJ} {p : Nat} {e : xS} (e' : xS) (hp : sh[p]? = some e) (hM : ∀ i, i ≠ p → M' i = M i) (hJ : ∀ i, i ≠ p → J' i = J i) :
    (x_w G sh M J).set p (x_ad G p, x_e G M' J' p e') = x_w G (sh.set p e') M' J' := by
  have hl := (List.getElem?_eq_some_iff.mp hp).1
  apply List.ext_getElem?
  intro i
  by_cases hi : i = p
  · subst hi
    rw [List.getElem?_set_self (by simp [x_w]; exact hl), x_w_get (e := e') (List.getElem?_set_self hl)]
  · rw [List.getElem?_set_ne (Ne.symm hi)]
    simp only [x_w, List.getElem?_mapIdx]
    rw [List.getElem?_set_ne (Ne.symm hi)]
    cases sh[i]? with
    | none => rfl
    | some e2 => simp only [Option.map_some]; rw [x_e_congr (G := G) e2 (hM i hi) (hJ i hi)]
theorem x_sh_set {sh : List xS} {p : Nat} {e : xS} (hp : sh[p]? = some e) : sh.set p e = sh := by
  apply List.ext_getElem?
  intro i
  by_cases hi : i = p
  · subst hi
    rw [List.getElem?_set_self (List.getElem?_eq_some_iff.mp hp).1, hp]
  · rw [List.getElem?_set_ne (Ne.symm hi)]
theorem x_w_push {G : xG} {sh : List xS} {M : xM} {J : xJ} (e : xS) : x_w G sh M J ++ [(x_ad G sh.length, x_e G M J sh.length e)] = x_w G (sh ++ [e]) M J := by
  simp [x_w, List.mapIdx_append]
theorem x_ad_lo {G : xG} {p : Nat} (h : p < 1000) : x_ad G p = G.2.2.1 + p := if_pos h
theorem x_D {G : xG} {sh : List xS} {M : xM} {J : xJ} (h : sh.length ≤ 900) : va_D (x_A G) (x_w G sh M J) := by
  refine ⟨fun i j p q hi hj e => ?_, fun k q hk => ?_⟩
  · obtain ⟨h1, h2⟩ := x_w_of hi
    obtain ⟨h3, h4⟩ := x_w_of hj
    rw [h2, h4, x_ad_lo (by omega), x_ad_lo (by omega)] at e
    omega
  · obtain ⟨h1, h2⟩ := x_w_of hk
    rw [h2, x_ad_lo (by omega)]
    exact Nat.le_add_right _ _
theorem x_St.moved {G : xG} {u U : State} {H : Heap} (hvm : u.vm.Alike U.vm) (h : x_St G u H) : x_St G U H := ⟨h.1.moved hvm, h.2.1.moved hvm, h.2.2.1.moved hvm, h.2.2.2.moved hvm⟩
theorem x_St.kept {G : xG} {U : State} {H H1 : Heap} (h : x_St G U H) (hq : ∀ a : Nat, a < H.size → ¬ x_A G a → H1[a]? = H[a]?) : x_St G U H1 := ⟨h.1.kept hq, h.2.1.kept hq, h.2.2.1.kept hq, h.2.2.2.kept hq⟩
theorem x_args (G : xG) : ∀ (vs : List Value) (i : Nat), lv_args i (vs.map (x_rn G)) = (lv_args i vs).map (x_rl G)
  | [], _ => rfl
  | v :: vs, i => by
    simp only [List.map_cons, lv_args, x_rn_cat]
    rw [x_args G vs]
    rfl
theorem x_sl (G : xG) : ∀ (vs : List Value), (lg_sl (vs.map (x_rn G))).length = (lg_sl vs).length
  | [] => rfl
  | v :: vs => by
    have ih := x_sl G vs
    simp only [lg_sl, List.map_cons, List.flatMap_cons, List.length_append] at ih ⊢
    rw [ih]
    congr 1
    rw [x_rn_cat]
    by_cases h : v.category = 2 <;> simp [h]
/-! links -/
def x_FL (own : String) (idx ci k : Nat) : Prop := ∃ (C : String) (T : u_T) (N : Nat), vwCl[ci]? = some (C, T, N) ∧ k < N ∧ (∀ w ∈ u_ws C T N, w ∈ xU) ∧ Cond.fieldLink own idx (T k).1 (T k).2.1 (T k).2.2.1 ∈ xU
def x_FP (own : String) (idx ci k : Nat) (fin : Bool) (ty : FieldType) : Prop := ∃ (C : String) (T : u_T) (N : Nat) (ty0 : Nat → FieldType), vwCl[ci]? = some (C, T, N) ∧ k < N ∧ (∀ w ∈ u_ws C T N, w ∈ xU) ∧ Cond.fieldLink own idx (T k).1 (T k).2.1 (T k).2.2.1 ∈ xU ∧
  (∀ k, k < N → parseFieldDescriptor (T k).2.2.1 = some (ty0 k)) ∧ (∀ a, a < N → ∀ b, b < N → a ≠ b → (T a).2.1 ≠ (T b).2.1) ∧ (T k).2.2.2 = fin ∧ parseFieldDescriptor (T k).2.2.1 = some ty ∧ (fin = true → (T k).1 = own)
def x_ok (g : xF) (n : Nat) : Prop := g.1.cls ≠ "java/lang/invoke/MethodHandle" ∧ g.1.cls ≠ "java/lang/invoke/VarHandle" ∧ (parseMethodDescriptor g.1.desc).map (fun d => d.parameters.length) = some n ∧ g.2.2.1 ≤ 21 ∧
  Cond.initialized g.1.cls ∈ xU ∧ Cond.code g.1 g.2.1 g.2.2.1 g.2.2.2 ∈ xU
def x_MV (own : String) (idx ci : Nat) (g : xF) (n : Nat) : Prop := x_ok g n ∧ (∃ (T : u_T) (N : Nat), vwCl[ci]? = some (g.1.cls, T, N)) ∧ Cond.methodLink own idx g.1 ∈ xU ∧ Cond.instanceMethod g.1 ∈ xU ∧ Cond.selects g.1.cls g.1 g.1 ∈ xU
def x_MS (own : String) (idx : Nat) (g : xF) (n : Nat) : Prop := x_ok g n ∧ Cond.methodLink own idx g.1 ∈ xU ∧ Cond.static g.1 ∈ xU
def x_MN (own : String) (idx : Nat) (g : xF) (n : Nat) : Prop := x_ok g n ∧ (∃ host, Cond.methodLinkNest own idx g.1 host ∈ xU) ∧ Cond.static g.1 ∈ xU
def x_MI (own : String) (idx : Nat) (g : xF) (n : Nat) : Prop := x_ok g n ∧ Cond.methodLink own idx g.1 ∈ xU ∧ Cond.instanceMethod g.1 ∈ xU ∧ g.1.name = "<init>" ∧ g.2.2.2 = none
end
section
/-! locals -/
def x_st1 (ls : List (Nat × Value)) (i : Nat) (v : Value) : List (Nat × Value) := (i, v) :: ls.filter (fun q => !(q.1 == i) && !(q.1 + 1 == i && q.2.category == 2))
def x_st2 (ls : List (Nat × Value)) (i : Nat) (v : Value) : List (Nat × Value) := (i, v) :: ls.filter (fun q => !(q.1 == i) && (!(q.1 == i + 1) && !(q.1 + 1 == i && q.2.category == 2)))
theorem x_st1_rn (G : xG) (ls : List (Nat × Value)) (i : Nat) (v : Value) : (i, x_rn G v) :: (ls.map (x_rl G)).filter (fun q => !(q.1 == i) && !(q.1 + 1 == i && q.2.category == 2)) = (x_st1 ls i v).map (x_rl G) := by
  simp only [x_st1, List.map_cons, List.filter_map]
  congr 1
  refine congrArg _ (congrArg (fun f => List.filter f ls) ?_)
  funext q
  simp only [Function.comp, x_rl, x_rn_cat]
theorem x_st2_rn (G : xG) (ls : List (Nat × Value)) (i : Nat) (v : Value) : (i, x_rn G v) :: (ls.map (x_rl G)).filter (fun q => !(q.1 == i) && (!(q.1 == i + 1) && !(q.1 + 1 == i && q.2.category == 2))) = (x_st2 ls i v).map (x_rl G) := by
  simp only [x_st2, List.map_cons, List.filter_map]
  congr 1
  refine congrArg _ (congrArg (fun f => List.filter f ls) ?_)
  funext q
  simp only [Function.comp, x_rl, x_rn_cat]
theorem x_ls_at {G : xG} {ls : List (Nat × Value)} {j i : Nat} {v : Value} (h : ls[j]? = some (i, v)) : (ls.map (x_rl G))[j]? = some (i, x_rn G v) := by
  rw [List.getElem?_map, h]
  rfl
section XR
variable {l : Launch} {G : xG} {f : xF} {d mc ms : Nat} {Q : xQ} {pc : Nat} {ls : List (Nat × Value)} {st : List Value} {sh : List xS} {M : xM} {J : xJ} {kc ks : Nat}

theorem xr_iconst {n : Int} {v : Int32} (hd : decode f.2.1 pc = .ok (.iconst n, 1)) (hv : Int32.ofInt n = v) (k : x_X l G f d mc ms Q (pc + 1) ls (.int v :: st) sh M J kc ks) : x_X l G f d mc ms Q pc ls st sh M J kc ks := by
  intro p e R s m args below meth c H locs WQ arr hC hr hR hS hkc hks hl
  exact lv_iconst hC.1 hC.2.1 hd hv (k p e R s m args below meth c H locs WQ arr hC hr hR hS hkc hks hl)

theorem xr_bipush {n : Int} {v : Int32} (hd : decode f.2.1 pc = .ok (.bipush n, 2)) (hv : (Int8.ofInt n).toInt32 = v) (k : x_X l G f d mc ms Q (pc + 2) ls (.int v :: st) sh M J kc ks) : x_X l G f d mc ms Q pc ls st sh M J kc ks := by
  intro p e R s m args below meth c H locs WQ arr hC hr hR hS hkc hks hl
  exact lv_bipush hC.1 hC.2.1 hd hv (k p e R s m args below meth c H locs WQ arr hC hr hR hS hkc hks hl)

theorem xr_sipush {n : Int} {v : Int32} (hd : decode f.2.1 pc = .ok (.sipush n, 3)) (hv : (Int16.ofInt n).toInt32 = v) (k : x_X l G f d mc ms Q (pc + 3) ls (.int v :: st) sh M J kc ks) : x_X l G f d mc ms Q pc ls st sh M J kc ks := by
  intro p e R s m args below meth c H locs WQ arr hC hr hR hS hkc hks hl
  exact lv_sipush hC.1 hC.2.1 hd hv (k p e R s m args below meth c H locs WQ arr hC hr hR hS hkc hks hl)

theorem xr_lconst {n : Fin 2} {v : Int64} (hd : decode f.2.1 pc = .ok (.lconst n, 1)) (hv : Int64.ofNat (n : Nat) = v) (k : x_X l G f d mc ms Q (pc + 1) ls (.long v :: st) sh M J kc ks) : x_X l G f d mc ms Q pc ls st sh M J kc ks := by
  intro p e R s m args below meth c H locs WQ arr hC hr hR hS hkc hks hl
  exact lv_lconst hC.1 hC.2.1 hd hv (k p e R s m args below meth c H locs WQ arr hC hr hR hS hkc hks hl)

theorem xr_iadd {x y : Int32} (hd : decode f.2.1 pc = .ok (.iadd, 1)) (k : x_X l G f d mc ms Q (pc + 1) ls (.int (x + y) :: st) sh M J kc ks) : x_X l G f d mc ms Q pc ls (.int y :: .int x :: st) sh M J kc ks := by
  intro p e R s m args below meth c H locs WQ arr hC hr hR hS hkc hks hl
  exact lv_iadd hC.1 hC.2.1 hd (k p e R s m args below meth c H locs WQ arr hC hr hR hS hkc hks hl)

theorem xr_isub {x y : Int32} (hd : decode f.2.1 pc = .ok (.isub, 1)) (k : x_X l G f d mc ms Q (pc + 1) ls (.int (x - y) :: st) sh M J kc ks) : x_X l G f d mc ms Q pc ls (.int y :: .int x :: st) sh M J kc ks := by
  intro p e R s m args below meth c H locs WQ arr hC hr hR hS hkc hks hl
  exact lv_isub hC.1 hC.2.1 hd (k p e R s m args below meth c H locs WQ arr hC hr hR hS hkc hks hl)

theorem xr_imul {x y : Int32} (hd : decode f.2.1 pc = .ok (.imul, 1)) (k : x_X l G f d mc ms Q (pc + 1) ls (.int (x * y) :: st) sh M J kc ks) : x_X l G f d mc ms Q pc ls (.int y :: .int x :: st) sh M J kc ks := by
  intro p e R s m args below meth c H locs WQ arr hC hr hR hS hkc hks hl
  exact lv_imul hC.1 hC.2.1 hd (k p e R s m args below meth c H locs WQ arr hC hr hR hS hkc hks hl)

theorem xr_iand {x y : Int32} (hd : decode f.2.1 pc = .ok (.iand, 1)) (k : x_X l G f d mc ms Q (pc + 1) ls (.int (x &&& y) :: st) sh M J kc ks) : x_X l G f d mc ms Q pc ls (.int y :: .int x :: st) sh M J kc ks := by
  intro p e R s m args below meth c H locs WQ arr hC hr hR hS hkc hks hl
  exact lv_iand hC.1 hC.2.1 hd (k p e R s m args below meth c H locs WQ arr hC hr hR hS hkc hks hl)

theorem xr_ior {x y : Int32} (hd : decode f.2.1 pc = .ok (.ior, 1)) (k : x_X l G f d mc ms Q (pc + 1) ls (.int (x ||| y) :: st) sh M J kc ks) : x_X l G f d mc ms Q pc ls (.int y :: .int x :: st) sh M J kc ks := by
  intro p e R s m args below meth c H locs WQ arr hC hr hR hS hkc hks hl
  exact lv_ior hC.1 hC.2.1 hd (k p e R s m args below meth c H locs WQ arr hC hr hR hS hkc hks hl)

theorem xr_ixor {x y : Int32} (hd : decode f.2.1 pc = .ok (.ixor, 1)) (k : x_X l G f d mc ms Q (pc + 1) ls (.int (x ^^^ y) :: st) sh M J kc ks) : x_X l G f d mc ms Q pc ls (.int y :: .int x :: st) sh M J kc ks := by
  intro p e R s m args below meth c H locs WQ arr hC hr hR hS hkc hks hl
  exact lv_ixor hC.1 hC.2.1 hd (k p e R s m args below meth c H locs WQ arr hC hr hR hS hkc hks hl)

theorem xr_ishl {x y : Int32} (hd : decode f.2.1 pc = .ok (.ishl, 1)) (k : x_X l G f d mc ms Q (pc + 1) ls (.int (x <<< (y &&& 31)) :: st) sh M J kc ks) : x_X l G f d mc ms Q pc ls (.int y :: .int x :: st) sh M J kc ks := by
  intro p e R s m args below meth c H locs WQ arr hC hr hR hS hkc hks hl
  exact lv_ishl hC.1 hC.2.1 hd (k p e R s m args below meth c H locs WQ arr hC hr hR hS hkc hks hl)

theorem xr_ishr {x y : Int32} (hd : decode f.2.1 pc = .ok (.ishr, 1)) (k : x_X l G f d mc ms Q (pc + 1) ls (.int (x >>> (y &&& 31)) :: st) sh M J kc ks) : x_X l G f d mc ms Q pc ls (.int y :: .int x :: st) sh M J kc ks := by
  intro p e R s m args below meth c H locs WQ arr hC hr hR hS hkc hks hl
  exact lv_ishr hC.1 hC.2.1 hd (k p e R s m args below meth c H locs WQ arr hC hr hR hS hkc hks hl)

theorem xr_iushr {x y : Int32} (hd : decode f.2.1 pc = .ok (.iushr, 1)) (k : x_X l G f d mc ms Q (pc + 1) ls (.int ((x.toUInt32 >>> (y.toUInt32 &&& Int32.toUInt32 31)).toInt32) :: st) sh M J kc ks) : x_X l G f d mc ms Q pc ls (.int y :: .int x :: st) sh M J kc ks := by
  intro p e R s m args below meth c H locs WQ arr hC hr hR hS hkc hks hl
  exact lv_iushr hC.1 hC.2.1 hd rfl (k p e R s m args below meth c H locs WQ arr hC hr hR hS hkc hks hl)

theorem xr_lshl {x : Int64} {y : Int32} (hd : decode f.2.1 pc = .ok (.lshl, 1)) (k : x_X l G f d mc ms Q (pc + 1) ls (.long (x <<< (y.toInt64 &&& 63)) :: st) sh M J kc ks) : x_X l G f d mc ms Q pc ls (.int y :: .long x :: st) sh M J kc ks := by
  intro p e R s m args below meth c H locs WQ arr hC hr hR hS hkc hks hl
  exact lv_lshl hC.1 hC.2.1 hd rfl (k p e R s m args below meth c H locs WQ arr hC hr hR hS hkc hks hl)

theorem xr_idiv {x y : Int32} (hd : decode f.2.1 pc = .ok (.idiv, 1)) (hne : ¬ y = 0) (k : x_X l G f d mc ms Q (pc + 1) ls (.int (x / y) :: st) sh M J kc ks) : x_X l G f d mc ms Q pc ls (.int y :: .int x :: st) sh M J kc ks := by
  intro p e R s m args below meth c H locs WQ arr hC hr hR hS hkc hks hl
  exact lv_idiv hC.1 hC.2.1 hd hne (k p e R s m args below meth c H locs WQ arr hC hr hR hS hkc hks hl)

theorem xr_irem {x y : Int32} (hd : decode f.2.1 pc = .ok (.irem, 1)) (hne : ¬ y = 0) (k : x_X l G f d mc ms Q (pc + 1) ls (.int (x - x / y * y) :: st) sh M J kc ks) : x_X l G f d mc ms Q pc ls (.int y :: .int x :: st) sh M J kc ks := by
  intro p e R s m args below meth c H locs WQ arr hC hr hR hS hkc hks hl
  exact lv_irem hC.1 hC.2.1 hd hne (k p e R s m args below meth c H locs WQ arr hC hr hR hS hkc hks hl)

theorem xr_ineg {x : Int32} (hd : decode f.2.1 pc = .ok (.ineg, 1)) (k : x_X l G f d mc ms Q (pc + 1) ls (.int (-x) :: st) sh M J kc ks) : x_X l G f d mc ms Q pc ls (.int x :: st) sh M J kc ks := by
  intro p e R s m args below meth c H locs WQ arr hC hr hR hS hkc hks hl
  exact lv_ineg hC.1 hC.2.1 hd (k p e R s m args below meth c H locs WQ arr hC hr hR hS hkc hks hl)

theorem xr_ladd {x y : Int64} (hd : decode f.2.1 pc = .ok (.ladd, 1)) (k : x_X l G f d mc ms Q (pc + 1) ls (.long (x + y) :: st) sh M J kc ks) : x_X l G f d mc ms Q pc ls (.long y :: .long x :: st) sh M J kc ks := by
  intro p e R s m args below meth c H locs WQ arr hC hr hR hS hkc hks hl
  exact lv_ladd hC.1 hC.2.1 hd (k p e R s m args below meth c H locs WQ arr hC hr hR hS hkc hks hl)

theorem xr_lmul {x y : Int64} (hd : decode f.2.1 pc = .ok (.lmul, 1)) (k : x_X l G f d mc ms Q (pc + 1) ls (.long (x * y) :: st) sh M J kc ks) : x_X l G f d mc ms Q pc ls (.long y :: .long x :: st) sh M J kc ks := by
  intro p e R s m args below meth c H locs WQ arr hC hr hR hS hkc hks hl
  exact lv_lmul hC.1 hC.2.1 hd (k p e R s m args below meth c H locs WQ arr hC hr hR hS hkc hks hl)

theorem xr_land {x y : Int64} (hd : decode f.2.1 pc = .ok (.land, 1)) (k : x_X l G f d mc ms Q (pc + 1) ls (.long (x &&& y) :: st) sh M J kc ks) : x_X l G f d mc ms Q pc ls (.long y :: .long x :: st) sh M J kc ks := by
  intro p e R s m args below meth c H locs WQ arr hC hr hR hS hkc hks hl
  exact lv_land hC.1 hC.2.1 hd (k p e R s m args below meth c H locs WQ arr hC hr hR hS hkc hks hl)

theorem xr_lor {x y : Int64} (hd : decode f.2.1 pc = .ok (.lor, 1)) (k : x_X l G f d mc ms Q (pc + 1) ls (.long (x ||| y) :: st) sh M J kc ks) : x_X l G f d mc ms Q pc ls (.long y :: .long x :: st) sh M J kc ks := by
  intro p e R s m args below meth c H locs WQ arr hC hr hR hS hkc hks hl
  exact lv_lor hC.1 hC.2.1 hd (k p e R s m args below meth c H locs WQ arr hC hr hR hS hkc hks hl)

theorem xr_ldiv {x y : Int64} (hd : decode f.2.1 pc = .ok (.ldiv, 1)) (hne : ¬ y = 0) (k : x_X l G f d mc ms Q (pc + 1) ls (.long (x / y) :: st) sh M J kc ks) : x_X l G f d mc ms Q pc ls (.long y :: .long x :: st) sh M J kc ks := by
  intro p e R s m args below meth c H locs WQ arr hC hr hR hS hkc hks hl
  exact lv_ldiv hC.1 hC.2.1 hd hne (k p e R s m args below meth c H locs WQ arr hC hr hR hS hkc hks hl)

theorem xr_lrem {x y : Int64} (hd : decode f.2.1 pc = .ok (.lrem, 1)) (hne : ¬ y = 0) (k : x_X l G f d mc ms Q (pc + 1) ls (.long (x - x / y * y) :: st) sh M J kc ks) : x_X l G f d mc ms Q pc ls (.long y :: .long x :: st) sh M J kc ks := by
  intro p e R s m args below meth c H locs WQ arr hC hr hR hS hkc hks hl
  exact lv_lrem hC.1 hC.2.1 hd hne (k p e R s m args below meth c H locs WQ arr hC hr hR hS hkc hks hl)

theorem xr_i2l {x : Int32} (hd : decode f.2.1 pc = .ok (.i2l, 1)) (k : x_X l G f d mc ms Q (pc + 1) ls (.long x.toInt64 :: st) sh M J kc ks) : x_X l G f d mc ms Q pc ls (.int x :: st) sh M J kc ks := by
  intro p e R s m args below meth c H locs WQ arr hC hr hR hS hkc hks hl
  exact lv_i2l hC.1 hC.2.1 hd rfl (k p e R s m args below meth c H locs WQ arr hC hr hR hS hkc hks hl)

theorem xr_l2i {x : Int64} (hd : decode f.2.1 pc = .ok (.l2i, 1)) (k : x_X l G f d mc ms Q (pc + 1) ls (.int x.toInt32 :: st) sh M J kc ks) : x_X l G f d mc ms Q pc ls (.long x :: st) sh M J kc ks := by
  intro p e R s m args below meth c H locs WQ arr hC hr hR hS hkc hks hl
  exact lv_l2i hC.1 hC.2.1 hd rfl (k p e R s m args below meth c H locs WQ arr hC hr hR hS hkc hks hl)

theorem xr_i2b {x : Int32} (hd : decode f.2.1 pc = .ok (.i2b, 1)) (k : x_X l G f d mc ms Q (pc + 1) ls (.int x.toInt8.toInt32 :: st) sh M J kc ks) : x_X l G f d mc ms Q pc ls (.int x :: st) sh M J kc ks := by
  intro p e R s m args below meth c H locs WQ arr hC hr hR hS hkc hks hl
  exact lv_i2b hC.1 hC.2.1 hd rfl (k p e R s m args below meth c H locs WQ arr hC hr hR hS hkc hks hl)

theorem xr_i2s {x : Int32} (hd : decode f.2.1 pc = .ok (.i2s, 1)) (k : x_X l G f d mc ms Q (pc + 1) ls (.int x.toInt16.toInt32 :: st) sh M J kc ks) : x_X l G f d mc ms Q pc ls (.int x :: st) sh M J kc ks := by
  intro p e R s m args below meth c H locs WQ arr hC hr hR hS hkc hks hl
  exact lv_i2s hC.1 hC.2.1 hd rfl (k p e R s m args below meth c H locs WQ arr hC hr hR hS hkc hks hl)

theorem xr_lcmp {x y : Int64} (hd : decode f.2.1 pc = .ok (.lcmp, 1)) (k : x_X l G f d mc ms Q (pc + 1) ls (.int (lg_cmp x y) :: st) sh M J kc ks) : x_X l G f d mc ms Q pc ls (.long y :: .long x :: st) sh M J kc ks := by
  intro p e R s m args below meth c H locs WQ arr hC hr hR hS hkc hks hl
  exact W.lcmp hC.1 hC.2.1 hd (k p e R s m args below meth c H locs WQ arr hC hr hR hS hkc hks hl)

theorem xr_dup {va : Value} (hd : decode f.2.1 pc = .ok (.dup, 1)) (hva : va.category = 1) (k : x_X l G f d mc ms Q (pc + 1) ls (va :: va :: st) sh M J kc ks) : x_X l G f d mc ms Q pc ls (va :: st) sh M J kc ks := by
  intro p e R s m args below meth c H locs WQ arr hC hr hR hS hkc hks hl
  exact lv_dup hC.1 hC.2.1 hd ((x_rn_cat G va).trans hva) (k p e R s m args below meth c H locs WQ arr hC hr hR hS hkc hks hl)

theorem xr_pop {va : Value} (hd : decode f.2.1 pc = .ok (.pop, 1)) (hva : va.category = 1) (k : x_X l G f d mc ms Q (pc + 1) ls st sh M J kc ks) : x_X l G f d mc ms Q pc ls (va :: st) sh M J kc ks := by
  intro p e R s m args below meth c H locs WQ arr hC hr hR hS hkc hks hl
  exact lv_pop hC.1 hC.2.1 hd ((x_rn_cat G va).trans hva) (k p e R s m args below meth c H locs WQ arr hC hr hR hS hkc hks hl)

theorem xr_dup2 {va vb : Value} (hd : decode f.2.1 pc = .ok (.dup2, 1)) (hva : va.category = 1) (hvb : vb.category = 1) (k : x_X l G f d mc ms Q (pc + 1) ls (va :: vb :: va :: vb :: st) sh M J kc ks) : x_X l G f d mc ms Q pc ls (va :: vb :: st) sh M J kc ks := by
  intro p e R s m args below meth c H locs WQ arr hC hr hR hS hkc hks hl
  exact lv_dup2_11 hC.1 hC.2.1 hd ((x_rn_cat G va).trans hva) ((x_rn_cat G vb).trans hvb) (k p e R s m args below meth c H locs WQ arr hC hr hR hS hkc hks hl)

theorem xr_pop2 {va : Value} (hd : decode f.2.1 pc = .ok (.pop2, 1)) (hva : va.category = 2) (k : x_X l G f d mc ms Q (pc + 1) ls st sh M J kc ks) : x_X l G f d mc ms Q pc ls (va :: st) sh M J kc ks := by
  intro p e R s m args below meth c H locs WQ arr hC hr hR hS hkc hks hl
  exact lv_pop2_2 hC.1 hC.2.1 hd ((x_rn_cat G va).trans hva) (k p e R s m args below meth c H locs WQ arr hC hr hR hS hkc hks hl)

theorem xr_iload_n {q : Fin 4} {x : Int32} (hd : decode f.2.1 pc = .ok (.iload_n q, 1)) (j : Nat) (hj : ls[j]? = some ((q : Nat), .int x)) (k : x_X l G f d mc ms Q (pc + 1) ls (.int x :: st) sh M J kc ks) : x_X l G f d mc ms Q pc ls st sh M J kc ks := by
  intro p e R s m args below meth c H locs WQ arr hC hr hR hS hkc hks hl
  exact lv_iload_n hC.1 hC.2.1 hd rfl (lv_at hl j (x_ls_at hj)) (k p e R s m args below meth c H locs WQ arr hC hr hR hS hkc hks hl)

theorem xr_iload {i : Nat} {x : Int32} (hd : decode f.2.1 pc = .ok (.iload i, 2)) (j : Nat) (hj : ls[j]? = some (i, .int x)) (k : x_X l G f d mc ms Q (pc + 2) ls (.int x :: st) sh M J kc ks) : x_X l G f d mc ms Q pc ls st sh M J kc ks := by
  intro p e R s m args below meth c H locs WQ arr hC hr hR hS hkc hks hl
  exact lv_iload hC.1 hC.2.1 hd (lv_at hl j (x_ls_at hj)) (k p e R s m args below meth c H locs WQ arr hC hr hR hS hkc hks hl)

theorem xr_istore_n {q : Fin 4} {x : Int32} {ls2 : List (Nat × Value)} (hd : decode f.2.1 pc = .ok (.istore_n q, 1)) (hn : (q : Nat) < f.2.2.1) (hls : x_st1 ls q (.int x) = ls2) (k : x_X l G f d mc ms Q (pc + 1) ls2 st sh M J kc ks) : x_X l G f d mc ms Q pc ls (.int x :: st) sh M J kc ks := by
  intro p e R s m args below meth c H locs WQ arr hC hr hR hS hkc hks hl
  exact lv_istore_n (lv' := (ls2).map (x_rl G)) hC.1 hC.2.1 hd rfl hl hn (by rw [← hls]; exact x_st1_rn G ls q (.int x)) (fun arr2 hl2 => k p e R s m args below meth c H locs WQ arr2 hC hr hR hS hkc hks (hl2))

theorem xr_istore {i : Nat} {x : Int32} {ls2 : List (Nat × Value)} (hd : decode f.2.1 pc = .ok (.istore i, 2)) (hn : i < f.2.2.1) (hls : x_st1 ls i (.int x) = ls2) (k : x_X l G f d mc ms Q (pc + 2) ls2 st sh M J kc ks) : x_X l G f d mc ms Q pc ls (.int x :: st) sh M J kc ks := by
  intro p e R s m args below meth c H locs WQ arr hC hr hR hS hkc hks hl
  exact lv_istore (lv' := (ls2).map (x_rl G)) hC.1 hC.2.1 hd hl hn (by rw [← hls]; exact x_st1_rn G ls i (.int x)) (fun arr2 hl2 => k p e R s m args below meth c H locs WQ arr2 hC hr hR hS hkc hks (hl2))

theorem xr_lload_n {q : Fin 4} {x : Int64} (hd : decode f.2.1 pc = .ok (.lload_n q, 1)) (j : Nat) (hj : ls[j]? = some ((q : Nat), .long x)) (k : x_X l G f d mc ms Q (pc + 1) ls (.long x :: st) sh M J kc ks) : x_X l G f d mc ms Q pc ls st sh M J kc ks := by
  intro p e R s m args below meth c H locs WQ arr hC hr hR hS hkc hks hl
  exact lv_lload_n hC.1 hC.2.1 hd rfl (lv_at hl j (x_ls_at hj)) (k p e R s m args below meth c H locs WQ arr hC hr hR hS hkc hks hl)

theorem xr_lload {i : Nat} {x : Int64} (hd : decode f.2.1 pc = .ok (.lload i, 2)) (j : Nat) (hj : ls[j]? = some (i, .long x)) (k : x_X l G f d mc ms Q (pc + 2) ls (.long x :: st) sh M J kc ks) : x_X l G f d mc ms Q pc ls st sh M J kc ks := by
  intro p e R s m args below meth c H locs WQ arr hC hr hR hS hkc hks hl
  exact lv_lload hC.1 hC.2.1 hd (lv_at hl j (x_ls_at hj)) (k p e R s m args below meth c H locs WQ arr hC hr hR hS hkc hks hl)

theorem xr_lstore_n {q : Fin 4} {x : Int64} {ls2 : List (Nat × Value)} (hd : decode f.2.1 pc = .ok (.lstore_n q, 1)) (hn : (q : Nat) + 1 < f.2.2.1) (hls : x_st2 ls q (.long x) = ls2) (k : x_X l G f d mc ms Q (pc + 1) ls2 st sh M J kc ks) : x_X l G f d mc ms Q pc ls (.long x :: st) sh M J kc ks := by
  intro p e R s m args below meth c H locs WQ arr hC hr hR hS hkc hks hl
  exact lv_lstore_n (lv' := (ls2).map (x_rl G)) hC.1 hC.2.1 hd rfl hl hn (by rw [← hls]; exact x_st2_rn G ls q (.long x)) (fun arr2 hl2 => k p e R s m args below meth c H locs WQ arr2 hC hr hR hS hkc hks (hl2))

theorem xr_lstore {i : Nat} {x : Int64} {ls2 : List (Nat × Value)} (hd : decode f.2.1 pc = .ok (.lstore i, 2)) (hn : i + 1 < f.2.2.1) (hls : x_st2 ls i (.long x) = ls2) (k : x_X l G f d mc ms Q (pc + 2) ls2 st sh M J kc ks) : x_X l G f d mc ms Q pc ls (.long x :: st) sh M J kc ks := by
  intro p e R s m args below meth c H locs WQ arr hC hr hR hS hkc hks hl
  exact lv_lstore (lv' := (ls2).map (x_rl G)) hC.1 hC.2.1 hd hl hn (by rw [← hls]; exact x_st2_rn G ls i (.long x)) (fun arr2 hl2 => k p e R s m args below meth c H locs WQ arr2 hC hr hR hS hkc hks (hl2))

theorem xr_aload_n {q : Fin 4} {x : Nat} (hd : decode f.2.1 pc = .ok (.aload_n q, 1)) (j : Nat) (hj : ls[j]? = some ((q : Nat), .ref x)) (k : x_X l G f d mc ms Q (pc + 1) ls (.ref x :: st) sh M J kc ks) : x_X l G f d mc ms Q pc ls st sh M J kc ks := by
  intro p e R s m args below meth c H locs WQ arr hC hr hR hS hkc hks hl
  exact lv_aload_n hC.1 hC.2.1 hd rfl (lv_at hl j (x_ls_at hj)) (k p e R s m args below meth c H locs WQ arr hC hr hR hS hkc hks hl)

theorem xr_aload {i : Nat} {x : Nat} (hd : decode f.2.1 pc = .ok (.aload i, 2)) (j : Nat) (hj : ls[j]? = some (i, .ref x)) (k : x_X l G f d mc ms Q (pc + 2) ls (.ref x :: st) sh M J kc ks) : x_X l G f d mc ms Q pc ls st sh M J kc ks := by
  intro p e R s m args below meth c H locs WQ arr hC hr hR hS hkc hks hl
  exact lv_aload hC.1 hC.2.1 hd (lv_at hl j (x_ls_at hj)) (k p e R s m args below meth c H locs WQ arr hC hr hR hS hkc hks hl)

theorem xr_astore_n {q : Fin 4} {x : Nat} {ls2 : List (Nat × Value)} (hd : decode f.2.1 pc = .ok (.astore_n q, 1)) (hn : (q : Nat) < f.2.2.1) (hls : x_st1 ls q (.ref x) = ls2) (k : x_X l G f d mc ms Q (pc + 1) ls2 st sh M J kc ks) : x_X l G f d mc ms Q pc ls (.ref x :: st) sh M J kc ks := by
  intro p e R s m args below meth c H locs WQ arr hC hr hR hS hkc hks hl
  exact lv_astore_n (lv' := (ls2).map (x_rl G)) hC.1 hC.2.1 hd rfl hl hn (by rw [← hls]; exact x_st1_rn G ls q (.ref x)) (fun arr2 hl2 => k p e R s m args below meth c H locs WQ arr2 hC hr hR hS hkc hks (hl2))

theorem xr_astore {i : Nat} {x : Nat} {ls2 : List (Nat × Value)} (hd : decode f.2.1 pc = .ok (.astore i, 2)) (hn : i < f.2.2.1) (hls : x_st1 ls i (.ref x) = ls2) (k : x_X l G f d mc ms Q (pc + 2) ls2 st sh M J kc ks) : x_X l G f d mc ms Q pc ls (.ref x :: st) sh M J kc ks := by
  intro p e R s m args below meth c H locs WQ arr hC hr hR hS hkc hks hl
  exact lv_astore (lv' := (ls2).map (x_rl G)) hC.1 hC.2.1 hd hl hn (by rw [← hls]; exact x_st1_rn G ls i (.ref x)) (fun arr2 hl2 => k p e R s m args below meth c H locs WQ arr2 hC hr hR hS hkc hks (hl2))

theorem xr_iinc {i : Nat} {n : Int} {x v : Int32} {ls2 : List (Nat × Value)} (hd : decode f.2.1 pc = .ok (.iinc i n, 3)) (j : Nat) (hj : ls[j]? = some (i, .int x)) (hv : x + Int32.ofInt n = v) (hn : i < f.2.2.1) (hls : x_st1 ls i (.int v) = ls2) (k : x_X l G f d mc ms Q (pc + 3) ls2 st sh M J kc ks) : x_X l G f d mc ms Q pc ls st sh M J kc ks := by
  intro p e R s m args below meth c H locs WQ arr hC hr hR hS hkc hks hl
  exact lv_iinc (lv' := (ls2).map (x_rl G)) hC.1 hC.2.1 hd hl (k := j) (x_ls_at hj) hv hn (by rw [← hls]; exact x_st1_rn G ls i (.int v)) (fun arr2 hl2 => k p e R s m args below meth c H locs WQ arr2 hC hr hR hS hkc hks (hl2))

theorem xr_if_eq {x : Int32} {off : Int} {tgt : Nat} (hd : decode f.2.1 pc = .ok (.ifCond .eq off, 3)) (ht : (pc : Int) + off = (tgt : Int)) (kt : x = 0 → x_X l G f d mc ms Q tgt ls st sh M J kc ks) (kf : ¬ x = 0 → x_X l G f d mc ms Q (pc + 3) ls st sh M J kc ks) : x_X l G f d mc ms Q pc ls (.int x :: st) sh M J kc ks := by
  intro p e R s m args below meth c H locs WQ arr hC hr hR hS hkc hks hl
  exact lv_if_eq hC.1 hC.2.1 hd ht (fun h => kt h p e R s m args below meth c H locs WQ arr hC hr hR hS hkc hks hl) (fun h => kf h p e R s m args below meth c H locs WQ arr hC hr hR hS hkc hks hl)

theorem xr_icmp_eq {x y : Int32} {off : Int} {tgt : Nat} (hd : decode f.2.1 pc = .ok (.if_icmp .eq off, 3)) (ht : (pc : Int) + off = (tgt : Int)) (kt : x = y → x_X l G f d mc ms Q tgt ls st sh M J kc ks) (kf : ¬ x = y → x_X l G f d mc ms Q (pc + 3) ls st sh M J kc ks) : x_X l G f d mc ms Q pc ls (.int y :: .int x :: st) sh M J kc ks := by
  intro p e R s m args below meth c H locs WQ arr hC hr hR hS hkc hks hl
  exact lv_icmp_eq hC.1 hC.2.1 hd ht (fun h => kt h p e R s m args below meth c H locs WQ arr hC hr hR hS hkc hks hl) (fun h => kf h p e R s m args below meth c H locs WQ arr hC hr hR hS hkc hks hl)

theorem xr_if_ne {x : Int32} {off : Int} {tgt : Nat} (hd : decode f.2.1 pc = .ok (.ifCond .ne off, 3)) (ht : (pc : Int) + off = (tgt : Int)) (kt : ¬ x = 0 → x_X l G f d mc ms Q tgt ls st sh M J kc ks) (kf : x = 0 → x_X l G f d mc ms Q (pc + 3) ls st sh M J kc ks) : x_X l G f d mc ms Q pc ls (.int x :: st) sh M J kc ks := by
  intro p e R s m args below meth c H locs WQ arr hC hr hR hS hkc hks hl
  exact lv_if_ne hC.1 hC.2.1 hd ht (fun h => kt h p e R s m args below meth c H locs WQ arr hC hr hR hS hkc hks hl) (fun h => kf h p e R s m args below meth c H locs WQ arr hC hr hR hS hkc hks hl)

theorem xr_icmp_ne {x y : Int32} {off : Int} {tgt : Nat} (hd : decode f.2.1 pc = .ok (.if_icmp .ne off, 3)) (ht : (pc : Int) + off = (tgt : Int)) (kt : ¬ x = y → x_X l G f d mc ms Q tgt ls st sh M J kc ks) (kf : x = y → x_X l G f d mc ms Q (pc + 3) ls st sh M J kc ks) : x_X l G f d mc ms Q pc ls (.int y :: .int x :: st) sh M J kc ks := by
  intro p e R s m args below meth c H locs WQ arr hC hr hR hS hkc hks hl
  exact lv_icmp_ne hC.1 hC.2.1 hd ht (fun h => kt h p e R s m args below meth c H locs WQ arr hC hr hR hS hkc hks hl) (fun h => kf h p e R s m args below meth c H locs WQ arr hC hr hR hS hkc hks hl)

theorem xr_if_lt {x : Int32} {off : Int} {tgt : Nat} (hd : decode f.2.1 pc = .ok (.ifCond .lt off, 3)) (ht : (pc : Int) + off = (tgt : Int)) (kt : x < 0 → x_X l G f d mc ms Q tgt ls st sh M J kc ks) (kf : ¬ x < 0 → x_X l G f d mc ms Q (pc + 3) ls st sh M J kc ks) : x_X l G f d mc ms Q pc ls (.int x :: st) sh M J kc ks := by
  intro p e R s m args below meth c H locs WQ arr hC hr hR hS hkc hks hl
  exact lv_if_lt hC.1 hC.2.1 hd ht (fun h => kt h p e R s m args below meth c H locs WQ arr hC hr hR hS hkc hks hl) (fun h => kf h p e R s m args below meth c H locs WQ arr hC hr hR hS hkc hks hl)

theorem xr_icmp_lt {x y : Int32} {off : Int} {tgt : Nat} (hd : decode f.2.1 pc = .ok (.if_icmp .lt off, 3)) (ht : (pc : Int) + off = (tgt : Int)) (kt : x < y → x_X l G f d mc ms Q tgt ls st sh M J kc ks) (kf : ¬ x < y → x_X l G f d mc ms Q (pc + 3) ls st sh M J kc ks) : x_X l G f d mc ms Q pc ls (.int y :: .int x :: st) sh M J kc ks := by
  intro p e R s m args below meth c H locs WQ arr hC hr hR hS hkc hks hl
  exact lv_icmp_lt hC.1 hC.2.1 hd ht (fun h => kt h p e R s m args below meth c H locs WQ arr hC hr hR hS hkc hks hl) (fun h => kf h p e R s m args below meth c H locs WQ arr hC hr hR hS hkc hks hl)

theorem xr_if_ge {x : Int32} {off : Int} {tgt : Nat} (hd : decode f.2.1 pc = .ok (.ifCond .ge off, 3)) (ht : (pc : Int) + off = (tgt : Int)) (kt : 0 ≤ x → x_X l G f d mc ms Q tgt ls st sh M J kc ks) (kf : ¬ 0 ≤ x → x_X l G f d mc ms Q (pc + 3) ls st sh M J kc ks) : x_X l G f d mc ms Q pc ls (.int x :: st) sh M J kc ks := by
  intro p e R s m args below meth c H locs WQ arr hC hr hR hS hkc hks hl
  exact lv_if_ge hC.1 hC.2.1 hd ht (fun h => kt h p e R s m args below meth c H locs WQ arr hC hr hR hS hkc hks hl) (fun h => kf h p e R s m args below meth c H locs WQ arr hC hr hR hS hkc hks hl)

theorem xr_icmp_ge {x y : Int32} {off : Int} {tgt : Nat} (hd : decode f.2.1 pc = .ok (.if_icmp .ge off, 3)) (ht : (pc : Int) + off = (tgt : Int)) (kt : y ≤ x → x_X l G f d mc ms Q tgt ls st sh M J kc ks) (kf : ¬ y ≤ x → x_X l G f d mc ms Q (pc + 3) ls st sh M J kc ks) : x_X l G f d mc ms Q pc ls (.int y :: .int x :: st) sh M J kc ks := by
  intro p e R s m args below meth c H locs WQ arr hC hr hR hS hkc hks hl
  exact lv_icmp_ge hC.1 hC.2.1 hd ht (fun h => kt h p e R s m args below meth c H locs WQ arr hC hr hR hS hkc hks hl) (fun h => kf h p e R s m args below meth c H locs WQ arr hC hr hR hS hkc hks hl)

theorem xr_if_gt {x : Int32} {off : Int} {tgt : Nat} (hd : decode f.2.1 pc = .ok (.ifCond .gt off, 3)) (ht : (pc : Int) + off = (tgt : Int)) (kt : 0 < x → x_X l G f d mc ms Q tgt ls st sh M J kc ks) (kf : ¬ 0 < x → x_X l G f d mc ms Q (pc + 3) ls st sh M J kc ks) : x_X l G f d mc ms Q pc ls (.int x :: st) sh M J kc ks := by
  intro p e R s m args below meth c H locs WQ arr hC hr hR hS hkc hks hl
  exact lv_if_gt hC.1 hC.2.1 hd ht (fun h => kt h p e R s m args below meth c H locs WQ arr hC hr hR hS hkc hks hl) (fun h => kf h p e R s m args below meth c H locs WQ arr hC hr hR hS hkc hks hl)

theorem xr_icmp_gt {x y : Int32} {off : Int} {tgt : Nat} (hd : decode f.2.1 pc = .ok (.if_icmp .gt off, 3)) (ht : (pc : Int) + off = (tgt : Int)) (kt : y < x → x_X l G f d mc ms Q tgt ls st sh M J kc ks) (kf : ¬ y < x → x_X l G f d mc ms Q (pc + 3) ls st sh M J kc ks) : x_X l G f d mc ms Q pc ls (.int y :: .int x :: st) sh M J kc ks := by
  intro p e R s m args below meth c H locs WQ arr hC hr hR hS hkc hks hl
  exact lv_icmp_gt hC.1 hC.2.1 hd ht (fun h => kt h p e R s m args below meth c H locs WQ arr hC hr hR hS hkc hks hl) (fun h => kf h p e R s m args below meth c H locs WQ arr hC hr hR hS hkc hks hl)

theorem xr_if_le {x : Int32} {off : Int} {tgt : Nat} (hd : decode f.2.1 pc = .ok (.ifCond .le off, 3)) (ht : (pc : Int) + off = (tgt : Int)) (kt : x ≤ 0 → x_X l G f d mc ms Q tgt ls st sh M J kc ks) (kf : ¬ x ≤ 0 → x_X l G f d mc ms Q (pc + 3) ls st sh M J kc ks) : x_X l G f d mc ms Q pc ls (.int x :: st) sh M J kc ks := by
  intro p e R s m args below meth c H locs WQ arr hC hr hR hS hkc hks hl
  exact lv_if_le hC.1 hC.2.1 hd ht (fun h => kt h p e R s m args below meth c H locs WQ arr hC hr hR hS hkc hks hl) (fun h => kf h p e R s m args below meth c H locs WQ arr hC hr hR hS hkc hks hl)

theorem xr_icmp_le {x y : Int32} {off : Int} {tgt : Nat} (hd : decode f.2.1 pc = .ok (.if_icmp .le off, 3)) (ht : (pc : Int) + off = (tgt : Int)) (kt : x ≤ y → x_X l G f d mc ms Q tgt ls st sh M J kc ks) (kf : ¬ x ≤ y → x_X l G f d mc ms Q (pc + 3) ls st sh M J kc ks) : x_X l G f d mc ms Q pc ls (.int y :: .int x :: st) sh M J kc ks := by
  intro p e R s m args below meth c H locs WQ arr hC hr hR hS hkc hks hl
  exact lv_icmp_le hC.1 hC.2.1 hd ht (fun h => kt h p e R s m args below meth c H locs WQ arr hC hr hR hS hkc hks hl) (fun h => kf h p e R s m args below meth c H locs WQ arr hC hr hR hS hkc hks hl)

theorem xr_goto {off : Int} {tgt : Nat} (hd : decode f.2.1 pc = .ok (.goto off, 3)) (ht : (pc : Int) + off = (tgt : Int)) (k : x_X l G f d mc ms Q tgt ls st sh M J kc ks) : x_X l G f d mc ms Q pc ls st sh M J kc ks := by
  intro p e R s m args below meth c H locs WQ arr hC hr hR hS hkc hks hl
  exact lv_goto hC.1 hC.2.1 hd ht (k p e R s m args below meth c H locs WQ arr hC hr hR hS hkc hks hl)

theorem xr_tableOut {dflt lo hi : Int} {offs : Array Int} {len : Nat} {x : Int32} {tgt : Nat} (hd : decode f.2.1 pc = .ok (.tableswitch dflt lo hi offs, len)) (h : x.toInt < lo ∨ hi < x.toInt) (ht : (pc : Int) + dflt = (tgt : Int)) (k : x_X l G f d mc ms Q tgt ls st sh M J kc ks) : x_X l G f d mc ms Q pc ls (.int x :: st) sh M J kc ks := by
  intro p e R s m args below meth c H locs WQ arr hC hr hR hS hkc hks hl
  exact lv_tableOut hC.1 hC.2.1 hd h ht (k p e R s m args below meth c H locs WQ arr hC hr hR hS hkc hks hl)

theorem xr_tableIn {dflt lo hi : Int} {offs : Array Int} {len : Nat} {x : Int32} {off : Int} {tgt : Nat} (hd : decode f.2.1 pc = .ok (.tableswitch dflt lo hi offs, len)) (h1 : ¬ x.toInt < lo) (h2 : ¬ hi < x.toInt) (ho : offs[(x.toInt - lo).toNat]? = some off) (ht : (pc : Int) + off = (tgt : Int)) (k : x_X l G f d mc ms Q tgt ls st sh M J kc ks) : x_X l G f d mc ms Q pc ls (.int x :: st) sh M J kc ks := by
  intro p e R s m args below meth c H locs WQ arr hC hr hR hS hkc hks hl
  exact lv_tableIn hC.1 hC.2.1 hd h1 h2 ho ht (k p e R s m args below meth c H locs WQ arr hC hr hR hS hkc hks hl)

theorem xr_lookup {dflt : Int} {ps : Array (Int × Int)} {len : Nat} {x : Int32} {off : Int} {tgt : Nat} (hd : decode f.2.1 pc = .ok (.lookupswitch dflt ps, len)) (hp : (ps.toList.zip (ps.toList.drop 1)).all (fun (a, next) => a.1 < next.1) = true) (ho : Op.lookupswitch.offset ps.toList dflt x.toInt = off) (ht : (pc : Int) + off = (tgt : Int)) (k : x_X l G f d mc ms Q tgt ls st sh M J kc ks) : x_X l G f d mc ms Q pc ls (.int x :: st) sh M J kc ks := by
  intro p e R s m args below meth c H locs WQ arr hC hr hR hS hkc hks hl
  exact lv_lookup hC.1 hC.2.1 hd hp ho ht (k p e R s m args below meth c H locs WQ arr hC hr hR hS hkc hks hl)

theorem xr_ldc {i : Nat} {v : Int32} (hc : Cond.constant f.1.cls i v ∈ xU) (hd : decode f.2.1 pc = .ok (.ldc i, 2)) (k : x_X l G f d mc ms Q (pc + 2) ls (.int v :: st) sh M J kc ks) : x_X l G f d mc ms Q pc ls st sh M J kc ks := by
  intro p e R s m args below meth c H locs WQ arr hC hr hR hS hkc hks hl
  exact lv_ldc hC.1 hC.2.1 hC.2.2.2.2.1 (hC.2.2.2.2.2.1 _ hc) hd (k p e R s m args below meth c H locs WQ arr hC hr hR hS hkc hks hl)

theorem xr_ldcw {i : Nat} {v : Int32} (hc : Cond.constant f.1.cls i v ∈ xU) (hd : decode f.2.1 pc = .ok (.ldc_w i, 3)) (k : x_X l G f d mc ms Q (pc + 3) ls (.int v :: st) sh M J kc ks) : x_X l G f d mc ms Q pc ls st sh M J kc ks := by
  intro p e R s m args below meth c H locs WQ arr hC hr hR hS hkc hks hl
  exact lv_ldcw hC.1 hC.2.1 hC.2.2.2.2.1 (hC.2.2.2.2.2.1 _ hc) hd (k p e R s m args below meth c H locs WQ arr hC hr hR hS hkc hks hl)

theorem xr_ldc2 {i : Nat} {v : Int64} (hc : Cond.constantLong f.1.cls i v ∈ xU) (hd : decode f.2.1 pc = .ok (.ldc2_w i, 3)) (k : x_X l G f d mc ms Q (pc + 3) ls (.long v :: st) sh M J kc ks) : x_X l G f d mc ms Q pc ls st sh M J kc ks := by
  intro p e R s m args below meth c H locs WQ arr hC hr hR hS hkc hks hl
  exact lv_ldc2 hC.1 hC.2.1 hC.2.2.2.2.1 (hC.2.2.2.2.2.1 _ hc) hd (k p e R s m args below meth c H locs WQ arr hC hr hR hS hkc hks hl)

theorem xr_getR {idx ci kf a q : Nat} {fs : List (Option (Option Nat))} (fl : x_FL f.1.cls idx ci kf) (hd : decode f.2.1 pc = .ok (.getfield idx, 3)) (hs : sh[a]? = some (.inl (ci, fs))) (hk : fs[kf]? = some (some (some q))) (k : x_X l G f d mc ms Q (pc + 3) ls (.ref q :: st) sh M J kc ks) : x_X l G f d mc ms Q pc ls (.ref a :: st) sh M J kc ks := by
  intro p e R s m args below meth c H locs WQ arr hC hr hR hS hkc hks hl
  obtain ⟨C, T, N, h1, h2, h3, h4⟩ := fl
  exact va_get hC.1 hC.2.1 hC.2.2.2.2.2.1 h3 hC.2.2.2.2.1 hC.2.2.2.2.2.2.1 hR.1 a (x_w_get hs) h1 kf h2 (hC.2.2.2.2.2.1 _ h4) (fun _ h => h) (x_fs_getR hk) hd (k p e R s m args below meth c H locs WQ arr hC hr hR hS hkc hks hl)
theorem xr_getI {idx ci kf a : Nat} {fs : List (Option (Option Nat))} (fl : x_FL f.1.cls idx ci kf) (hd : decode f.2.1 pc = .ok (.getfield idx, 3)) (hs : sh[a]? = some (.inl (ci, fs))) (hk : fs[kf]? = some none) (k : x_X l G f d mc ms Q (pc + 3) ls (.int (M a kf) :: st) sh M J kc ks) : x_X l G f d mc ms Q pc ls (.ref a :: st) sh M J kc ks := by
  intro p e R s m args below meth c H locs WQ arr hC hr hR hS hkc hks hl
  obtain ⟨C, T, N, h1, h2, h3, h4⟩ := fl
  exact va_get hC.1 hC.2.1 hC.2.2.2.2.2.1 h3 hC.2.2.2.2.1 hC.2.2.2.2.2.2.1 hR.1 a (x_w_get hs) h1 kf h2 (hC.2.2.2.2.2.1 _ h4) (fun _ h => h) (x_fs_get hk) hd (k p e R s m args below meth c H locs WQ arr hC hr hR hS hkc hks hl)
theorem x_putW {fin : Bool} {idx ci kf a : Nat} {ty : FieldType} {v : Value} {fs : List (Option (Option Nat))} {p : Program} {e : Env} {R : Room} {s : State} {m : MethodId} {args : Array Value} {below : List Frame} {meth : Method} {c : Code} {H : Heap} {locs : List Loc} {WQ : State → Prop} {arr : Array Slot} {rest : List Value}
    (fl : x_FP f.1.cls idx ci kf fin ty) (hfi : fin = true → f.1.name = "<init>") (hd : decode f.2.1 pc = .ok (.putfield idx, 3)) (hs : sh[a]? = some (.inl (ci, fs))) (hk : kf < fs.length) (hn : narrow ty v = v) (hf : fits ty v = true) (hC : x_C G f d mc ms p R s m args meth c) (hR : x_R G sh M J H) (hS : va_S (x_A G) s.heap H locs)
    (k : ∀ (H1 : Heap) (locs1 : List Loc), va_P G.1 vwCl ((x_w G sh M J).set a (x_ad G a, .inr (ci, (x_fs G M a fs).set kf v))) H1 → H1.size = H.size → va_S (x_A G) s.heap H1 locs1 → W p l e R s m args below meth c H1 locs1 kc ks WQ (F0 m (pc + 3) arr rest)) : W p l e R s m args below meth c H locs kc ks WQ (F0 m pc arr (v :: .ref (x_ad G a) :: rest)) := by
  obtain ⟨C, T, N, ty0, h1, h2, h3, h4, h5, h6, h7, h8, h9⟩ := fl
  have hts := hC.2.2.2.2.2.1
  have hK : va_K G.1 vwCl (x_ty G) s := hC.2.2.2.2.2.2.1
  have hD : va_D (x_A G) (x_w G sh M J) := x_D hR.2.2
  have he : (x_w G sh M J)[a]? = some (x_ad G a, .inr (ci, x_fs G M a fs)) := x_w_get hs
  have hap := va_apart (own := C) hts h3 ty0 h5 h6 hK h1
  obtain ⟨r, g1, cell, q1, q2, q3, q4⟩ := hR.1 a _ he
  cases g1.symm.trans h1
  obtain ⟨hSl, hfc, kC, hkC, hkind⟩ := hK.1 ci _ h1
  obtain ⟨cf, kk2, fi, fd, hi, hsl⟩ := hSl kf h2
  have hlay := hts _ (h3 _ (u_in_lay h2))
  have hst := (u_facts hfc hkC (u_lays hts h3 h2) hi).1
  have hl : kf < (x_fs G M a fs).length := by rw [x_fs_len]; exact hk
  have done : ∀ (H' : Heap) (locs' : List Loc), H'[x_ad G a]? = some (cell.setSlot (G.1.2 ci kf) v) → H'.size = H.size → (∀ q, q ≠ x_ad G a → H'[q]? = H[q]?) → va_S (x_A G) s.heap H' locs' → W p l e R s m args below meth c H' locs' kc ks WQ (F0 m (pc + 3) arr rest) := fun H' locs' e1 e2 e3 hS1 =>
    k H' _ (hR.1.set hD he ⟨_, h1, t_OB.to (V := updV (vp_V (x_fs G M a fs)) kf v) ⟨_, e1, q2, q3, t_set q4 hap h2 v⟩ (fun j _ => vp_updV_set hl v j)⟩ e3) e2 hS1
  unfold u_lay at hlay
  cases fin with
  | false =>
    rw [if_neg (by rw [h7]; decide)] at hlay
    have h10 := u_store hfc hkC hkind hlay hi h8 hn hf
    refine W.putK hC.1 hC.2.1 (f := fd) ⟨hC.2.2.2.2.1, hts _ h4, ⟨_, _, _, hi⟩, hst⟩ (by rw [q2]; exact h10) q1 q3 (by rw [hsl]; exact k2_hasslot (q4 kf h2)) rfl rfl hd fun H' e1 e2 e3 => ?_
    rw [hsl] at e1 ⊢
    exact done H' _ e1 e2 e3 (hS.put e2 e3 (hD.2 a _ he))
  | true =>
    rw [if_pos h7] at hlay
    have hcf : m.cls = cf := by
      obtain ⟨_, _, c', _, _, _, -, -, hf', -, -, -, hown2, -⟩ := Cond.laysFinal_spec hlay
      have z := hi.symm.trans hf'
      simp at z
      rw [h9 rfl] at hown2
      rw [z.1]
      exact Option.some.inj (hC.2.2.2.2.1.symm.trans hown2)
    have h10 := u_fits hfc hkC hkind (Or.inr hlay) hi h8 hn hf
    refine W.putFinK hC.1 hC.2.1 hC.2.2.2.2.1 (hts _ h4) hi hst hcf (hC.2.2.2.2.2.2.2.2.2.2.1 (hfi rfl)) (by rw [q2]; exact h10) q1 q3 (by rw [hsl]; exact k2_hasslot (q4 kf h2)) rfl rfl hd fun H' e1 e2 e3 => ?_
    rw [hsl] at e1 ⊢
    exact done H' _ e1 e2 e3 (hS.put e2 e3 (hD.2 a _ he))
theorem xr_putI {idx ci kf a : Nat} {ty : FieldType} {v : Int32} {fs : List (Option (Option Nat))} (fl : x_FP f.1.cls idx ci kf false ty) (hd : decode f.2.1 pc = .ok (.putfield idx, 3)) (hs : sh[a]? = some (.inl (ci, fs))) (hk : fs[kf]? = some none) (hn : narrow ty (.int v) = .int v) (hf : fits ty (.int v) = true) (k : x_X l G f d mc ms Q (pc + 3) ls st sh (x_up M a kf v) J kc ks) : x_X l G f d mc ms Q pc ls (.int v :: .ref a :: st) sh M J kc ks := by
  intro p e R s m args below meth c H locs WQ arr hC hr hR hS hkc hks hl
  refine x_putW (v := .int v) fl (fun h => by cases h) hd hs (List.getElem?_eq_some_iff.mp hk).1 hn hf hC hR hS (fun H1 locs1 hP hz hS1 => ?_)
  rw [x_fs_set hk] at hP
  have hP2 := hP
  rw [show (x_w G sh M J).set a (x_ad G a, .inr (ci, x_fs G (x_up M a kf v) a fs)) = x_w G sh (x_up M a kf v) J from (x_w_set (M' := x_up M a kf v) (J' := J) (.inl (ci, fs)) hs (fun i hi => x_up_n M kf v hi) (fun _ _ => rfl)).trans (by rw [x_sh_set hs])] at hP2
  exact k p e R s m args below meth c H1 locs1 WQ arr hC hr ⟨hP2, fun h => by rw [hz]; exact hR.2.1 h, hR.2.2⟩ hS1 hkc hks hl
theorem xr_putR {idx ci kf a q : Nat} {ty : FieldType} {o : Option (Option Nat)} {fs : List (Option (Option Nat))} (fl : x_FP f.1.cls idx ci kf true ty) (hfi : f.1.name = "<init>") (hd : decode f.2.1 pc = .ok (.putfield idx, 3)) (hs : sh[a]? = some (.inl (ci, fs))) (hk : fs[kf]? = some o) (hn : ∀ q, narrow ty (.ref q) = .ref q) (hf : ∀ q, fits ty (.ref q) = true) (k : x_X l G f d mc ms Q (pc + 3) ls st (sh.set a (.inl (ci, fs.set kf (some (some q))))) M J kc ks) : x_X l G f d mc ms Q pc ls (.ref q :: .ref a :: st) sh M J kc ks := by
  intro p e R s m args below meth c H locs WQ arr hC hr hR hS hkc hks hl
  refine x_putW (v := .ref (x_ad G q)) fl (fun _ => hfi) hd hs (List.getElem?_eq_some_iff.mp hk).1 (hn _) (hf _) hC hR hS (fun H1 locs1 hP hz hS1 => ?_)
  rw [x_fs_setR hk] at hP
  have hP2 := hP
  rw [show (x_w G sh M J).set a (x_ad G a, .inr (ci, x_fs G M a (fs.set kf (some (some q))))) = x_w G (sh.set a (.inl (ci, fs.set kf (some (some q))))) M J from x_w_set (M' := M) (J' := J) (.inl (ci, fs.set kf (some (some q)))) hs (fun _ _ => rfl) (fun _ _ => rfl)] at hP2
  exact k p e R s m args below meth c H1 locs1 WQ arr hC hr ⟨hP2, fun h => by rw [hz, List.length_set]; exact hR.2.1 (by rw [List.length_set] at h; exact h), by rw [List.length_set]; exact hR.2.2⟩ hS1 hkc hks hl
/-! arrays -/
theorem xr_iald {a n : Nat} {g : Nat → Option Nat} {i : Int32} (hd : decode f.2.1 pc = .ok (.iaload, 1)) (hs : sh[a]? = some (.inr (0, n, g))) (hin : vp_in i n) (k : x_X l G f d mc ms Q (pc + 1) ls (.int (M a i.toNatClampNeg) :: st) sh M J kc ks) : x_X l G f d mc ms Q pc ls (.int i :: .ref a :: st) sh M J kc ks := by
  intro p e R s m args below meth c H locs WQ arr hC hr hR hS hkc hks hl
  exact va_iald hC.1 hC.2.1 hC.2.2.2.2.2.2.1 hR.1 a 0 (x_w_get hs) rfl hin hd (k p e R s m args below meth c H locs WQ arr hC hr hR hS hkc hks hl)
theorem xr_zald {a n : Nat} {g : Nat → Option Nat} {i : Int32} (hd : decode f.2.1 pc = .ok (.baload, 1)) (hs : sh[a]? = some (.inr (1, n, g))) (hin : vp_in i n) (k : x_X l G f d mc ms Q (pc + 1) ls (.int (M a i.toNatClampNeg) :: st) sh M J kc ks) : x_X l G f d mc ms Q pc ls (.int i :: .ref a :: st) sh M J kc ks := by
  intro p e R s m args below meth c H locs WQ arr hC hr hR hS hkc hks hl
  exact va_zald hC.1 hC.2.1 hC.2.2.2.2.2.2.1 hR.1 a 1 (x_w_get hs) rfl hin hd (k p e R s m args below meth c H locs WQ arr hC hr hR hS hkc hks hl)
theorem xr_lald {a n : Nat} {g : Nat → Option Nat} {i : Int32} (hd : decode f.2.1 pc = .ok (.laload, 1)) (hs : sh[a]? = some (.inr (2, n, g))) (hin : vp_in i n) (k : x_X l G f d mc ms Q (pc + 1) ls (.long (J a i.toNatClampNeg) :: st) sh M J kc ks) : x_X l G f d mc ms Q pc ls (.int i :: .ref a :: st) sh M J kc ks := by
  intro p e R s m args below meth c H locs WQ arr hC hr hR hS hkc hks hl
  exact va_lald hC.1 hC.2.1 hC.2.2.2.2.2.2.1 hR.1 a 2 (x_w_get hs) rfl hin hd (k p e R s m args below meth c H locs WQ arr hC hr hR hS hkc hks hl)
theorem xr_aald {a n t q : Nat} {g : Nat → Option Nat} {i : Int32} (ht : t = 3 ∨ t = 4) (hd : decode f.2.1 pc = .ok (.aaload, 1)) (hs : sh[a]? = some (.inr (t, n, g))) (hin : vp_in i n) (hg : g i.toNatClampNeg = some q) (k : x_X l G f d mc ms Q (pc + 1) ls (.ref q :: st) sh M J kc ks) : x_X l G f d mc ms Q pc ls (.int i :: .ref a :: st) sh M J kc ks := by
  intro p e R s m args below meth c H locs WQ arr hC hr hR hS hkc hks hl
  have hk := k p e R s m args below meth c H locs WQ arr hC hr hR hS hkc hks hl
  have key : va_rf ((fun i => (g i).map (x_ad G)) i.toNatClampNeg) = .ref (x_ad G q) := by show va_rf ((g i.toNatClampNeg).map (x_ad G)) = _; rw [hg]; rfl
  rcases ht with rfl | rfl
  · exact va_aldq hC.1 hC.2.1 hC.2.2.2.2.2.2.1 hR.1 a 3 (C := RX2) (x_w_get hs) rfl hin hd (by rw [key]; exact hk)
  · exact va_aldq hC.1 hC.2.1 hC.2.2.2.2.2.2.1 hR.1 a 4 (C := RX6) (x_w_get hs) rfl hin hd (by rw [key]; exact hk)
theorem x_stored {a : Nat} {e2 : xS} {M2 : xM} {J2 : xJ} {H H1 : Heap} (hR : x_R G sh M J H) (hs : sh[a]? = some e2) (hM : ∀ i, i ≠ a → M2 i = M i) (hJ : ∀ i, i ≠ a → J2 i = J i) (e' : xS) (hc : va_at G.1 vwCl (x_ad G a, x_e G M2 J2 a e') H1) (z : H1.size = H.size) (oq : ∀ q, q ≠ x_ad G a → H1[q]? = H[q]?) : x_R G (sh.set a e') M2 J2 H1 := by
  refine ⟨?_, fun h => by rw [z, List.length_set]; exact hR.2.1 (by rw [List.length_set] at h; exact h), by rw [List.length_set]; exact hR.2.2⟩
  rw [← x_w_set (M := M) (J := J) e' hs hM hJ]
  exact hR.1.set (x_D hR.2.2) (x_w_get hs) hc oq
theorem xr_iast {a n : Nat} {g : Nat → Option Nat} {i v : Int32} (hd : decode f.2.1 pc = .ok (.iastore, 1)) (hs : sh[a]? = some (.inr (0, n, g))) (hin : vp_in i n) (k : x_X l G f d mc ms Q (pc + 1) ls st sh (x_up M a i.toNatClampNeg v) J kc ks) : x_X l G f d mc ms Q pc ls (.int v :: .int i :: .ref a :: st) sh M J kc ks := by
  intro p e R s m args below meth c H locs WQ arr hC hr hR hS hkc hks hl
  have hD := x_D (G := G) (M := M) (J := J) hR.2.2
  have hK : va_K G.1 vwCl (x_ty G) s := hC.2.2.2.2.2.2.1
  have ha : (x_w G sh M J)[a]? = some (x_ad G a, .inl (G.2.1 0, n, .inl (M a))) := x_w_get hs
  refine W.iast hC.1 hC.2.1 (hR.1 a _ ha) ((hK.2 0 _ rfl).1 n (fun j => .int (M a j))) (fun q => by cases q) (by show ¬ (i < 0 ∨ (arrV _ _ _).slots.size ≤ _); rw [arrV_size]; exact hin) rfl rfl hd fun H1 e z oq => ?_
  have hR2 := x_stored (J2 := J) hR hs (fun j hj => x_up_n M i.toNatClampNeg v hj) (fun _ _ => rfl) (.inr (0, n, g)) (H1 := H1) (by
    show H1[x_ad G a]? = some (vp_cell (G.2.1 0) (n, .inl (x_up M a i.toNatClampNeg v a)))
    rw [e, vp_cell_i, vp_cell_i, arrV_store, x_up_r]
    congr 2
    funext q
    by_cases hq : q = i.toNatClampNeg
    · subst hq; simp [updV, upd]
    · simp [updV, upd, hq]) z oq
  rw [x_sh_set hs] at hR2
  exact k p _ R s m args below meth c H1 _ WQ arr hC hr hR2 (hS.put z oq (hD.2 a _ ha)) hkc hks hl
theorem xr_zast {a n : Nat} {g : Nat → Option Nat} {i v w : Int32} (hd : decode f.2.1 pc = .ok (.bastore, 1)) (hs : sh[a]? = some (.inr (1, n, g))) (hin : vp_in i n) (hw : vp_nar .boolean v = w) (k : x_X l G f d mc ms Q (pc + 1) ls st sh (x_up M a i.toNatClampNeg w) J kc ks) : x_X l G f d mc ms Q pc ls (.int v :: .int i :: .ref a :: st) sh M J kc ks := by
  intro p e R s m args below meth c H locs WQ arr hC hr hR hS hkc hks hl
  subst hw
  have hD := x_D (G := G) (M := M) (J := J) hR.2.2
  have hK : va_K G.1 vwCl (x_ty G) s := hC.2.2.2.2.2.2.1
  have ha : (x_w G sh M J)[a]? = some (x_ad G a, .inl (G.2.1 1, n, .inl (M a))) := x_w_get hs
  refine W.zast hC.1 hC.2.1 (hR.1 a _ ha) ((hK.2 1 _ rfl).1 n (fun j => .int (M a j))) (fun q => by cases q) (by show ¬ (i < 0 ∨ (arrV _ _ _).slots.size ≤ _); rw [arrV_size]; exact hin) rfl rfl hd fun H1 e z oq => ?_
  have hR2 := x_stored (J2 := J) hR hs (fun j hj => x_up_n M i.toNatClampNeg (vp_nar .boolean v) hj) (fun _ _ => rfl) (.inr (1, n, g)) (H1 := H1) (by
    show H1[x_ad G a]? = some (vp_cell (G.2.1 1) (n, .inl (x_up M a i.toNatClampNeg (vp_nar .boolean v) a)))
    rw [e, vp_cell_i, vp_cell_i, arrV_store, x_up_r]
    congr 2
    funext q
    by_cases hq : q = i.toNatClampNeg
    · subst hq
      simp [updV, upd, vp_nar]
      try rfl
    · simp [updV, upd, hq]) z oq
  rw [x_sh_set hs] at hR2
  exact k p _ R s m args below meth c H1 _ WQ arr hC hr hR2 (hS.put z oq (hD.2 a _ ha)) hkc hks hl
theorem xr_last {a n : Nat} {g : Nat → Option Nat} {i : Int32} {v : Int64} (hd : decode f.2.1 pc = .ok (.lastore, 1)) (hs : sh[a]? = some (.inr (2, n, g))) (hin : vp_in i n) (k : x_X l G f d mc ms Q (pc + 1) ls st sh M (x_upJ J a i.toNatClampNeg v) kc ks) : x_X l G f d mc ms Q pc ls (.long v :: .int i :: .ref a :: st) sh M J kc ks := by
  intro p e R s m args below meth c H locs WQ arr hC hr hR hS hkc hks hl
  have hD := x_D (G := G) (M := M) (J := J) hR.2.2
  have hK : va_K G.1 vwCl (x_ty G) s := hC.2.2.2.2.2.2.1
  have ha : (x_w G sh M J)[a]? = some (x_ad G a, .inl (G.2.1 2, n, .inr (.inl (J a)))) := x_w_get hs
  refine W.last hC.1 hC.2.1 (hR.1 a _ ha) ((hK.2 2 _ rfl).1 n (fun j => .long (J a j))) (fun q => by cases q) (by show ¬ (i < 0 ∨ (arrV _ _ _).slots.size ≤ _); rw [arrV_size]; exact hin) rfl rfl hd fun H1 e z oq => ?_
  have hR2 := x_stored (M2 := M) hR hs (fun _ _ => rfl) (fun j hj => x_upJ_n J i.toNatClampNeg v hj) (.inr (2, n, g)) (H1 := H1) (by
    show H1[x_ad G a]? = some (vp_cell (G.2.1 2) (n, .inr (.inl (x_upJ J a i.toNatClampNeg v a))))
    rw [e, vp_cell_l, vp_cell_l, arrV_store, x_upJ_r]
    congr 2
    funext q
    by_cases hq : q = i.toNatClampNeg
    · subst hq; simp [updV, vp_updL]
    · simp [updV, vp_updL, hq]) z oq
  rw [x_sh_set hs] at hR2
  exact k p _ R s m args below meth c H1 _ WQ arr hC hr hR2 (hS.put z oq (hD.2 a _ ha)) hkc hks hl
theorem xr_aast {a n t q ci : Nat} {fs : List (Option (Option Nat))} {g : Nat → Option Nat} {i : Int32} (ht : (t = 3 ∧ ci = 2) ∨ (t = 4 ∧ ci = 6)) (hd : decode f.2.1 pc = .ok (.aastore, 1)) (hs : sh[a]? = some (.inr (t, n, g))) (hq : sh[q]? = some (.inl (ci, fs))) (hin : vp_in i n) (k : x_X l G f d mc ms Q (pc + 1) ls st (sh.set a (.inr (t, n, va_up g i.toNatClampNeg (some q)))) M J kc ks) : x_X l G f d mc ms Q pc ls (.ref q :: .int i :: .ref a :: st) sh M J kc ks := by
  intro p e R s m args below meth c H locs WQ arr hC hr hR hS hkc hks hl
  have hD := x_D (G := G) (M := M) (J := J) hR.2.2
  have hK : va_K G.1 vwCl (x_ty G) s := hC.2.2.2.2.2.2.1
  have ht2 : ¬ t < 2 ∧ ¬ t = 2 := by omega
  have ha : (x_w G sh M J)[a]? = some (x_ad G a, .inl (G.2.1 t, n, .inr (.inr (.inr (.inr (fun i => (g i).map (x_ad G))))))) := by rw [x_w_get hs]; simp only [x_e, if_neg ht2.1, if_neg ht2.2]
  obtain ⟨r, hr1, cellV, g1, g2, g3, -⟩ := hR.1 q _ (x_w_get hq)
  have hty : (x_ty G)[t]? = some (G.2.1 t, .object r.1) := by
    rcases ht with ⟨rfl, rfl⟩ | ⟨rfl, rfl⟩ <;> (cases hr1; rfl)
  have hcls := (hK.1 ci r hr1).2
  obtain ⟨kA, comp, k1, k2, k3, -⟩ := (hK.2 t _ hty).2
  have hcomp : comp = G.1.1 ci := Option.some.inj (k3.symm.trans hcls.1)
  subst hcomp
  obtain ⟨kC, hkC, -⟩ := hcls.2
  refine W.aast hC.1 hC.2.1 (hR.1 a _ ha) (fun q h => by cases h) (fun h => by cases h) k1 k2 rfl hkC ⟨fun z => hin (Or.inl z), by show _ < (arrV _ _ _).slots.size; rw [arrV_size]; exact Nat.not_le.mp fun z => hin (Or.inr z)⟩ g1 (fun q h => by rw [g3] at h; cases h) (by rw [g2]; exact hkC) (by rw [g2]; exact va_assign hcls) rfl rfl hd fun H1 e z oq => ?_
  have hR2 := x_stored (M2 := M) (J2 := J) hR hs (fun _ _ => rfl) (fun _ _ => rfl) (.inr (t, n, va_up g i.toNatClampNeg (some q))) (H1 := H1) (by
    have e3 : x_e G M J a (.inr (t, n, va_up g i.toNatClampNeg (some q))) = .inl (G.2.1 t, n, .inr (.inr (.inr (.inr (fun j => ((va_up g i.toNatClampNeg (some q)) j).map (x_ad G)))))) := by simp only [x_e, if_neg ht2.1, if_neg ht2.2]
    rw [e3]
    show H1[x_ad G a]? = some (vp_cell _ _)
    rw [e, vp_cell_q, vp_cell_q, arrV_store]
    congr 2
    funext j
    by_cases hj : j = i.toNatClampNeg
    · subst hj; simp [updV, va_up, va_rf]
    · simp [updV, va_up, hj]) z oq
  exact k p _ R s m args below meth c H1 _ WQ arr hC hr hR2 (hS.put z oq (hD.2 a _ ha)) hkc hks hl
/-! what is made -/
def x_NW (own : String) (idx ci N : Nat) (fs : List (Option (Option Nat))) : Prop := ∃ (C : String) (T : u_T) (ty0 : Nat → FieldType), vwCl[ci]? = some (C, T, N) ∧ (∀ w ∈ u_ws C T N, w ∈ xU) ∧ (∀ k, k < N → parseFieldDescriptor (T k).2.2.1 = some (ty0 k)) ∧
  Cond.classLink own idx C ∈ xU ∧ Cond.instantiable C N ∈ xU ∧ Cond.initialized C ∈ xU ∧ ∀ j, j < N → (fs[j]? = some none ∧ defaultValue (ty0 j) = .int 0) ∨ (fs[j]? = some (some none) ∧ defaultValue (ty0 j) = .null)
theorem x_pushed {e : xS} {H H1 : Heap} (hR : x_R G sh M J H) (hn : sh.length < x_N) (hc : va_at G.1 vwCl (x_ad G sh.length, x_e G M J sh.length e) H1) (z : H1.size = H.size + 1) (oq : ∀ q, q < H.size → H1[q]? = H[q]?) : x_R G (sh ++ [e]) M J H1 := by
  refine ⟨?_, fun _ => by rw [z, hR.2.1 hn, List.length_append]; rfl, by rw [List.length_append]; have : sh.length < 87 := hn; show sh.length + 1 ≤ 900; omega⟩
  rw [← x_w_push]
  refine va_P.app (hR.1.kept (fun k q hk => oq q.1 ((hR.1 k q hk).lt))) (fun k q hk => ?_)
  have hz : k < 1 := (List.getElem?_eq_some_iff.mp hk).1
  rw [show k = 0 by omega] at hk
  cases hk
  exact hc
theorem x_S_push {s : State} {H H1 : Heap} {locs : List Loc} (hS : va_S (x_A G) s.heap H locs) (z : H1.size = H.size + 1) (oq : ∀ q, q < H.size → H1[q]? = H[q]?) : va_S (x_A G) s.heap H1 locs :=
  ⟨Nat.le_trans hS.1 (by omega), fun q h1 h2 => (oq q (Nat.lt_of_lt_of_le h1 hS.1)).trans (hS.2.1 q h1 h2), hS.2.2⟩
theorem x_new_ad {H : Heap} (hR : x_R G sh M J H) (hn : sh.length < x_N) : H.size = x_ad G sh.length := by
  rw [hR.2.1 hn, x_ad_lo (by have : sh.length < 87 := hn; omega)]
theorem xr_new {idx ci N : Nat} {fs : List (Option (Option Nat))} (nw : x_NW f.1.cls idx ci N fs) (hd : decode f.2.1 pc = .ok (.new idx, 3)) (hn : sh.length < x_N) (h0 : ∀ j, M sh.length j = 0) (h1 : kc + 1 ≤ mc) (h2 : ks + N ≤ ms) (k : x_X l G f d mc ms Q (pc + 3) ls (.ref sh.length :: st) (sh ++ [.inl (ci, fs)]) M J (kc + 1) (ks + N)) : x_X l G f d mc ms Q pc ls st sh M J kc ks := by
  intro p e R s m args below meth c H locs WQ arr hC hr hR hS hkc hks hl
  obtain ⟨C, T, ty0, g1, g2, g3, g4, g5, g6, g7⟩ := nw
  have hts := hC.2.2.2.2.2.1
  have hK : va_K G.1 vwCl (x_ty G) s := hC.2.2.2.2.2.2.1
  have hKn := hK.1 ci _ g1
  have had := x_new_ad hR hn
  have hk := k p e R s m args below meth c
  refine W.newcK hC.1 hC.2.1 hC.2.2.2.2.1 (hts _ g4) (hts _ g5) (hts _ g6) rfl hd (by rw [← hC.2.2.2.2.2.2.2.2.1.2.2.1]; exact h1) (by rw [← hC.2.2.2.2.2.2.2.2.1.2.2.2]; exact h2) hKn.2.1 had fun H1 kC hkC e1 z1 o1 => ?_
  rw [← had] at z1 o1
  have hR2 := x_pushed (e := .inl (ci, fs)) hR hn (H1 := H1) ⟨_, g1, (u_born ty0 hts g2 hKn hkC e1 g3).to (fun j hj => by
    rcases g7 j hj with ⟨q1, q2⟩ | ⟨q1, q2⟩
    · show defaultValue (ty0 j) = (x_fs G M sh.length fs).getD j .null
      rw [List.getD_eq_getElem?_getD, x_fs_get q1, q2, h0]
      rfl
    · show defaultValue (ty0 j) = (x_fs G M sh.length fs).getD j .null
      rw [List.getD_eq_getElem?_getD, x_fs_getR q1, q2]
      rfl)⟩ z1 o1
  exact hk H1 locs WQ arr hC hr hR2 (x_S_push hS z1 o1) h1 h2 hl
theorem x_cA {s : State} {t : Nat} {cA : ClassId} (hK : x_K G s) (ht : t < 3) (h : s.vm.findClass ("[" ++ (x_tyOf t).toString) = some cA) : cA = G.2.1 t := by
  have h3 : va_RA s (G.2.1 t) (x_tyOf t) := by
    match t, ht with
    | 0, _ => exact (hK.2 0 _ rfl).2
    | 1, _ => exact (hK.2 1 _ rfl).2
    | 2, _ => exact (hK.2 2 _ rfl).2
  have h4 : s.vm.findClass ("[" ++ (x_tyOf t).toString) = some (G.2.1 t) := by
    match t, ht with
    | 0, _ => exact h3
    | 1, _ => exact h3
    | 2, _ => exact h3
  exact Option.some.inj (h.symm.trans h4)
theorem xr_newI {t N : Nat} {n : Int32} {atype : ArrayType} (ht : t < 2) (hty : newarray.typeOf atype = x_tyOf t) (hw : Cond.arrayClass (x_tyOf t) ∈ xU) (hd : decode f.2.1 pc = .ok (.newarray atype, 2)) (hn0 : ¬ n < 0) (hnN : n.toNatClampNeg = N) (hN : N ≤ 1000) (hn : sh.length < x_N) (h0 : ∀ j, M sh.length j = 0) (h1 : kc + 1 ≤ mc) (h2 : ks + N ≤ ms) (k : x_X l G f d mc ms Q (pc + 2) ls (.ref sh.length :: st) (sh ++ [.inr (t, N, fun _ => none)]) M J (kc + 1) (ks + N)) : x_X l G f d mc ms Q pc ls (.int n :: st) sh M J kc ks := by
  intro p e R s m args below meth c H locs WQ arr hC hr hR hS hkc hks hl
  have had := x_new_ad hR hn
  have hk := k p e R s m args below meth c
  have hcb : componentBytes (x_tyOf t) ≤ 8 := by
    match t, ht with
    | 0, _ => decide
    | 1, _ => decide
  refine va_newaK hC.1 hC.2.1 (atype := atype) (by rw [hty]; exact hC.2.2.2.2.2.1 _ hw) rfl hd rfl hn0 hnN (by rw [hty]; exact Nat.le_trans (Nat.mul_le_mul hN hcb) (by decide)) (by rw [← hC.2.2.2.2.2.2.2.2.1.2.2.1]; exact h1) (by rw [← hC.2.2.2.2.2.2.2.2.1.2.2.2]; exact h2) had fun H1 cA e1 z1 o1 hAr hNm => ?_
  rw [← had] at z1 o1
  rw [hty] at e1 hNm
  have hcA := x_cA hC.2.2.2.2.2.2.1 (Nat.lt_of_lt_of_le ht (by decide)) hNm
  subst hcA
  have hR2 := x_pushed (e := .inr (t, N, fun _ => none)) hR hn (H1 := H1) (by
    have e3 : x_e G M J sh.length (.inr (t, N, fun _ => none)) = .inl (G.2.1 t, N, .inl (M sh.length)) := by simp only [x_e, if_pos ht]
    rw [e3]
    show H1[x_ad G sh.length]? = some (vp_cell _ _)
    rw [e1, vp_cell_i]
    congr 2
    funext j
    rw [h0]
    match t, ht with
    | 0, _ => rfl
    | 1, _ => rfl) z1 o1
  exact hk H1 locs WQ arr hC hr hR2 (x_S_push hS z1 o1) h1 h2 hl
theorem xr_newJ {N : Nat} {n : Int32} (hw : Cond.arrayClass .long ∈ xU) (hd : decode f.2.1 pc = .ok (.newarray .long, 2)) (hn0 : ¬ n < 0) (hnN : n.toNatClampNeg = N) (hN : N ≤ 1000) (hn : sh.length < x_N) (h0 : ∀ j, J sh.length j = 0) (h1 : kc + 1 ≤ mc) (h2 : ks + N ≤ ms) (k : x_X l G f d mc ms Q (pc + 2) ls (.ref sh.length :: st) (sh ++ [.inr (2, N, fun _ => none)]) M J (kc + 1) (ks + N)) : x_X l G f d mc ms Q pc ls (.int n :: st) sh M J kc ks := by
  intro p e R s m args below meth c H locs WQ arr hC hr hR hS hkc hks hl
  have had := x_new_ad hR hn
  have hk := k p e R s m args below meth c
  refine va_newaK hC.1 hC.2.1 (atype := .long) (hC.2.2.2.2.2.1 _ hw) rfl hd rfl hn0 hnN (Nat.le_trans (Nat.mul_le_mul hN (show componentBytes (newarray.typeOf .long) ≤ 8 by decide)) (by decide)) (by rw [← hC.2.2.2.2.2.2.2.2.1.2.2.1]; exact h1) (by rw [← hC.2.2.2.2.2.2.2.2.1.2.2.2]; exact h2) had fun H1 cA e1 z1 o1 hAr hNm => ?_
  rw [← had] at z1 o1
  have hcA := x_cA (t := 2) hC.2.2.2.2.2.2.1 (by decide) hNm
  subst hcA
  have hR2 := x_pushed (e := .inr (2, N, fun _ => none)) hR hn (H1 := H1) (by
    show H1[x_ad G sh.length]? = some (vp_cell (G.2.1 2) (N, .inr (.inl (J sh.length))))
    rw [e1, vp_cell_l]
    congr 2
    funext j
    rw [h0]
    rfl) z1 o1
  exact hk H1 locs WQ arr hC hr hR2 (x_S_push hS z1 o1) h1 h2 hl
theorem xr_newq {t N idx : Nat} {n : Int32} {C : String} (ht : (t = 3 ∧ C = RX2) ∨ (t = 4 ∧ C = RX6)) (hw : Cond.classLink f.1.cls idx C ∈ xU) (hw2 : Cond.arrayOver (.object C) ∈ xU) (hd : decode f.2.1 pc = .ok (.anewarray idx, 3)) (hn0 : ¬ n < 0) (hnN : n.toNatClampNeg = N) (hN : N ≤ 1000) (hn : sh.length < x_N) (h1 : kc + 1 ≤ mc) (h2 : ks + N ≤ ms) (k : x_X l G f d mc ms Q (pc + 3) ls (.ref sh.length :: st) (sh ++ [.inr (t, N, fun _ => none)]) M J (kc + 1) (ks + N)) : x_X l G f d mc ms Q pc ls (.int n :: st) sh M J kc ks := by
  intro p e R s m args below meth c H locs WQ arr hC hr hR hS hkc hks hl
  have had := x_new_ad hR hn
  have hk := k p e R s m args below meth c
  subst hnN
  have hts := hC.2.2.2.2.2.1
  refine W.anew hC.1 hC.2.1 hC.2.2.2.2.1 (hts _ hw) (hts _ hw2) rfl hd rfl hn0 (by omega) (by rw [← hC.2.2.2.2.2.2.2.2.1.2.2.1]; exact h1) (by rw [← hC.2.2.2.2.2.2.2.2.1.2.2.2]; exact h2) fun cA kA comp f1 f2 f3 f4 => ?_
  generalize hH1 : H.push ({ cls := cA, slots := Array.replicate n.toNatClampNeg .null, vm := .none } : Cell) = H1
  have z1 : H1.size = H.size + 1 := by rw [← hH1, Array.size_push]
  have e1 : H1[H.size]? = some (arrV cA n.toNatClampNeg (fun _ => .null)) := by rw [← hH1, Array.getElem?_push_size, ← arrV_new]
  have o1 : ∀ q : Nat, q < H.size → H1[q]? = H[q]? := fun q hq => by rw [← hH1, Array.getElem?_push, if_neg (Nat.ne_of_lt hq)]
  have ht2 : ¬ t < 2 ∧ ¬ t = 2 := by omega
  have hcA : cA = G.2.1 t := by
    rcases ht with ⟨rfl, rfl⟩ | ⟨rfl, rfl⟩
    · obtain ⟨_, _, -, -, -, q4⟩ := (hC.2.2.2.2.2.2.1.2 3 _ rfl).2
      exact Option.some.inj (f1.symm.trans q4)
    · obtain ⟨_, _, -, -, -, q4⟩ := (hC.2.2.2.2.2.2.1.2 4 _ rfl).2
      exact Option.some.inj (f1.symm.trans q4)
  subst hcA
  have hR2 := x_pushed (e := .inr (t, n.toNatClampNeg, fun _ => none)) hR hn (H1 := H1) (by
    have e3 : x_e G M J sh.length (.inr (t, n.toNatClampNeg, fun _ => none)) = .inl (G.2.1 t, n.toNatClampNeg, .inr (.inr (.inr (.inr (fun _ => none))))) := by simp only [x_e, if_neg ht2.1, if_neg ht2.2]; rfl
    rw [e3, ← had]
    show H1[H.size]? = some (vp_cell _ _)
    rw [e1, vp_cell_q]
    rfl) z1 o1
  rw [had]
  exact hk H1 locs WQ arr hC hr hR2 (x_S_push hS z1 o1) h1 h2 hl
theorem xr_objInit {idx a : Nat} (hw : Cond.methodLink f.1.cls idx objectInit ∈ xU) (hw2 : Cond.instanceMethod objectInit ∈ xU) (hw3 : Cond.code objectInit ⟨#[0xb1]⟩ 1 none ∈ xU) (hd : decode f.2.1 pc = .ok (.invokespecial idx, 3)) (hst : (st.map fun v => v.category).sum ≤ 8) (hd1 : 1 ≤ d) (k : x_X l G f d mc ms Q (pc + 3) ls st sh M J kc ks) : x_X l G f d mc ms Q pc ls (.ref a :: st) sh M J kc ks := by
  intro p e R s m args below meth c H locs WQ arr hC hr hR hS hkc hks hl
  have hts := hC.2.2.2.2.2.1
  refine W.objInit hC.1 hC.2.1 hC.2.2.2.2.1 (hts _ hw) (hts _ hw2) (hts _ hw3) rfl (by rw [hC.2.2.1]; exact hl.1) rfl hd (Nat.le_trans hd1 hC.2.2.2.2.2.2.2.2.1.1) (by
    have h8 : ((st.map (x_rn G)).map fun v => v.category).sum ≤ 8 := by rw [List.map_map]; exact (show (st.map ((fun v => v.category) ∘ x_rn G)).sum = (st.map fun v => v.category).sum by congr 1; exact List.map_congr_left (fun v _ => x_rn_cat G v)) ▸ hst
    have h9 := hC.2.2.2.2.2.2.2.2.1.2.1
    show 2 * 0 + _ + 12 ≤ _
    omega) (k p e R s m args below meth c H locs WQ arr hC hr hR hS hkc hks hl)
/-! static tables, the script -/
theorem xr_getsA {idx : Nat} (hw : Cond.fieldLink f.1.cls idx RX8 "ABOVE" "[I" ∈ xU) (hd : decode f.2.1 pc = .ok (.getstatic idx, 3)) (k : x_X l G f d mc ms Q (pc + 3) ls (.ref 1000 :: st) sh M J kc ks) : x_X l G f d mc ms Q pc ls st sh M J kc ks := by
  intro p e R s m args below meth c H locs WQ arr hC hr hR hS hkc hks hl
  exact va_gets hC.1 hC.2.1 hC.2.2.2.2.2.2.2.1.1 hS hC.2.2.2.2.1 (hC.2.2.2.2.2.1 _ hw) (fun _ h => h) hd (k p e R s m args below meth c H locs WQ arr hC hr hR hS hkc hks hl)
theorem xr_getsO {idx : Nat} (hw : Cond.fieldLink f.1.cls idx RX8 "OWN" "[I" ∈ xU) (hd : decode f.2.1 pc = .ok (.getstatic idx, 3)) (k : x_X l G f d mc ms Q (pc + 3) ls (.ref 1001 :: st) sh M J kc ks) : x_X l G f d mc ms Q pc ls st sh M J kc ks := by
  intro p e R s m args below meth c H locs WQ arr hC hr hR hS hkc hks hl
  exact va_gets hC.1 hC.2.1 hC.2.2.2.2.2.2.2.1.2.2.1 hS hC.2.2.2.2.1 (hC.2.2.2.2.2.1 _ hw) (fun _ h => h) hd (k p e R s m args below meth c H locs WQ arr hC hr hR hS hkc hks hl)
theorem xr_tabA {i : Int32} (hin : vp_in i 8) (hd : decode f.2.1 pc = .ok (.iaload, 1)) (k : x_X l G f d mc ms Q (pc + 1) ls (.int (x_above.getD i.toNatClampNeg 0) :: st) sh M J kc ks) : x_X l G f d mc ms Q pc ls (.int i :: .ref 1000 :: st) sh M J kc ks := by
  intro p e R s m args below meth c H locs WQ arr hC hr hR hS hkc hks hl
  exact va_ti hC.1 hC.2.1 hC.2.2.2.2.2.2.2.1.2.1 hS hin rfl hd (k p e R s m args below meth c H locs WQ arr hC hr hR hS hkc hks hl)
theorem xr_tabO {i : Int32} (hin : vp_in i 32) (hd : decode f.2.1 pc = .ok (.iaload, 1)) (k : x_X l G f d mc ms Q (pc + 1) ls (.int (x_own.getD i.toNatClampNeg 0) :: st) sh M J kc ks) : x_X l G f d mc ms Q pc ls (.int i :: .ref 1001 :: st) sh M J kc ks := by
  intro p e R s m args below meth c H locs WQ arr hC hr hR hS hkc hks hl
  exact va_ti hC.1 hC.2.1 hC.2.2.2.2.2.2.2.1.2.2.2 hS hin rfl hd (k p e R s m args below meth c H locs WQ arr hC hr hR hS hkc hks hl)
theorem xr_sld {i : Int32} (hf : f.1.cls = RL) (hin : vp_in i G.2.2.2.2.1) (hd : decode f.2.1 pc = .ok (.iaload, 1)) (k : x_X l G f d mc ms Q (pc + 1) ls (.int (G.2.2.2.2.2 i.toNatClampNeg) :: st) sh M J kc ks) : x_X l G f d mc ms Q pc ls (.int i :: .ref 1002 :: st) sh M J kc ks := by
  intro p e R s m args below meth c H locs WQ arr hC hr hR hS hkc hks hl
  obtain ⟨h1, h2, h3⟩ := hC.2.2.2.2.2.2.2.2.2.2.2 hf
  exact va_sld hC.1 hC.2.1 h1 h2 h3 hS hin hd (k p e R s m args below meth c H locs WQ arr hC hr hR hS hkc hks hl)
theorem xr_slen (hf : f.1.cls = RL) (hd : decode f.2.1 pc = .ok (.arraylength, 1)) (k : x_X l G f d mc ms Q (pc + 1) ls (.int (Int32.ofNat G.2.2.2.2.1) :: st) sh M J kc ks) : x_X l G f d mc ms Q pc ls (.ref 1002 :: st) sh M J kc ks := by
  intro p e R s m args below meth c H locs WQ arr hC hr hR hS hkc hks hl
  obtain ⟨h1, h2, h3⟩ := hC.2.2.2.2.2.2.2.2.2.2.2 hf
  exact va_slen hC.1 hC.2.1 h1 h2 h3 hS hd (k p e R s m args below meth c H locs WQ arr hC hr hR hS hkc hks hl)
/-! Math, arraycopy -/
theorem x_cat8 {rest : List Value} (G : xG) (h : (rest.map fun v => v.category).sum ≤ 8) : ((rest.map (x_rn G)).map fun v => v.category).sum ≤ 8 := by
  rw [List.map_map]
  have e : rest.map ((fun v => v.category) ∘ x_rn G) = rest.map fun v => v.category := List.map_congr_left (fun v _ => x_rn_cat G v)
  rw [e]
  exact h
theorem xr_max {idx : Nat} {x y : Int32} (hw : Cond.methodLink f.1.cls idx Lib.Math.max.name ∈ xU) (hw2 : Cond.static Lib.Math.max.name ∈ xU) (hw3 : Cond.initialized "java/lang/Math" ∈ xU) (hw4 : Cond.code Lib.Math.max.name Lib.Math.max.code 2 (some .int) ∈ xU) (hd : decode f.2.1 pc = .ok (.invokestatic idx, 3)) (hst : (st.map fun v => v.category).sum ≤ 8) (hd1 : 1 ≤ d) (k : x_X l G f d mc ms Q (pc + 3) ls (.int (if x < y then y else x) :: st) sh M J kc ks) : x_X l G f d mc ms Q pc ls (.int y :: .int x :: st) sh M J kc ks := by
  intro p e R s m args below meth c H locs WQ arr hC hr hR hS hkc hks hl
  have hts := hC.2.2.2.2.2.1
  have h9 := hC.2.2.2.2.2.2.2.2.1
  exact va_mmax hC.1 hC.2.1 (by rw [hC.2.2.1]; exact hl.1.symm) hC.2.2.2.2.1 (hts _ hw) (hts _ hw2) (hts _ hw3) (hts _ hw4) (Nat.le_trans hd1 h9.1) (by have h8 := x_cat8 G hst; have := h9.2.1; omega) (by rw [← h9.2.2.1]; exact hkc) (by rw [← h9.2.2.2]; exact hks) hd (k p e R s m args below meth c H locs WQ arr hC hr hR hS hkc hks hl)
theorem xr_min {idx : Nat} {x y : Int32} (hw : Cond.methodLink f.1.cls idx Lib.Math.min.name ∈ xU) (hw2 : Cond.static Lib.Math.min.name ∈ xU) (hw3 : Cond.initialized "java/lang/Math" ∈ xU) (hw4 : Cond.code Lib.Math.min.name Lib.Math.min.code 2 (some .int) ∈ xU) (hd : decode f.2.1 pc = .ok (.invokestatic idx, 3)) (hst : (st.map fun v => v.category).sum ≤ 8) (hd1 : 1 ≤ d) (k : x_X l G f d mc ms Q (pc + 3) ls (.int (if y < x then y else x) :: st) sh M J kc ks) : x_X l G f d mc ms Q pc ls (.int y :: .int x :: st) sh M J kc ks := by
  intro p e R s m args below meth c H locs WQ arr hC hr hR hS hkc hks hl
  have hts := hC.2.2.2.2.2.1
  have h9 := hC.2.2.2.2.2.2.2.2.1
  exact va_mmin hC.1 hC.2.1 (by rw [hC.2.2.1]; exact hl.1.symm) hC.2.2.2.2.1 (hts _ hw) (hts _ hw2) (hts _ hw3) (hts _ hw4) (Nat.le_trans hd1 h9.1) (by have h8 := x_cat8 G hst; have := h9.2.1; omega) (by rw [← h9.2.2.1]; exact hkc) (by rw [← h9.2.2.2]; exact hks) hd (k p e R s m args below meth c H locs WQ arr hC hr hR hS hkc hks hl)
theorem xr_abs {idx : Nat} {x : Int32} (hw : Cond.methodLink f.1.cls idx Lib.Math.abs.name ∈ xU) (hw2 : Cond.static Lib.Math.abs.name ∈ xU) (hw3 : Cond.initialized "java/lang/Math" ∈ xU) (hw4 : Cond.code Lib.Math.abs.name Lib.Math.abs.code 1 (some .int) ∈ xU) (hd : decode f.2.1 pc = .ok (.invokestatic idx, 3)) (hst : (st.map fun v => v.category).sum ≤ 8) (hd1 : 1 ≤ d) (k : x_X l G f d mc ms Q (pc + 3) ls (.int (if 0 ≤ x then x else 0 - x) :: st) sh M J kc ks) : x_X l G f d mc ms Q pc ls (.int x :: st) sh M J kc ks := by
  intro p e R s m args below meth c H locs WQ arr hC hr hR hS hkc hks hl
  have hts := hC.2.2.2.2.2.1
  have h9 := hC.2.2.2.2.2.2.2.2.1
  exact va_mabs hC.1 hC.2.1 (by rw [hC.2.2.1]; exact hl.1.symm) hC.2.2.2.2.1 (hts _ hw) (hts _ hw2) (hts _ hw3) (hts _ hw4) (Nat.le_trans hd1 h9.1) (by have h8 := x_cat8 G hst; have := h9.2.1; omega) (by rw [← h9.2.2.1]; exact hkc) (by rw [← h9.2.2.2]; exact hks) hd (k p e R s m args below meth c H locs WQ arr hC hr hR hS hkc hks hl)
theorem xr_copyI {idx a b n0 n1 : Nat} {g0 g1 : Nat → Option Nat} {sp dp n : Int32} (hw : Cond.methodLink f.1.cls idx arraycopyName ∈ xU) (hw1 : Cond.native arraycopyName ∈ xU) (hw2 : Cond.static arraycopyName ∈ xU) (hw3 : Cond.initialized "java/lang/System" ∈ xU) (hfull : x_N ≤ sh.length) (h0 : sh[b]? = some (.inr (0, n0, g0))) (h1 : sh[a]? = some (.inr (0, n1, g1))) (g2 : ¬ sp < 0) (g3 : ¬ dp < 0) (g4 : ¬ n < 0) (g5 : sp.toNatClampNeg + n.toNatClampNeg ≤ n0) (g6 : dp.toNatClampNeg + n.toNatClampNeg ≤ n1) (hd : decode f.2.1 pc = .ok (.invokestatic idx, 3)) (hst : (st.map fun v => v.category).sum ≤ 8) (hd1 : 2 ≤ d) (k : x_X l G f d mc ms Q (pc + 3) ls st sh (x_row M a (va_cpy (M b) (M a) sp.toNatClampNeg dp.toNatClampNeg n.toNatClampNeg)) J kc ks) : x_X l G f d mc ms Q pc ls (.int n :: .int dp :: .ref a :: .int sp :: .ref b :: st) sh M J kc ks := by
  intro p e R s m args below meth c H locs WQ arr hC hr hR hS hkc hks hl
  have hts := hC.2.2.2.2.2.1
  have h9 := hC.2.2.2.2.2.2.2.2.1
  refine va_copyi hC.1 hC.2.1 (by rw [hC.2.2.1]; exact hl.1.symm) hC.2.2.2.2.1 (hts _ hw) (hts _ hw1) (hts _ hw2) (hts _ hw3) hC.2.2.2.2.2.2.1 hR.1 (x_D hR.2.2) hS b a 0 0 (x_w_get h0) (x_w_get h1) rfl rfl rfl g2 g3 g4 g5 g6 (fun _ _ => rfl) (Nat.le_trans (by omega) h9.1) (by
    have h8 := x_cat8 G hst
    have h10 := h9.2.1
    have h11 : nativeFrameWords "java/lang/System" "arraycopy" 5 + 11 ≤ 72 := by decide +kernel
    omega) hd (fun H1 locs1 hP hD hS1 => ?_)
  rw [show (x_w G sh M J).set a (x_ad G a, .inl (G.2.1 0, n1, .inl (va_cpy (M b) (M a) sp.toNatClampNeg dp.toNatClampNeg n.toNatClampNeg))) = x_w G sh (x_row M a (va_cpy (M b) (M a) sp.toNatClampNeg dp.toNatClampNeg n.toNatClampNeg)) J from by
    rw [← x_sh_set h1, ← x_w_set (M := M) (J := J) (M' := x_row M a (va_cpy (M b) (M a) sp.toNatClampNeg dp.toNatClampNeg n.toNatClampNeg)) (J' := J) (.inr (0, n1, g1)) h1 (fun i hi => x_row_n M _ hi) (fun _ _ => rfl), x_sh_set h1]
    simp only [x_e, x_row_s]
    rfl] at hP
  exact k p e R s m args below meth c H1 locs1 WQ arr hC hr ⟨hP, fun z => absurd z (by omega), hR.2.2⟩ hS1 hkc hks hl
theorem xr_copyJ {idx a b n0 n1 : Nat} {g0 g1 : Nat → Option Nat} {sp dp n : Int32} (hw : Cond.methodLink f.1.cls idx arraycopyName ∈ xU) (hw1 : Cond.native arraycopyName ∈ xU) (hw2 : Cond.static arraycopyName ∈ xU) (hw3 : Cond.initialized "java/lang/System" ∈ xU) (hfull : x_N ≤ sh.length) (h0 : sh[b]? = some (.inr (2, n0, g0))) (h1 : sh[a]? = some (.inr (2, n1, g1))) (g2 : ¬ sp < 0) (g3 : ¬ dp < 0) (g4 : ¬ n < 0) (g5 : sp.toNatClampNeg + n.toNatClampNeg ≤ n0) (g6 : dp.toNatClampNeg + n.toNatClampNeg ≤ n1) (hd : decode f.2.1 pc = .ok (.invokestatic idx, 3)) (hst : (st.map fun v => v.category).sum ≤ 8) (hd1 : 2 ≤ d) (k : x_X l G f d mc ms Q (pc + 3) ls st sh M (x_rowJ J a (va_cpy (J b) (J a) sp.toNatClampNeg dp.toNatClampNeg n.toNatClampNeg)) kc ks) : x_X l G f d mc ms Q pc ls (.int n :: .int dp :: .ref a :: .int sp :: .ref b :: st) sh M J kc ks := by
  intro p e R s m args below meth c H locs WQ arr hC hr hR hS hkc hks hl
  have hts := hC.2.2.2.2.2.1
  have h9 := hC.2.2.2.2.2.2.2.2.1
  refine va_copyl hC.1 hC.2.1 (by rw [hC.2.2.1]; exact hl.1.symm) hC.2.2.2.2.1 (hts _ hw) (hts _ hw1) (hts _ hw2) (hts _ hw3) hC.2.2.2.2.2.2.1 hR.1 (x_D hR.2.2) hS b a 2 2 (x_w_get h0) (x_w_get h1) rfl rfl rfl g2 g3 g4 g5 g6 (fun _ _ => rfl) (Nat.le_trans (by omega) h9.1) (by
    have h8 := x_cat8 G hst
    have h10 := h9.2.1
    have h11 : nativeFrameWords "java/lang/System" "arraycopy" 5 + 11 ≤ 72 := by decide +kernel
    omega) hd (fun H1 locs1 hP hD hS1 => ?_)
  rw [show (x_w G sh M J).set a (x_ad G a, .inl (G.2.1 2, n1, .inr (.inl (va_cpy (J b) (J a) sp.toNatClampNeg dp.toNatClampNeg n.toNatClampNeg)))) = x_w G sh M (x_rowJ J a (va_cpy (J b) (J a) sp.toNatClampNeg dp.toNatClampNeg n.toNatClampNeg)) from by
    rw [← x_sh_set h1, ← x_w_set (M := M) (J := J) (M' := M) (J' := x_rowJ J a (va_cpy (J b) (J a) sp.toNatClampNeg dp.toNatClampNeg n.toNatClampNeg)) (.inr (2, n1, g1)) h1 (fun _ _ => rfl) (fun i hi => x_rowJ_n J _ hi), x_sh_set h1]
    simp only [x_e, x_rowJ_s]
    rfl] at hP
  exact k p e R s m args below meth c H1 locs1 WQ arr hC hr ⟨hP, fun z => absurd z (by omega), hR.2.2⟩ hS1 hkc hks hl
/-! ends -/
theorem xr_iret {ty : FieldType} {v : Int32} (hd : decode f.2.1 pc = .ok (.ireturn, 1)) (ht : f.2.2.2 = some ty) (hn : narrow ty (.int v) = .int v) (hq : Q (some (.int v)) sh M J) : x_X l G f d mc ms Q pc ls [.int v] sh M J kc ks := by
  intro p e R s m args below meth c H locs WQ arr hC hr hR hS hkc hks hl
  exact hr (some (.int v)) sh M J H locs kc ks pc arr hq hkc hks hR hS (Or.inr (Or.inl ⟨ty, v, ht, rfl, hn, hd⟩))
theorem xr_lret {v : Int64} (hd : decode f.2.1 pc = .ok (.lreturn, 1)) (ht : f.2.2.2 = some .long) (hq : Q (some (.long v)) sh M J) : x_X l G f d mc ms Q pc ls [.long v] sh M J kc ks := by
  intro p e R s m args below meth c H locs WQ arr hC hr hR hS hkc hks hl
  exact hr (some (.long v)) sh M J H locs kc ks pc arr hq hkc hks hR hS (Or.inr (Or.inr (Or.inl ⟨v, ht, rfl, hd⟩)))
theorem xr_aret {a : Nat} {C : String} (hd : decode f.2.1 pc = .ok (.areturn, 1)) (ht : f.2.2.2 = some (.object C)) (hq : Q (some (.ref a)) sh M J) : x_X l G f d mc ms Q pc ls [.ref a] sh M J kc ks := by
  intro p e R s m args below meth c H locs WQ arr hC hr hR hS hkc hks hl
  exact hr (some (.ref a)) sh M J H locs kc ks pc arr hq hkc hks hR hS (Or.inr (Or.inr (Or.inr ⟨C, a, ht, rfl, hd⟩)))
theorem xr_vret (hd : decode f.2.1 pc = .ok (.return_, 1)) (ht : f.2.2.2 = none) (hq : Q none sh M J) : x_X l G f d mc ms Q pc ls [] sh M J kc ks := by
  intro p e R s m args below meth c H locs WQ arr hC hr hR hS hkc hks hl
  exact hr none sh M J H locs kc ks pc arr hq hkc hks hR hS (Or.inl ⟨ht, rfl, hd⟩)
/-! a contract out of a body -/
theorem x_M_of {args : List Value} (hy : plainName f.1.cls = true) (hlen : (lg_sl args).length ≤ f.2.2.1) (hL : f.1.cls ≠ RL) (h : x_X l G f d mc ms Q 0 (lv_args 0 args) [] sh M J 0 0) : x_M l G f d mc ms args sh M J Q := by
  refine Met.ofW (cc := f.2.1) (maxL := f.2.2.1) (ret := f.2.2.2) hy rfl ?_
  intro p e s m args' below meth c s₁ B hml hv
  obtain ⟨rfl, hR, hK, hSt⟩ := hv
  have hts := atoms_spec (ws := Cond.code f.1 f.2.1 f.2.2.1 f.2.2.2 :: xU) B.pre
  have hl := lv_entry (args.map (x_rn G)) (n := f.2.2.1) (by rw [x_sl]; exact hlen)
  rw [lg_entry_eq]
  generalize (lg_sl (args.map (x_rn G)) ++ List.replicate (f.2.2.1 - (lg_sl (args.map (x_rn G))).length) Slot.unset).toArray = arr at hl ⊢
  rw [x_args] at hl
  have hlocks := B.notSynchronized
  refine h p e _ s m _ below meth c s.heap [] _ arr ⟨B.exec, B.bytes, hml, B.returns, findClass_of_methodNamed B.named, fun w hw => hts w (List.mem_cons_of_mem _ hw), hK, hSt, ⟨Nat.le_refl _, Nat.le_refl _, rfl, rfl⟩, ?_, fun hi => ?_, fun hi => absurd hi hL⟩ ?_ hR va_S.rf (Nat.zero_le _) (Nat.zero_le _) hl
  · by_cases hz : sh.length < x_N
    · rw [hR.2.1 hz]; exact Nat.le_add_right _ _
    · have h0 : 0 < sh.length := Nat.lt_of_lt_of_le (by decide) (Nat.not_lt.mp hz)
      cases hs : sh[0]? with
      | none => exact absurd (List.getElem?_eq_none_iff.mp hs) (by omega)
      | some e0 =>
        have h1 := (hR.1 0 _ (x_w_get hs)).lt
        have h2 : x_ad G 0 = G.2.2.1 + 0 := x_ad_lo (by decide)
        have h3 : x_ad G 0 < s.heap.size := h1
        omega
  · rw [← hi]
    exact (name_of_methodNamed B.named B.method).1
  · intro v sh' M' J' H' locs' kc' ks' pc' arr' hq hkc hks hR' hS' hrop
    refine W.widen (k := mc) (n := ms) hkc hks ?_
    have hQc : ∀ t : State, t.heap = H' → x_Post G Q (args.map (x_rn G)).toArray s (.returned (v.map (x_rn G))) t := fun t ht => ⟨⟨v, sh', M', J', rfl, hq, by rw [ht]; exact hR'⟩, hS'.F ht⟩
    rcases hrop with ⟨h1, rfl, h3⟩ | ⟨ty, x, h1, rfl, h3, h4⟩ | ⟨x, h1, rfl, h3⟩ | ⟨C, a, h1, rfl, h3⟩
    · exact W.vret B.exec B.bytes (by rw [B.returns]; exact h1) (fun t ht _ => hQc t ht) hS'.2.2 h3
    · exact W.zret B.exec B.bytes (by rw [B.returns]; exact h1) h3 (fun t ht _ => hQc t ht) hS'.2.2 h4
    · exact W.lret B.exec B.bytes (by rw [B.returns]; exact h1) (fun t ht _ => hQc t ht) hS'.2.2 h3
    · exact W.aret B.exec B.bytes (by rw [B.returns]; exact h1) (Or.inl ⟨C, rfl⟩) (Or.inr ⟨_, rfl⟩) (fun t ht _ => hQc t ht) hS'.2.2 h3
/-! calls -/
theorem x_goes {mc' ms' : Nat} {Q' : xQ} {a : Array Value} {rest st0 : List Value} {p : Program} {e : Env} {R : Room} {s : State} {m : MethodId} {args : Array Value} {below : List Frame} {meth : Method} {c : Code} {H : Heap} {locs : List Loc} {WQ : State → Prop} {arr : Array Slot}
    (hr : va_Run p l e R s m args below meth c H locs kc ks mc' ms' (F0 m pc arr st0) rest (x_Post G Q' a) (x_A G)) (hS : va_S (x_A G) s.heap H locs)
    (kk : ∀ (v : Option Value) (sh' : List xS) (M' : xM) (J' : xJ) (H1 : Heap) (locs1 : List Loc), Q' v sh' M' J' → x_R G sh' M' J' H1 → va_S (x_A G) s.heap H1 locs1 → W p l e R s m args below meth c H1 locs1 (kc + mc') (ks + ms') WQ (F0 m (pc + 3) arr ((v.map (x_rn G)).toList ++ rest))) : W p l e R s m args below meth c H locs kc ks WQ (F0 m pc arr st0) := by
  intro T hT X
  obtain ⟨v, st₀, t, T', L, h0, X', hL, e1, e2, ⟨⟨v2, sh2, M2, J2, hv, hq, hR2⟩, hz, hk⟩, stp⟩ := hr T hT X
  cases hv
  rw [h0] at hz hk
  obtain ⟨t2, a1, b1⟩ := kk v2 sh2 M2 J2 T'.heap (locs ++ L) hq (by rw [e1]; exact hR2)
    ⟨Nat.le_trans hS.1 (by rw [e1]; exact hz), fun q h1 h2 => by rw [e1, hk q (Nat.lt_of_lt_of_le h1 hS.1) h2]; exact hS.2.1 q h1 h2, fun q hq2 => by
      rcases List.mem_append.mp hq2 with h | h
      · exact hS.2.2 q h
      · exact hL q h⟩ T' rfl X'
  exact ⟨t2, stp t2 a1, b1⟩
theorem x_blind {As : List Value} : FrameBlind (va_Pc (As.map (x_rn G)) (x_Pre G sh M J)) := fun a U g mk q => by
  obtain ⟨q0, q1, q2, q3⟩ := q
  exact ⟨q0, q1, va_K.moved (u := U) (U := U.calling g mk a) (Vm.Alike.refl U.vm) q2, x_St.moved (u := U) (U := U.calling g mk a) (Vm.Alike.refl U.vm) q3⟩
theorem x_pre {As : List Value} {p : Program} {R : Room} {s : State} {m : MethodId} {args : Array Value} {meth : Method} {c : Code} {H : Heap} {locs : List Loc} (hC : x_C G f d mc ms p R s m args meth c) (hR : x_R G sh M J H) (hS : va_S (x_A G) s.heap H locs) : ∀ U : State, U.heap = H → s.WarmedH U.vm → va_Pc (As.map (x_rn G)) (x_Pre G sh M J) (As.map (x_rn G)).toArray U := fun U hU hW =>
  ⟨rfl, by rw [hU]; exact hR, va_K.moved hW.alike hC.2.2.2.2.2.2.1, by rw [hU]; exact (hC.2.2.2.2.2.2.2.1.moved hW.alike).kept (fun q h1 h2 => hS.2.1 q h1 h2)⟩
theorem x_room {g : xF} {d' n : Nat} {p : Program} {R : Room} {s : State} {m : MethodId} {args : Array Value} {meth : Method} {c : Code} (hC : x_C G f d mc ms p R s m args meth c) (hdd : d' + 1 ≤ d) (hok : x_ok g n) {mc' ms' : Nat} : (x_rm d' mc' ms').frames + 1 ≤ R.frames ∧ 8 + (g.2.2.1 + 11) + (x_rm d' mc' ms').locals ≤ R.locals := by
  have h9 := hC.2.2.2.2.2.2.2.2.1
  have h10 := hok.2.2.2.1
  exact ⟨Nat.le_trans hdd h9.1, Nat.le_trans (by show 8 + (g.2.2.1 + 11) + 40 * d' ≤ 40 * d; omega) h9.2.1⟩
theorem xr_callV {g : xF} {idx ci n a d' mc' ms' : Nat} {Q' : xQ} {fs : List (Option (Option Nat))} {As rest : List Value} (mv : x_MV f.1.cls idx ci g n) (hg : x_M l G g d' mc' ms' (.ref a :: As) sh M J Q') (hd : decode f.2.1 pc = .ok (.invokevirtual idx, 3)) (hs : sh[a]? = some (.inl (ci, fs))) (hn : As.length = n) (hst : st = As.reverse ++ .ref a :: rest) (hcat : (rest.map fun v => v.category).sum ≤ 8) (hdd : d' + 1 ≤ d) (hkk : kc + mc' ≤ mc ∧ ks + ms' ≤ ms)
    (k : ∀ (v : Option Value) (sh' : List xS) (M' : xM) (J' : xJ), Q' v sh' M' J' → x_X l G f d mc ms Q (pc + 3) ls (v.toList ++ rest) sh' M' J' (kc + mc') (ks + ms')) : x_X l G f d mc ms Q pc ls st sh M J kc ks := by
  intro p e R s m args below meth c H locs WQ arr hC hr hR hS hkc hks hl
  subst hst
  obtain ⟨hok, ⟨T, N, hcl⟩, hw1, hw2, hw3⟩ := mv
  have hts := hC.2.2.2.2.2.1
  have h9 := hC.2.2.2.2.2.2.2.2.1
  have hrec := va_recv (s := s) hC.2.2.2.2.2.2.1 hR.1 hcl (x_w_get hs)
  refine x_goes (va_runV (C := g.1.cls) (As := As.map (x_rn G)) (rest := rest.map (x_rn G)) (bytes := g.2.1) (maxL := g.2.2.1) (ret := g.2.2.2) (n := n) ⟨hC.1, hC.2.1, hC.2.2.1, hC.2.2.2.2.1, hts⟩ hg ?_ ⟨x_blind, hrec, x_pre (As := .ref a :: As) hC hR hS⟩ rfl (by rw [List.length_map]; exact hn) hl.1 ?_ (lv_room (x_cat8 G hcat)) hd ⟨by rw [← h9.2.2.1]; exact hkk.1, by rw [← h9.2.2.2]; exact hkk.2⟩) hS (fun v sh' M' J' H1 locs1 hq hR1 hS1 => ?_)
  · have hgood := x_good hok.2.2.2.2.2
    exact cwV n hts (fun w hw => by
      unfold wsV at hw
      rcases List.mem_append.mp hw with h | h
      · have hm : w ∈ xU := by
          simp only [List.mem_cons, List.not_mem_nil, or_false] at h
          rcases h with rfl | rfl | rfl | rfl
          · exact hw1
          · exact hw2
          · exact hw3
          · exact hok.2.2.2.2.1
        exact ⟨hm, good_of_word (List.mem_filter.mp hm).2⟩
      · exact hgood w h) rfl rfl rfl ⟨rfl, hok.1, hok.2.1, hok.2.2.1⟩ (x_room hC hdd hok)
  · simp [List.map_append, List.map_reverse, x_rn]
  · have := k v sh' M' J' hq p e R s m args below meth c H1 locs1 WQ arr hC hr hR1 hS1 (by exact hkk.1) (by exact hkk.2) hl
    rw [List.map_append] at this
    cases v <;> exact this
theorem xr_callS {g : xF} {idx n d' mc' ms' : Nat} {Q' : xQ} {As rest : List Value} (mv : x_MS f.1.cls idx g n) (hg : x_M l G g d' mc' ms' As sh M J Q') (hd : decode f.2.1 pc = .ok (.invokestatic idx, 3)) (hn : As.length = n) (hst : st = As.reverse ++ rest) (hcat : (rest.map fun v => v.category).sum ≤ 8) (hdd : d' + 1 ≤ d) (hkk : kc + mc' ≤ mc ∧ ks + ms' ≤ ms)
    (k : ∀ (v : Option Value) (sh' : List xS) (M' : xM) (J' : xJ), Q' v sh' M' J' → x_X l G f d mc ms Q (pc + 3) ls (v.toList ++ rest) sh' M' J' (kc + mc') (ks + ms')) : x_X l G f d mc ms Q pc ls st sh M J kc ks := by
  intro p e R s m args below meth c H locs WQ arr hC hr hR hS hkc hks hl
  subst hst
  obtain ⟨hok, hw1, hw2⟩ := mv
  have hts := hC.2.2.2.2.2.1
  have h9 := hC.2.2.2.2.2.2.2.2.1
  refine x_goes (va_runS (As := As.map (x_rn G)) (rest := rest.map (x_rn G)) (bytes := g.2.1) (maxL := g.2.2.1) (ret := g.2.2.2) (n := n) ⟨hC.1, hC.2.1, hC.2.2.1, hC.2.2.2.2.1, hts⟩ hg ?_ ⟨x_blind, x_pre (As := As) hC hR hS⟩ rfl (by rw [List.length_map]; exact hn) hl.1 ?_ (lv_room (x_cat8 G hcat)) hd ⟨by rw [← h9.2.2.1]; exact hkk.1, by rw [← h9.2.2.2]; exact hkk.2⟩) hS (fun v sh' M' J' H1 locs1 hq hR1 hS1 => ?_)
  · have hgood := x_good hok.2.2.2.2.2
    exact va_cwS n hts (fun w hw => by
      unfold va_wsS at hw
      rcases List.mem_append.mp hw with h | h
      · have hm : w ∈ xU := by
          simp only [List.mem_cons, List.not_mem_nil, or_false] at h
          rcases h with rfl | rfl | rfl
          · exact hw1
          · exact hw2
          · exact hok.2.2.2.2.1
        exact ⟨hm, good_of_word (List.mem_filter.mp hm).2⟩
      · exact hgood w h) rfl rfl rfl ⟨hok.1, hok.2.1, hok.2.2.1⟩ (x_room hC hdd hok)
  · simp [List.map_append, List.map_reverse]
  · have := k v sh' M' J' hq p e R s m args below meth c H1 locs1 WQ arr hC hr hR1 hS1 (by exact hkk.1) (by exact hkk.2) hl
    rw [List.map_append] at this
    cases v <;> exact this
theorem xr_callN {g : xF} {idx n d' mc' ms' : Nat} {Q' : xQ} {As rest : List Value} (mv : x_MN f.1.cls idx g n) (hg : x_M l G g d' mc' ms' As sh M J Q') (hd : decode f.2.1 pc = .ok (.invokestatic idx, 3)) (hn : As.length = n) (hst : st = As.reverse ++ rest) (hcat : (rest.map fun v => v.category).sum ≤ 8) (hdd : d' + 1 ≤ d) (hkk : kc + mc' ≤ mc ∧ ks + ms' ≤ ms)
    (k : ∀ (v : Option Value) (sh' : List xS) (M' : xM) (J' : xJ), Q' v sh' M' J' → x_X l G f d mc ms Q (pc + 3) ls (v.toList ++ rest) sh' M' J' (kc + mc') (ks + ms')) : x_X l G f d mc ms Q pc ls st sh M J kc ks := by
  intro p e R s m args below meth c H locs WQ arr hC hr hR hS hkc hks hl
  subst hst
  obtain ⟨hok, ⟨host, hw1⟩, hw2⟩ := mv
  have hts := hC.2.2.2.2.2.1
  have h9 := hC.2.2.2.2.2.2.2.2.1
  refine x_goes (va_runSN (host := host) (As := As.map (x_rn G)) (rest := rest.map (x_rn G)) (bytes := g.2.1) (maxL := g.2.2.1) (ret := g.2.2.2) (n := n) ⟨hC.1, hC.2.1, hC.2.2.1, hC.2.2.2.2.1, hts⟩ hg ⟨va_cnB n hts (x_good hok.2.2.2.2.2) rfl rfl rfl (hts _ hw1) (hts _ hok.2.2.2.2.1) ⟨hok.1, hok.2.1, hok.2.2.1⟩ (x_room hC hdd hok), hts _ hw2, trivial⟩ ⟨x_blind, x_pre (As := As) hC hR hS⟩ rfl (by rw [List.length_map]; exact hn) hl.1 ?_ (lv_room (x_cat8 G hcat)) hd ⟨by rw [← h9.2.2.1]; exact hkk.1, by rw [← h9.2.2.2]; exact hkk.2⟩) hS (fun v sh' M' J' H1 locs1 hq hR1 hS1 => ?_)
  · simp [List.map_append, List.map_reverse]
  · have := k v sh' M' J' hq p e R s m args below meth c H1 locs1 WQ arr hC hr hR1 hS1 (by exact hkk.1) (by exact hkk.2) hl
    rw [List.map_append] at this
    cases v <;> exact this
theorem xr_callI {g : xF} {idx n a d' mc' ms' : Nat} {Q' : xQ} {As rest : List Value} (mv : x_MI f.1.cls idx g n) (hg : x_M l G g d' mc' ms' (.ref a :: As) sh M J Q') (hd : decode f.2.1 pc = .ok (.invokespecial idx, 3)) (hn : As.length = n) (hst : st = As.reverse ++ .ref a :: rest) (hcat : (rest.map fun v => v.category).sum ≤ 8) (hdd : d' + 1 ≤ d) (hkk : kc + mc' ≤ mc ∧ ks + ms' ≤ ms)
    (k : ∀ (v : Option Value) (sh' : List xS) (M' : xM) (J' : xJ), Q' v sh' M' J' → x_X l G f d mc ms Q (pc + 3) ls (v.toList ++ rest) sh' M' J' (kc + mc') (ks + ms')) : x_X l G f d mc ms Q pc ls st sh M J kc ks := by
  intro p e R s m args below meth c H locs WQ arr hC hr hR hS hkc hks hl
  subst hst
  obtain ⟨hok, hw1, hw2, hnm, hrt⟩ := mv
  have hts := hC.2.2.2.2.2.1
  have h9 := hC.2.2.2.2.2.2.2.2.1
  refine x_goes (va_runI (b := x_ad G a) (As := As.map (x_rn G)) (rest := rest.map (x_rn G)) (bytes := g.2.1) (maxL := g.2.2.1) (n := n) ⟨hC.1, hC.2.1, hC.2.2.1, hC.2.2.2.2.1, hts⟩ hg (cwI n hts (x_good hok.2.2.2.2.2) (by rw [hrt]) rfl rfl (hts _ hok.2.2.2.2.1) (hts _ hw1) (hts _ hw2) hnm ⟨hok.1, hok.2.1, hok.2.2.1⟩ (x_room hC hdd hok)) ⟨x_blind, x_pre (As := .ref a :: As) hC hR hS⟩ rfl (by rw [List.length_map]; exact hn) hl.1 ?_ (lv_room (x_cat8 G hcat)) hd ⟨by rw [← h9.2.2.1]; exact hkk.1, by rw [← h9.2.2.2]; exact hkk.2⟩) hS (fun v sh' M' J' H1 locs1 hq hR1 hS1 => ?_)
  · simp [List.map_append, List.map_reverse, x_rn]
  · have := k v sh' M' J' hq p e R s m args below meth c H1 locs1 WQ arr hC hr hR1 hS1 (by exact hkk.1) (by exact hkk.2) hl
    rw [List.map_append] at this
    cases v <;> exact this
end XR
end
