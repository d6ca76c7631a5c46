section
-- ===== PART A: goes FIRST, ahead of the names: the tables' words, and 'selects' of the private methods out of them =====
/-- a private method of a class that the tables say can be made, by its rows of tables_1 -/
def lw_okq (q : MethodName × Nat) : Prop := (q.1.cls ≠ "java/lang/invoke/MethodHandle" ∧ q.1.cls ≠ "java/lang/invoke/VarHandle") ∧ Cond.instantiable q.1.cls q.2 ∈ tables_1 ∧ Cond.privateMethod q.1 ∈ tables_1 ∧ Cond.instanceMethod q.1 ∈ tables_1
theorem lw_p0 : lw_okq (⟨"HoopWaist", "hoopCame", "(LHoopWaist$Shelf;I)Z"⟩, 10) := ⟨⟨by decide +kernel, by decide +kernel⟩, List.mem_of_getElem? (i := 16) (by decide +kernel), List.mem_of_getElem? (i := 385) (by decide +kernel), List.mem_of_getElem? (i := 386) (by decide +kernel)⟩
theorem lw_p1 : lw_okq (⟨"HoopWaist", "canBecome", "(III)Z"⟩, 10) := ⟨⟨by decide +kernel, by decide +kernel⟩, List.mem_of_getElem? (i := 16) (by decide +kernel), List.mem_of_getElem? (i := 396) (by decide +kernel), List.mem_of_getElem? (i := 397) (by decide +kernel)⟩
theorem lw_p2 : lw_okq (⟨"HoopWaist", "settingCanBecome", "(II)Z"⟩, 10) := ⟨⟨by decide +kernel, by decide +kernel⟩, List.mem_of_getElem? (i := 16) (by decide +kernel), List.mem_of_getElem? (i := 411) (by decide +kernel), List.mem_of_getElem? (i := 412) (by decide +kernel)⟩
theorem lw_p3 : lw_okq (⟨"HoopWaist", "valueOf", "(II)I"⟩, 10) := ⟨⟨by decide +kernel, by decide +kernel⟩, List.mem_of_getElem? (i := 16) (by decide +kernel), List.mem_of_getElem? (i := 419) (by decide +kernel), List.mem_of_getElem? (i := 420) (by decide +kernel)⟩
theorem lw_p4 : lw_okq (⟨"HoopWaist", "settingOf", "(I)I"⟩, 10) := ⟨⟨by decide +kernel, by decide +kernel⟩, List.mem_of_getElem? (i := 16) (by decide +kernel), List.mem_of_getElem? (i := 432) (by decide +kernel), List.mem_of_getElem? (i := 433) (by decide +kernel)⟩
theorem lw_p5 : lw_okq (⟨"HoopWaist", "lay", "(III)V"⟩, 10) := ⟨⟨by decide +kernel, by decide +kernel⟩, List.mem_of_getElem? (i := 16) (by decide +kernel), List.mem_of_getElem? (i := 436) (by decide +kernel), List.mem_of_getElem? (i := 437) (by decide +kernel)⟩
theorem lw_p6 : lw_okq (⟨"HoopWaist$Changes", "forgetOldest", "()V"⟩, 6) := ⟨⟨by decide +kernel, by decide +kernel⟩, List.mem_of_getElem? (i := 228) (by decide +kernel), List.mem_of_getElem? (i := 449) (by decide +kernel), List.mem_of_getElem? (i := 450) (by decide +kernel)⟩
theorem lw_p7 : lw_okq (⟨"HoopWaist$Reader", "readLine", "()V"⟩, 5) := ⟨⟨by decide +kernel, by decide +kernel⟩, List.mem_of_getElem? (i := 52) (by decide +kernel), List.mem_of_getElem? (i := 479) (by decide +kernel), List.mem_of_getElem? (i := 480) (by decide +kernel)⟩
theorem lw_p8 : lw_okq (⟨"HoopWaist$Reader", "readChain", "(II)V"⟩, 5) := ⟨⟨by decide +kernel, by decide +kernel⟩, List.mem_of_getElem? (i := 52) (by decide +kernel), List.mem_of_getElem? (i := 483) (by decide +kernel), List.mem_of_getElem? (i := 484) (by decide +kernel)⟩
theorem lw_p9 : lw_okq (⟨"HoopWaist$Reader", "readOperand", "(I)V"⟩, 5) := ⟨⟨by decide +kernel, by decide +kernel⟩, List.mem_of_getElem? (i := 52) (by decide +kernel), List.mem_of_getElem? (i := 487) (by decide +kernel), List.mem_of_getElem? (i := 488) (by decide +kernel)⟩
theorem lw_p10 : lw_okq (⟨"HoopWaist$Reader", "next", "()I"⟩, 5) := ⟨⟨by decide +kernel, by decide +kernel⟩, List.mem_of_getElem? (i := 52) (by decide +kernel), List.mem_of_getElem? (i := 491) (by decide +kernel), List.mem_of_getElem? (i := 492) (by decide +kernel)⟩
theorem lw_p11 : lw_okq (⟨"HoopWaist$Reader", "readNumber", "()V"⟩, 5) := ⟨⟨by decide +kernel, by decide +kernel⟩, List.mem_of_getElem? (i := 52) (by decide +kernel), List.mem_of_getElem? (i := 498) (by decide +kernel), List.mem_of_getElem? (i := 499) (by decide +kernel)⟩
theorem lw_p12 : lw_okq (⟨"HoopWaist$Reader", "readOpened", "(II)V"⟩, 5) := ⟨⟨by decide +kernel, by decide +kernel⟩, List.mem_of_getElem? (i := 52) (by decide +kernel), List.mem_of_getElem? (i := 509) (by decide +kernel), List.mem_of_getElem? (i := 510) (by decide +kernel)⟩
theorem lw_p13 : lw_okq (⟨"HoopWaist$Reader", "takes", "(I)Z"⟩, 5) := ⟨⟨by decide +kernel, by decide +kernel⟩, List.mem_of_getElem? (i := 52) (by decide +kernel), List.mem_of_getElem? (i := 513) (by decide +kernel), List.mem_of_getElem? (i := 514) (by decide +kernel)⟩
theorem lw_p14 : lw_okq (⟨"HoopWaist$Reader", "isJoin", "(I)Z"⟩, 5) := ⟨⟨by decide +kernel, by decide +kernel⟩, List.mem_of_getElem? (i := 52) (by decide +kernel), List.mem_of_getElem? (i := 517) (by decide +kernel), List.mem_of_getElem? (i := 518) (by decide +kernel)⟩
theorem lw_p15 : lw_okq (⟨"HoopWaist$Law", "worth", "()I"⟩, 6) := ⟨⟨by decide +kernel, by decide +kernel⟩, List.mem_of_getElem? (i := 24) (by decide +kernel), List.mem_of_getElem? (i := 577) (by decide +kernel), List.mem_of_getElem? (i := 578) (by decide +kernel)⟩
def lw_privs_1 : List (MethodName × Nat) := [(⟨"HoopWaist", "hoopCame", "(LHoopWaist$Shelf;I)Z"⟩, 10), (⟨"HoopWaist", "canBecome", "(III)Z"⟩, 10), (⟨"HoopWaist", "settingCanBecome", "(II)Z"⟩, 10), (⟨"HoopWaist", "valueOf", "(II)I"⟩, 10), (⟨"HoopWaist", "settingOf", "(I)I"⟩, 10), (⟨"HoopWaist", "lay", "(III)V"⟩, 10), (⟨"HoopWaist$Changes", "forgetOldest", "()V"⟩, 6), (⟨"HoopWaist$Reader", "readLine", "()V"⟩, 5), (⟨"HoopWaist$Reader", "readChain", "(II)V"⟩, 5), (⟨"HoopWaist$Reader", "readOperand", "(I)V"⟩, 5), (⟨"HoopWaist$Reader", "next", "()I"⟩, 5), (⟨"HoopWaist$Reader", "readNumber", "()V"⟩, 5), (⟨"HoopWaist$Reader", "readOpened", "(II)V"⟩, 5), (⟨"HoopWaist$Reader", "takes", "(I)Z"⟩, 5), (⟨"HoopWaist$Reader", "isJoin", "(I)Z"⟩, 5), (⟨"HoopWaist$Law", "worth", "()I"⟩, 6)]
theorem lw_r1 : ∀ q ∈ lw_privs_1, lw_okq q := List.forall_mem_cons.mpr ⟨lw_p0, List.forall_mem_cons.mpr ⟨lw_p1, List.forall_mem_cons.mpr ⟨lw_p2, List.forall_mem_cons.mpr ⟨lw_p3, List.forall_mem_cons.mpr ⟨lw_p4, List.forall_mem_cons.mpr ⟨lw_p5, List.forall_mem_cons.mpr ⟨lw_p6, List.forall_mem_cons.mpr ⟨lw_p7, List.forall_mem_cons.mpr ⟨lw_p8, List.forall_mem_cons.mpr ⟨lw_p9, List.forall_mem_cons.mpr ⟨lw_p10, List.forall_mem_cons.mpr ⟨lw_p11, List.forall_mem_cons.mpr ⟨lw_p12, List.forall_mem_cons.mpr ⟨lw_p13, List.forall_mem_cons.mpr ⟨lw_p14, List.forall_mem_cons.mpr ⟨lw_p15, fun _ h => absurd h List.not_mem_nil⟩⟩⟩⟩⟩⟩⟩⟩⟩⟩⟩⟩⟩⟩⟩⟩
theorem lw_p16 : lw_okq (⟨"HoopWaist$Law", "pile", "(I)V"⟩, 6) := ⟨⟨by decide +kernel, by decide +kernel⟩, List.mem_of_getElem? (i := 24) (by decide +kernel), List.mem_of_getElem? (i := 581) (by decide +kernel), List.mem_of_getElem? (i := 582) (by decide +kernel)⟩
theorem lw_p17 : lw_okq (⟨"HoopWaist$Law", "unpile", "()I"⟩, 6) := ⟨⟨by decide +kernel, by decide +kernel⟩, List.mem_of_getElem? (i := 24) (by decide +kernel), List.mem_of_getElem? (i := 592) (by decide +kernel), List.mem_of_getElem? (i := 593) (by decide +kernel)⟩
theorem lw_p18 : lw_okq (⟨"HoopWaist$Ring", "cross", "()V"⟩, 10) := ⟨⟨by decide +kernel, by decide +kernel⟩, List.mem_of_getElem? (i := 78) (by decide +kernel), List.mem_of_getElem? (i := 614) (by decide +kernel), List.mem_of_getElem? (i := 615) (by decide +kernel)⟩
theorem lw_p19 : lw_okq (⟨"HoopWaist$Thought", "step", "()V"⟩, 8) := ⟨⟨by decide +kernel, by decide +kernel⟩, List.mem_of_getElem? (i := 161) (by decide +kernel), List.mem_of_getElem? (i := 663) (by decide +kernel), List.mem_of_getElem? (i := 664) (by decide +kernel)⟩
theorem lw_p20 : lw_okq (⟨"HoopWaist$Field", "playMinute", "(I)V"⟩, 7) := ⟨⟨by decide +kernel, by decide +kernel⟩, List.mem_of_getElem? (i := 193) (by decide +kernel), List.mem_of_getElem? (i := 802) (by decide +kernel), List.mem_of_getElem? (i := 803) (by decide +kernel)⟩
theorem lw_p21 : lw_okq (⟨"HoopWaist$Field", "draw", "()I"⟩, 7) := ⟨⟨by decide +kernel, by decide +kernel⟩, List.mem_of_getElem? (i := 193) (by decide +kernel), List.mem_of_getElem? (i := 806) (by decide +kernel), List.mem_of_getElem? (i := 807) (by decide +kernel)⟩
theorem lw_p22 : lw_okq (⟨"HoopWaist$Field", "drop", "(III)V"⟩, 7) := ⟨⟨by decide +kernel, by decide +kernel⟩, List.mem_of_getElem? (i := 193) (by decide +kernel), List.mem_of_getElem? (i := 811) (by decide +kernel), List.mem_of_getElem? (i := 812) (by decide +kernel)⟩
theorem lw_p23 : lw_okq (⟨"HoopWaist$Field", "knockFrom", "(II)V"⟩, 7) := ⟨⟨by decide +kernel, by decide +kernel⟩, List.mem_of_getElem? (i := 193) (by decide +kernel), List.mem_of_getElem? (i := 815) (by decide +kernel), List.mem_of_getElem? (i := 816) (by decide +kernel)⟩
theorem lw_p24 : lw_okq (⟨"HoopWaist$Turns", "own", "(III)I"⟩, 5) := ⟨⟨by decide +kernel, by decide +kernel⟩, List.mem_of_getElem? (i := 259) (by decide +kernel), List.mem_of_getElem? (i := 915) (by decide +kernel), List.mem_of_getElem? (i := 916) (by decide +kernel)⟩
theorem lw_p25 : lw_okq (⟨"HoopWaist$Turns", "runFrom", "(IIII)I"⟩, 5) := ⟨⟨by decide +kernel, by decide +kernel⟩, List.mem_of_getElem? (i := 259) (by decide +kernel), List.mem_of_getElem? (i := 920) (by decide +kernel), List.mem_of_getElem? (i := 921) (by decide +kernel)⟩
theorem lw_p26 : lw_okq (⟨"HoopWaist$Turns", "run", "(IIII)I"⟩, 5) := ⟨⟨by decide +kernel, by decide +kernel⟩, List.mem_of_getElem? (i := 259) (by decide +kernel), List.mem_of_getElem? (i := 927) (by decide +kernel), List.mem_of_getElem? (i := 928) (by decide +kernel)⟩
theorem lw_p27 : lw_okq (⟨"HoopWaist$Turns", "note", "(I)V"⟩, 5) := ⟨⟨by decide +kernel, by decide +kernel⟩, List.mem_of_getElem? (i := 259) (by decide +kernel), List.mem_of_getElem? (i := 931) (by decide +kernel), List.mem_of_getElem? (i := 932) (by decide +kernel)⟩
theorem lw_p28 : lw_okq (⟨"HoopWaist$Turns", "above", "(IIII)I"⟩, 5) := ⟨⟨by decide +kernel, by decide +kernel⟩, List.mem_of_getElem? (i := 259) (by decide +kernel), List.mem_of_getElem? (i := 935) (by decide +kernel), List.mem_of_getElem? (i := 936) (by decide +kernel)⟩
theorem lw_p29 : lw_okq (⟨"HoopWaistModel", "lays", "(II)V"⟩, 46) := ⟨⟨by decide +kernel, by decide +kernel⟩, List.mem_of_getElem? (i := 1009) (by decide +kernel), List.mem_of_getElem? (i := 1158) (by decide +kernel), List.mem_of_getElem? (i := 1159) (by decide +kernel)⟩
theorem lw_p30 : lw_okq (⟨"HoopWaistModel", "adds", "(III)V"⟩, 46) := ⟨⟨by decide +kernel, by decide +kernel⟩, List.mem_of_getElem? (i := 1009) (by decide +kernel), List.mem_of_getElem? (i := 1181) (by decide +kernel), List.mem_of_getElem? (i := 1182) (by decide +kernel)⟩
theorem lw_p31 : lw_okq (⟨"HoopWaistModel", "isHoop", "(I)Z"⟩, 46) := ⟨⟨by decide +kernel, by decide +kernel⟩, List.mem_of_getElem? (i := 1009) (by decide +kernel), List.mem_of_getElem? (i := 1198) (by decide +kernel), List.mem_of_getElem? (i := 1199) (by decide +kernel)⟩
def lw_privs_2 : List (MethodName × Nat) := [(⟨"HoopWaist$Law", "pile", "(I)V"⟩, 6), (⟨"HoopWaist$Law", "unpile", "()I"⟩, 6), (⟨"HoopWaist$Ring", "cross", "()V"⟩, 10), (⟨"HoopWaist$Thought", "step", "()V"⟩, 8), (⟨"HoopWaist$Field", "playMinute", "(I)V"⟩, 7), (⟨"HoopWaist$Field", "draw", "()I"⟩, 7), (⟨"HoopWaist$Field", "drop", "(III)V"⟩, 7), (⟨"HoopWaist$Field", "knockFrom", "(II)V"⟩, 7), (⟨"HoopWaist$Turns", "own", "(III)I"⟩, 5), (⟨"HoopWaist$Turns", "runFrom", "(IIII)I"⟩, 5), (⟨"HoopWaist$Turns", "run", "(IIII)I"⟩, 5), (⟨"HoopWaist$Turns", "note", "(I)V"⟩, 5), (⟨"HoopWaist$Turns", "above", "(IIII)I"⟩, 5), (⟨"HoopWaistModel", "lays", "(II)V"⟩, 46), (⟨"HoopWaistModel", "adds", "(III)V"⟩, 46), (⟨"HoopWaistModel", "isHoop", "(I)Z"⟩, 46)]
theorem lw_r2 : ∀ q ∈ lw_privs_2, lw_okq q := List.forall_mem_cons.mpr ⟨lw_p16, List.forall_mem_cons.mpr ⟨lw_p17, List.forall_mem_cons.mpr ⟨lw_p18, List.forall_mem_cons.mpr ⟨lw_p19, List.forall_mem_cons.mpr ⟨lw_p20, List.forall_mem_cons.mpr ⟨lw_p21, List.forall_mem_cons.mpr ⟨lw_p22, List.forall_mem_cons.mpr ⟨lw_p23, List.forall_mem_cons.mpr ⟨lw_p24, List.forall_mem_cons.mpr ⟨lw_p25, List.forall_mem_cons.mpr ⟨lw_p26, List.forall_mem_cons.mpr ⟨lw_p27, List.forall_mem_cons.mpr ⟨lw_p28, List.forall_mem_cons.mpr ⟨lw_p29, List.forall_mem_cons.mpr ⟨lw_p30, List.forall_mem_cons.mpr ⟨lw_p31, fun _ h => absurd h List.not_mem_nil⟩⟩⟩⟩⟩⟩⟩⟩⟩⟩⟩⟩⟩⟩⟩⟩
theorem lw_p32 : lw_okq (⟨"HoopWaistModel", "becomes", "(II)I"⟩, 46) := ⟨⟨by decide +kernel, by decide +kernel⟩, List.mem_of_getElem? (i := 1009) (by decide +kernel), List.mem_of_getElem? (i := 1202) (by decide +kernel), List.mem_of_getElem? (i := 1203) (by decide +kernel)⟩
theorem lw_p33 : lw_okq (⟨"HoopWaistModel", "needOf", "(I)I"⟩, 46) := ⟨⟨by decide +kernel, by decide +kernel⟩, List.mem_of_getElem? (i := 1009) (by decide +kernel), List.mem_of_getElem? (i := 1213) (by decide +kernel), List.mem_of_getElem? (i := 1214) (by decide +kernel)⟩
theorem lw_p34 : lw_okq (⟨"HoopWaistModel", "workOut", "(II)I"⟩, 46) := ⟨⟨by decide +kernel, by decide +kernel⟩, List.mem_of_getElem? (i := 1009) (by decide +kernel), List.mem_of_getElem? (i := 1230) (by decide +kernel), List.mem_of_getElem? (i := 1231) (by decide +kernel)⟩
theorem lw_p35 : lw_okq (⟨"HoopWaistModel", "either", "()I"⟩, 46) := ⟨⟨by decide +kernel, by decide +kernel⟩, List.mem_of_getElem? (i := 1009) (by decide +kernel), List.mem_of_getElem? (i := 1234) (by decide +kernel), List.mem_of_getElem? (i := 1235) (by decide +kernel)⟩
theorem lw_p36 : lw_okq (⟨"HoopWaistModel", "both", "()I"⟩, 46) := ⟨⟨by decide +kernel, by decide +kernel⟩, List.mem_of_getElem? (i := 1009) (by decide +kernel), List.mem_of_getElem? (i := 1238) (by decide +kernel), List.mem_of_getElem? (i := 1239) (by decide +kernel)⟩
theorem lw_p37 : lw_okq (⟨"HoopWaistModel", "compared", "()I"⟩, 46) := ⟨⟨by decide +kernel, by decide +kernel⟩, List.mem_of_getElem? (i := 1009) (by decide +kernel), List.mem_of_getElem? (i := 1242) (by decide +kernel), List.mem_of_getElem? (i := 1243) (by decide +kernel)⟩
theorem lw_p38 : lw_okq (⟨"HoopWaistModel", "sums", "()I"⟩, 46) := ⟨⟨by decide +kernel, by decide +kernel⟩, List.mem_of_getElem? (i := 1009) (by decide +kernel), List.mem_of_getElem? (i := 1246) (by decide +kernel), List.mem_of_getElem? (i := 1247) (by decide +kernel)⟩
theorem lw_p39 : lw_okq (⟨"HoopWaistModel", "product", "()I"⟩, 46) := ⟨⟨by decide +kernel, by decide +kernel⟩, List.mem_of_getElem? (i := 1009) (by decide +kernel), List.mem_of_getElem? (i := 1250) (by decide +kernel), List.mem_of_getElem? (i := 1251) (by decide +kernel)⟩
theorem lw_p40 : lw_okq (⟨"HoopWaistModel", "one", "()I"⟩, 46) := ⟨⟨by decide +kernel, by decide +kernel⟩, List.mem_of_getElem? (i := 1009) (by decide +kernel), List.mem_of_getElem? (i := 1254) (by decide +kernel), List.mem_of_getElem? (i := 1255) (by decide +kernel)⟩
theorem lw_p41 : lw_okq (⟨"HoopWaistModel", "byteAt", "()I"⟩, 46) := ⟨⟨by decide +kernel, by decide +kernel⟩, List.mem_of_getElem? (i := 1009) (by decide +kernel), List.mem_of_getElem? (i := 1258) (by decide +kernel), List.mem_of_getElem? (i := 1259) (by decide +kernel)⟩
theorem lw_p42 : lw_okq (⟨"HoopWaistModel", "wrong", "()I"⟩, 46) := ⟨⟨by decide +kernel, by decide +kernel⟩, List.mem_of_getElem? (i := 1009) (by decide +kernel), List.mem_of_getElem? (i := 1262) (by decide +kernel), List.mem_of_getElem? (i := 1263) (by decide +kernel)⟩
theorem lw_p43 : lw_okq (⟨"HoopWaistModel", "takes", "(I)Z"⟩, 46) := ⟨⟨by decide +kernel, by decide +kernel⟩, List.mem_of_getElem? (i := 1009) (by decide +kernel), List.mem_of_getElem? (i := 1266) (by decide +kernel), List.mem_of_getElem? (i := 1267) (by decide +kernel)⟩
theorem lw_p44 : lw_okq (⟨"HoopWaistModel", "upNow", "()I"⟩, 46) := ⟨⟨by decide +kernel, by decide +kernel⟩, List.mem_of_getElem? (i := 1009) (by decide +kernel), List.mem_of_getElem? (i := 1278) (by decide +kernel), List.mem_of_getElem? (i := 1279) (by decide +kernel)⟩
theorem lw_p45 : lw_okq (⟨"HoopWaistModel", "begins1", "(I)V"⟩, 46) := ⟨⟨by decide +kernel, by decide +kernel⟩, List.mem_of_getElem? (i := 1009) (by decide +kernel), List.mem_of_getElem? (i := 1282) (by decide +kernel), List.mem_of_getElem? (i := 1283) (by decide +kernel)⟩
theorem lw_p46 : lw_okq (⟨"HoopWaistModel", "lyingOf", "(I)I"⟩, 46) := ⟨⟨by decide +kernel, by decide +kernel⟩, List.mem_of_getElem? (i := 1009) (by decide +kernel), List.mem_of_getElem? (i := 1289) (by decide +kernel), List.mem_of_getElem? (i := 1290) (by decide +kernel)⟩
theorem lw_p47 : lw_okq (⟨"HoopWaistModel", "tickGoes", "(I)V"⟩, 46) := ⟨⟨by decide +kernel, by decide +kernel⟩, List.mem_of_getElem? (i := 1009) (by decide +kernel), List.mem_of_getElem? (i := 1293) (by decide +kernel), List.mem_of_getElem? (i := 1294) (by decide +kernel)⟩
def lw_privs_3 : List (MethodName × Nat) := [(⟨"HoopWaistModel", "becomes", "(II)I"⟩, 46), (⟨"HoopWaistModel", "needOf", "(I)I"⟩, 46), (⟨"HoopWaistModel", "workOut", "(II)I"⟩, 46), (⟨"HoopWaistModel", "either", "()I"⟩, 46), (⟨"HoopWaistModel", "both", "()I"⟩, 46), (⟨"HoopWaistModel", "compared", "()I"⟩, 46), (⟨"HoopWaistModel", "sums", "()I"⟩, 46), (⟨"HoopWaistModel", "product", "()I"⟩, 46), (⟨"HoopWaistModel", "one", "()I"⟩, 46), (⟨"HoopWaistModel", "byteAt", "()I"⟩, 46), (⟨"HoopWaistModel", "wrong", "()I"⟩, 46), (⟨"HoopWaistModel", "takes", "(I)Z"⟩, 46), (⟨"HoopWaistModel", "upNow", "()I"⟩, 46), (⟨"HoopWaistModel", "begins1", "(I)V"⟩, 46), (⟨"HoopWaistModel", "lyingOf", "(I)I"⟩, 46), (⟨"HoopWaistModel", "tickGoes", "(I)V"⟩, 46)]
theorem lw_r3 : ∀ q ∈ lw_privs_3, lw_okq q := List.forall_mem_cons.mpr ⟨lw_p32, List.forall_mem_cons.mpr ⟨lw_p33, List.forall_mem_cons.mpr ⟨lw_p34, List.forall_mem_cons.mpr ⟨lw_p35, List.forall_mem_cons.mpr ⟨lw_p36, List.forall_mem_cons.mpr ⟨lw_p37, List.forall_mem_cons.mpr ⟨lw_p38, List.forall_mem_cons.mpr ⟨lw_p39, List.forall_mem_cons.mpr ⟨lw_p40, List.forall_mem_cons.mpr ⟨lw_p41, List.forall_mem_cons.mpr ⟨lw_p42, List.forall_mem_cons.mpr ⟨lw_p43, List.forall_mem_cons.mpr ⟨lw_p44, List.forall_mem_cons.mpr ⟨lw_p45, List.forall_mem_cons.mpr ⟨lw_p46, List.forall_mem_cons.mpr ⟨lw_p47, fun _ h => absurd h List.not_mem_nil⟩⟩⟩⟩⟩⟩⟩⟩⟩⟩⟩⟩⟩⟩⟩⟩
theorem lw_p48 : lw_okq (⟨"HoopWaistModel", "isPush", "(I)Z"⟩, 46) := ⟨⟨by decide +kernel, by decide +kernel⟩, List.mem_of_getElem? (i := 1009) (by decide +kernel), List.mem_of_getElem? (i := 1297) (by decide +kernel), List.mem_of_getElem? (i := 1298) (by decide +kernel)⟩
theorem lw_p49 : lw_okq (⟨"HoopWaistModel", "toOf", "(I)I"⟩, 46) := ⟨⟨by decide +kernel, by decide +kernel⟩, List.mem_of_getElem? (i := 1009) (by decide +kernel), List.mem_of_getElem? (i := 1301) (by decide +kernel), List.mem_of_getElem? (i := 1302) (by decide +kernel)⟩
theorem lw_p50 : lw_okq (⟨"HoopWaistModel", "pushes", "(II)V"⟩, 46) := ⟨⟨by decide +kernel, by decide +kernel⟩, List.mem_of_getElem? (i := 1009) (by decide +kernel), List.mem_of_getElem? (i := 1305) (by decide +kernel), List.mem_of_getElem? (i := 1306) (by decide +kernel)⟩
theorem lw_p51 : lw_okq (⟨"HoopWaistModel", "gained", "(III)I"⟩, 46) := ⟨⟨by decide +kernel, by decide +kernel⟩, List.mem_of_getElem? (i := 1009) (by decide +kernel), List.mem_of_getElem? (i := 1312) (by decide +kernel), List.mem_of_getElem? (i := 1313) (by decide +kernel)⟩
theorem lw_p52 : lw_okq (⟨"HoopWaistModel", "becomesPace", "(II)V"⟩, 46) := ⟨⟨by decide +kernel, by decide +kernel⟩, List.mem_of_getElem? (i := 1009) (by decide +kernel), List.mem_of_getElem? (i := 1316) (by decide +kernel), List.mem_of_getElem? (i := 1317) (by decide +kernel)⟩
theorem lw_p53 : lw_okq (⟨"HoopWaistModel", "turns", "(I)V"⟩, 46) := ⟨⟨by decide +kernel, by decide +kernel⟩, List.mem_of_getElem? (i := 1009) (by decide +kernel), List.mem_of_getElem? (i := 1320) (by decide +kernel), List.mem_of_getElem? (i := 1321) (by decide +kernel)⟩
theorem lw_p54 : lw_okq (⟨"HoopWaistModel", "fallOf", "(I)I"⟩, 46) := ⟨⟨by decide +kernel, by decide +kernel⟩, List.mem_of_getElem? (i := 1009) (by decide +kernel), List.mem_of_getElem? (i := 1343) (by decide +kernel), List.mem_of_getElem? (i := 1344) (by decide +kernel)⟩
theorem lw_p55 : lw_okq (⟨"HoopWaistModel", "lastsOf", "(I)I"⟩, 46) := ⟨⟨by decide +kernel, by decide +kernel⟩, List.mem_of_getElem? (i := 1009) (by decide +kernel), List.mem_of_getElem? (i := 1351) (by decide +kernel), List.mem_of_getElem? (i := 1352) (by decide +kernel)⟩
theorem lw_p56 : lw_okq (⟨"HoopWaistModel", "mistaken", "(I)I"⟩, 46) := ⟨⟨by decide +kernel, by decide +kernel⟩, List.mem_of_getElem? (i := 1009) (by decide +kernel), List.mem_of_getElem? (i := 1369) (by decide +kernel), List.mem_of_getElem? (i := 1370) (by decide +kernel)⟩
theorem lw_p57 : lw_okq (⟨"HoopWaistModel", "fallWith", "(IIII)I"⟩, 46) := ⟨⟨by decide +kernel, by decide +kernel⟩, List.mem_of_getElem? (i := 1009) (by decide +kernel), List.mem_of_getElem? (i := 1381) (by decide +kernel), List.mem_of_getElem? (i := 1382) (by decide +kernel)⟩
theorem lw_p58 : lw_okq (⟨"HoopWaistModel", "rowIs", "(I)I"⟩, 46) := ⟨⟨by decide +kernel, by decide +kernel⟩, List.mem_of_getElem? (i := 1009) (by decide +kernel), List.mem_of_getElem? (i := 1393) (by decide +kernel), List.mem_of_getElem? (i := 1394) (by decide +kernel)⟩
theorem lw_p59 : lw_okq (⟨"HoopWaistModel", "firstFalse", "(II)I"⟩, 46) := ⟨⟨by decide +kernel, by decide +kernel⟩, List.mem_of_getElem? (i := 1009) (by decide +kernel), List.mem_of_getElem? (i := 1402) (by decide +kernel), List.mem_of_getElem? (i := 1403) (by decide +kernel)⟩
theorem lw_p60 : lw_okq (⟨"HoopWaistModel", "field", "(II)V"⟩, 46) := ⟨⟨by decide +kernel, by decide +kernel⟩, List.mem_of_getElem? (i := 1009) (by decide +kernel), List.mem_of_getElem? (i := 1423) (by decide +kernel), List.mem_of_getElem? (i := 1424) (by decide +kernel)⟩
theorem lw_p61 : lw_okq (⟨"HoopWaistModel", "draws", "()I"⟩, 46) := ⟨⟨by decide +kernel, by decide +kernel⟩, List.mem_of_getElem? (i := 1009) (by decide +kernel), List.mem_of_getElem? (i := 1427) (by decide +kernel), List.mem_of_getElem? (i := 1428) (by decide +kernel)⟩
theorem lw_p62 : lw_okq (⟨"HoopWaistModel", "drops", "(III)V"⟩, 46) := ⟨⟨by decide +kernel, by decide +kernel⟩, List.mem_of_getElem? (i := 1009) (by decide +kernel), List.mem_of_getElem? (i := 1432) (by decide +kernel), List.mem_of_getElem? (i := 1433) (by decide +kernel)⟩
theorem lw_p63 : lw_okq (⟨"HoopWaistModel", "isBody", "(I)Z"⟩, 46) := ⟨⟨by decide +kernel, by decide +kernel⟩, List.mem_of_getElem? (i := 1009) (by decide +kernel), List.mem_of_getElem? (i := 1481) (by decide +kernel), List.mem_of_getElem? (i := 1482) (by decide +kernel)⟩
def lw_privs_4 : List (MethodName × Nat) := [(⟨"HoopWaistModel", "isPush", "(I)Z"⟩, 46), (⟨"HoopWaistModel", "toOf", "(I)I"⟩, 46), (⟨"HoopWaistModel", "pushes", "(II)V"⟩, 46), (⟨"HoopWaistModel", "gained", "(III)I"⟩, 46), (⟨"HoopWaistModel", "becomesPace", "(II)V"⟩, 46), (⟨"HoopWaistModel", "turns", "(I)V"⟩, 46), (⟨"HoopWaistModel", "fallOf", "(I)I"⟩, 46), (⟨"HoopWaistModel", "lastsOf", "(I)I"⟩, 46), (⟨"HoopWaistModel", "mistaken", "(I)I"⟩, 46), (⟨"HoopWaistModel", "fallWith", "(IIII)I"⟩, 46), (⟨"HoopWaistModel", "rowIs", "(I)I"⟩, 46), (⟨"HoopWaistModel", "firstFalse", "(II)I"⟩, 46), (⟨"HoopWaistModel", "field", "(II)V"⟩, 46), (⟨"HoopWaistModel", "draws", "()I"⟩, 46), (⟨"HoopWaistModel", "drops", "(III)V"⟩, 46), (⟨"HoopWaistModel", "isBody", "(I)Z"⟩, 46)]
theorem lw_r4 : ∀ q ∈ lw_privs_4, lw_okq q := List.forall_mem_cons.mpr ⟨lw_p48, List.forall_mem_cons.mpr ⟨lw_p49, List.forall_mem_cons.mpr ⟨lw_p50, List.forall_mem_cons.mpr ⟨lw_p51, List.forall_mem_cons.mpr ⟨lw_p52, List.forall_mem_cons.mpr ⟨lw_p53, List.forall_mem_cons.mpr ⟨lw_p54, List.forall_mem_cons.mpr ⟨lw_p55, List.forall_mem_cons.mpr ⟨lw_p56, List.forall_mem_cons.mpr ⟨lw_p57, List.forall_mem_cons.mpr ⟨lw_p58, List.forall_mem_cons.mpr ⟨lw_p59, List.forall_mem_cons.mpr ⟨lw_p60, List.forall_mem_cons.mpr ⟨lw_p61, List.forall_mem_cons.mpr ⟨lw_p62, List.forall_mem_cons.mpr ⟨lw_p63, fun _ h => absurd h List.not_mem_nil⟩⟩⟩⟩⟩⟩⟩⟩⟩⟩⟩⟩⟩⟩⟩⟩
theorem lw_p64 : lw_okq (⟨"HoopWaistModel", "pushesAs", "(II)I"⟩, 46) := ⟨⟨by decide +kernel, by decide +kernel⟩, List.mem_of_getElem? (i := 1009) (by decide +kernel), List.mem_of_getElem? (i := 1485) (by decide +kernel), List.mem_of_getElem? (i := 1486) (by decide +kernel)⟩
theorem lw_p65 : lw_okq (⟨"HoopWaistModel", "begins", "(I)V"⟩, 46) := ⟨⟨by decide +kernel, by decide +kernel⟩, List.mem_of_getElem? (i := 1009) (by decide +kernel), List.mem_of_getElem? (i := 1489) (by decide +kernel), List.mem_of_getElem? (i := 1490) (by decide +kernel)⟩
theorem lw_p66 : lw_okq (⟨"HoopWaistModel", "turnsAs", "(II)I"⟩, 46) := ⟨⟨by decide +kernel, by decide +kernel⟩, List.mem_of_getElem? (i := 1009) (by decide +kernel), List.mem_of_getElem? (i := 1493) (by decide +kernel), List.mem_of_getElem? (i := 1494) (by decide +kernel)⟩
theorem lw_p67 : lw_okq (⟨"HoopWaistModel", "sinksAs", "(II)I"⟩, 46) := ⟨⟨by decide +kernel, by decide +kernel⟩, List.mem_of_getElem? (i := 1009) (by decide +kernel), List.mem_of_getElem? (i := 1497) (by decide +kernel), List.mem_of_getElem? (i := 1498) (by decide +kernel)⟩
theorem lw_p68 : lw_okq (⟨"HoopWaistModel", "tellsAs", "(II)I"⟩, 46) := ⟨⟨by decide +kernel, by decide +kernel⟩, List.mem_of_getElem? (i := 1009) (by decide +kernel), List.mem_of_getElem? (i := 1501) (by decide +kernel), List.mem_of_getElem? (i := 1502) (by decide +kernel)⟩
theorem lw_p69 : lw_okq (⟨"HoopWaistModel", "refusal", "(II)I"⟩, 46) := ⟨⟨by decide +kernel, by decide +kernel⟩, List.mem_of_getElem? (i := 1009) (by decide +kernel), List.mem_of_getElem? (i := 1521) (by decide +kernel), List.mem_of_getElem? (i := 1522) (by decide +kernel)⟩
theorem lw_p70 : lw_okq (⟨"HoopWaistModel", "kindOf", "(I)I"⟩, 46) := ⟨⟨by decide +kernel, by decide +kernel⟩, List.mem_of_getElem? (i := 1009) (by decide +kernel), List.mem_of_getElem? (i := 1540) (by decide +kernel), List.mem_of_getElem? (i := 1541) (by decide +kernel)⟩
def lw_privs_5 : List (MethodName × Nat) := [(⟨"HoopWaistModel", "pushesAs", "(II)I"⟩, 46), (⟨"HoopWaistModel", "begins", "(I)V"⟩, 46), (⟨"HoopWaistModel", "turnsAs", "(II)I"⟩, 46), (⟨"HoopWaistModel", "sinksAs", "(II)I"⟩, 46), (⟨"HoopWaistModel", "tellsAs", "(II)I"⟩, 46), (⟨"HoopWaistModel", "refusal", "(II)I"⟩, 46), (⟨"HoopWaistModel", "kindOf", "(I)I"⟩, 46)]
theorem lw_r5 : ∀ q ∈ lw_privs_5, lw_okq q := List.forall_mem_cons.mpr ⟨lw_p64, List.forall_mem_cons.mpr ⟨lw_p65, List.forall_mem_cons.mpr ⟨lw_p66, List.forall_mem_cons.mpr ⟨lw_p67, List.forall_mem_cons.mpr ⟨lw_p68, List.forall_mem_cons.mpr ⟨lw_p69, List.forall_mem_cons.mpr ⟨lw_p70, fun _ h => absurd h List.not_mem_nil⟩⟩⟩⟩⟩⟩⟩
def lw_privs : List (MethodName × Nat) := lw_privs_1 ++ (lw_privs_2 ++ (lw_privs_3 ++ (lw_privs_4 ++ (lw_privs_5))))
def lw_tbl : List Cond := k2_sels lw_privs ++ tables_1
theorem lw_privs_ok : ∀ q ∈ lw_privs, lw_okq q := by
  show ∀ q ∈ lw_privs_1 ++ (lw_privs_2 ++ (lw_privs_3 ++ (lw_privs_4 ++ (lw_privs_5)))), lw_okq q
  exact List.forall_mem_append.mpr ⟨lw_r1, List.forall_mem_append.mpr ⟨lw_r2, List.forall_mem_append.mpr ⟨lw_r3, List.forall_mem_append.mpr ⟨lw_r4, lw_r5⟩⟩⟩⟩
end
section
/-! names, out of what TURN printed -/
def RX0 : String := "HoopWaist$Changes"
def TX0 : u_T := fun k => match k with
  | 0 => ("HoopWaist$Changes", "number", "[I", true)
  | 1 => ("HoopWaist$Changes", "what", "[I", true)
  | 2 => ("HoopWaist$Changes", "was", "[I", true)
  | 3 => ("HoopWaist$Changes", "became", "[I", true)
  | 4 => ("HoopWaist$Changes", "undoable", "I", false)
  | _ => ("HoopWaist$Changes", "noted", "I", false)
def tyX0 : Nat → FieldType := fun k => match k with
  | 0 => .array .int
  | 1 => .array .int
  | 2 => .array .int
  | 3 => .array .int
  | 4 => .int
  | _ => .int
abbrev wsX00 : List Cond := u_ws RX0 TX0 6
theorem nmX0 : ∀ a, a < 6 → ∀ b, b < 6 → a ≠ b → (TX0 a).2.1 ≠ (TX0 b).2.1 := by decide +kernel
theorem tyX0_ok : ∀ k, k < 6 → parseFieldDescriptor (TX0 k).2.2.1 = some (tyX0 k) := by decide +kernel
abbrev cX0_init : ByteArray := prog_2_method_1_code
def yX0_init : MethodName := ⟨RX0, "<init>", "()V"⟩
abbrev cX0_note : ByteArray := prog_2_method_2_code
def yX0_note : MethodName := ⟨RX0, "note", "(IIII)V"⟩
abbrev cX0_forgetOldest : ByteArray := prog_2_method_3_code
def yX0_forgetOldest : MethodName := ⟨RX0, "forgetOldest", "()V"⟩
def RX1 : String := "HoopWaist$Field"
def TX1 : u_T := fun k => match k with
  | 0 => ("HoopWaist$Field", "skills", "[I", true)
  | 1 => ("HoopWaist$Field", "minutes", "[I", true)
  | 2 => ("HoopWaist$Field", "up", "[Z", true)
  | 3 => ("HoopWaist$Field", "knocker", "[I", true)
  | 4 => ("HoopWaist$Field", "dropMinute", "[I", true)
  | 5 => ("HoopWaist$Field", "knock", "I", false)
  | _ => ("HoopWaist$Field", "z", "I", false)
def tyX1 : Nat → FieldType := fun k => match k with
  | 0 => .array .int
  | 1 => .array .int
  | 2 => .array .boolean
  | 3 => .array .int
  | 4 => .array .int
  | 5 => .int
  | _ => .int
abbrev wsX10 : List Cond := u_ws RX1 TX1 7
theorem nmX1 : ∀ a, a < 7 → ∀ b, b < 7 → a ≠ b → (TX1 a).2.1 ≠ (TX1 b).2.1 := by decide +kernel
theorem tyX1_ok : ∀ k, k < 7 → parseFieldDescriptor (TX1 k).2.2.1 = some (tyX1 k) := by decide +kernel
abbrev cX1_init : ByteArray := prog_3_method_1_code
def yX1_init : MethodName := ⟨RX1, "<init>", "()V"⟩
abbrev cX1_becomes : ByteArray := prog_3_method_2_code
def yX1_becomes : MethodName := ⟨RX1, "becomes", "(II)V"⟩
abbrev cX1_minutesAt : ByteArray := prog_3_method_3_code
def yX1_minutesAt : MethodName := ⟨RX1, "minutesAt", "(I)I"⟩
abbrev cX1_learnMinute : ByteArray := prog_3_method_4_code
def yX1_learnMinute : MethodName := ⟨RX1, "learnMinute", "(I)V"⟩
abbrev cX1_play : ByteArray := prog_3_method_5_code
def yX1_play : MethodName := ⟨RX1, "play", "(II)V"⟩
abbrev cX1_playMinute : ByteArray := prog_3_method_6_code
def yX1_playMinute : MethodName := ⟨RX1, "playMinute", "(I)V"⟩
abbrev cX1_knockFrom : ByteArray := prog_3_method_7_code
def yX1_knockFrom : MethodName := ⟨RX1, "knockFrom", "(II)V"⟩
abbrev cX1_drop : ByteArray := prog_3_method_8_code
def yX1_drop : MethodName := ⟨RX1, "drop", "(III)V"⟩
abbrev cX1_draw : ByteArray := prog_3_method_9_code
def yX1_draw : MethodName := ⟨RX1, "draw", "()I"⟩
abbrev cX1_beside : ByteArray := prog_3_method_10_code
def yX1_beside : MethodName := ⟨RX1, "beside", "(II)I"⟩
abbrev cX1_howManyUp : ByteArray := prog_3_method_11_code
def yX1_howManyUp : MethodName := ⟨RX1, "howManyUp", "()I"⟩
abbrev cX1_longest : ByteArray := prog_3_method_12_code
def yX1_longest : MethodName := ⟨RX1, "longest", "()I"⟩
def RX2 : String := "HoopWaist$Hoop"
def TX2 : u_T := fun k => match k with
  | 0 => ("HoopWaist$Hoop", "size", "I", false)
  | 1 => ("HoopWaist$Hoop", "heavy", "I", false)
  | 2 => ("HoopWaist$Hoop", "place", "I", false)
  | 3 => ("HoopWaist$Hoop", "pace", "I", false)
  | _ => ("HoopWaist$Hoop", "high", "I", false)
def tyX2 : Nat → FieldType := fun k => match k with
  | 0 => .int
  | 1 => .int
  | 2 => .int
  | 3 => .int
  | _ => .int
abbrev wsX20 : List Cond := u_ws RX2 TX2 5
theorem nmX2 : ∀ a, a < 5 → ∀ b, b < 5 → a ≠ b → (TX2 a).2.1 ≠ (TX2 b).2.1 := by decide +kernel
theorem tyX2_ok : ∀ k, k < 5 → parseFieldDescriptor (TX2 k).2.2.1 = some (tyX2 k) := by decide +kernel
abbrev cX2_init : ByteArray := prog_4_method_1_code
def yX2_init : MethodName := ⟨RX2, "<init>", "()V"⟩
abbrev cX2_copy : ByteArray := prog_4_method_2_code
def yX2_copy : MethodName := ⟨RX2, "copy", "(LHoopWaist$Hoop;)V"⟩
abbrev cX2_copyWay : ByteArray := prog_4_method_3_code
def yX2_copyWay : MethodName := ⟨RX2, "copyWay", "(LHoopWaist$Hoop;)V"⟩
abbrev cX2_raise : ByteArray := prog_4_method_4_code
def yX2_raise : MethodName := ⟨RX2, "raise", "()V"⟩
abbrev cX2_drop : ByteArray := prog_4_method_5_code
def yX2_drop : MethodName := ⟨RX2, "drop", "()V"⟩
abbrev cX2_lies : ByteArray := prog_4_method_6_code
def yX2_lies : MethodName := ⟨RX2, "lies", "()Z"⟩
abbrev cX2_need : ByteArray := prog_4_method_7_code
def yX2_need : MethodName := ⟨RX2, "need", "()I"⟩
abbrev cX2_speed : ByteArray := prog_4_method_8_code
def yX2_speed : MethodName := ⟨RX2, "speed", "()I"⟩
abbrev cX2_told : ByteArray := prog_4_method_9_code
def yX2_told : MethodName := ⟨RX2, "told", "(I)I"⟩
abbrev cX2_become : ByteArray := prog_4_method_10_code
def yX2_become : MethodName := ⟨RX2, "become", "(II)V"⟩
abbrev cX2_farFrom : ByteArray := prog_4_method_11_code
def yX2_farFrom : MethodName := ⟨RX2, "farFrom", "(I)I"⟩
abbrev cX2_quicken : ByteArray := prog_4_method_12_code
def yX2_quicken : MethodName := ⟨RX2, "quicken", "(I)V"⟩
abbrev cX2_move : ByteArray := prog_4_method_13_code
def yX2_move : MethodName := ⟨RX2, "move", "()V"⟩
abbrev cX2_sankToLie : ByteArray := prog_4_method_14_code
def yX2_sankToLie : MethodName := ⟨RX2, "sankToLie", "()Z"⟩
def RX3 : String := "HoopWaist$Law"
def TX3 : u_T := fun k => match k with
  | 0 => ("HoopWaist$Law", "signs", "[I", true)
  | 1 => ("HoopWaist$Law", "values", "[I", true)
  | 2 => ("HoopWaist$Law", "stack", "[I", true)
  | 3 => ("HoopWaist$Law", "names", "[I", true)
  | 4 => ("HoopWaist$Law", "length", "I", false)
  | _ => ("HoopWaist$Law", "top", "I", false)
def tyX3 : Nat → FieldType := fun k => match k with
  | 0 => .array .int
  | 1 => .array .int
  | 2 => .array .int
  | 3 => .array .int
  | 4 => .int
  | _ => .int
abbrev wsX30 : List Cond := u_ws RX3 TX3 6
theorem nmX3 : ∀ a, a < 6 → ∀ b, b < 6 → a ≠ b → (TX3 a).2.1 ≠ (TX3 b).2.1 := by decide +kernel
theorem tyX3_ok : ∀ k, k < 6 → parseFieldDescriptor (TX3 k).2.2.1 = some (tyX3 k) := by decide +kernel
abbrev cX3_init : ByteArray := prog_5_method_1_code
def yX3_init : MethodName := ⟨RX3, "<init>", "()V"⟩
abbrev cX3_copy : ByteArray := prog_5_method_2_code
def yX3_copy : MethodName := ⟨RX3, "copy", "(LHoopWaist$Law;)V"⟩
abbrev cX3_add : ByteArray := prog_5_method_3_code
def yX3_add : MethodName := ⟨RX3, "add", "(II)I"⟩
abbrev cX3_more : ByteArray := prog_5_method_4_code
def yX3_more : MethodName := ⟨RX3, "more", "(LHoopWaist$Hoop;II)I"⟩
abbrev cX3_withoutText : ByteArray := prog_5_method_5_code
def yX3_withoutText : MethodName := ⟨RX3, "withoutText", "(II)I"⟩
abbrev cX3_worth : ByteArray := prog_5_method_6_code
def yX3_worth : MethodName := ⟨RX3, "worth", "()I"⟩
abbrev cX3_pile : ByteArray := prog_5_method_7_code
def yX3_pile : MethodName := ⟨RX3, "pile", "(I)V"⟩
abbrev cX3_unpile : ByteArray := prog_5_method_8_code
def yX3_unpile : MethodName := ⟨RX3, "unpile", "()I"⟩
abbrev cX3_joined : ByteArray := prog_5_method_9_code
def yX3_joined : MethodName := ⟨RX3, "joined", "(III)I"⟩
def RX4 : String := "HoopWaist$Reader"
def TX4 : u_T := fun k => match k with
  | 0 => ("HoopWaist$Reader", "tape", "[I", true)
  | 1 => ("HoopWaist$Reader", "draft", "LHoopWaist$Law;", true)
  | 2 => ("HoopWaist$Reader", "length", "I", false)
  | 3 => ("HoopWaist$Reader", "at", "I", false)
  | _ => ("HoopWaist$Reader", "stuck", "Z", false)
def tyX4 : Nat → FieldType := fun k => match k with
  | 0 => .array .int
  | 1 => .object "HoopWaist$Law"
  | 2 => .int
  | 3 => .int
  | _ => .boolean
abbrev wsX40 : List Cond := u_ws RX4 TX4 5
theorem nmX4 : ∀ a, a < 5 → ∀ b, b < 5 → a ≠ b → (TX4 a).2.1 ≠ (TX4 b).2.1 := by decide +kernel
theorem tyX4_ok : ∀ k, k < 5 → parseFieldDescriptor (TX4 k).2.2.1 = some (tyX4 k) := by decide +kernel
abbrev cX4_init : ByteArray := prog_6_method_1_code
def yX4_init : MethodName := ⟨RX4, "<init>", "()V"⟩
abbrev cX4_takeIn : ByteArray := prog_6_method_2_code
def yX4_takeIn : MethodName := ⟨RX4, "takeIn", "(I)Z"⟩
abbrev cX4_readText : ByteArray := prog_6_method_3_code
def yX4_readText : MethodName := ⟨RX4, "readText", "()I"⟩
abbrev cX4_readLine : ByteArray := prog_6_method_4_code
def yX4_readLine : MethodName := ⟨RX4, "readLine", "()V"⟩
abbrev cX4_readChain : ByteArray := prog_6_method_5_code
def yX4_readChain : MethodName := ⟨RX4, "readChain", "(II)V"⟩
abbrev cX4_isJoin : ByteArray := prog_6_method_6_code
def yX4_isJoin : MethodName := ⟨RX4, "isJoin", "(I)Z"⟩
abbrev cX4_readOperand : ByteArray := prog_6_method_7_code
def yX4_readOperand : MethodName := ⟨RX4, "readOperand", "(I)V"⟩
abbrev cX4_readOpened : ByteArray := prog_6_method_8_code
def yX4_readOpened : MethodName := ⟨RX4, "readOpened", "(II)V"⟩
abbrev cX4_readNumber : ByteArray := prog_6_method_9_code
def yX4_readNumber : MethodName := ⟨RX4, "readNumber", "()V"⟩
abbrev cX4_next : ByteArray := prog_6_method_10_code
def yX4_next : MethodName := ⟨RX4, "next", "()I"⟩
abbrev cX4_takes : ByteArray := prog_6_method_11_code
def yX4_takes : MethodName := ⟨RX4, "takes", "(I)Z"⟩
abbrev cX4_isDigit : ByteArray := prog_6_method_12_code
def yX4_isDigit : MethodName := ⟨RX4, "isDigit", "(I)Z"⟩
abbrev cX4_nameOf : ByteArray := prog_6_method_13_code
def yX4_nameOf : MethodName := ⟨RX4, "nameOf", "(I)I"⟩
def RX5 : String := "HoopWaist$Ring"
def TX5 : u_T := fun k => match k with
  | 0 => ("HoopWaist$Ring", "law", "LHoopWaist$Law;", true)
  | 1 => ("HoopWaist$Ring", "hoops", "[LHoopWaist$Hoop;", true)
  | 2 => ("HoopWaist$Ring", "count", "I", false)
  | 3 => ("HoopWaist$Ring", "now", "I", false)
  | 4 => ("HoopWaist$Ring", "rub", "I", false)
  | 5 => ("HoopWaist$Ring", "beat", "I", false)
  | 6 => ("HoopWaist$Ring", "phase", "I", false)
  | 7 => ("HoopWaist$Ring", "strength", "I", false)
  | 8 => ("HoopWaist$Ring", "pushes", "I", false)
  | _ => ("HoopWaist$Ring", "latestFall", "I", false)
def tyX5 : Nat → FieldType := fun k => match k with
  | 0 => .object "HoopWaist$Law"
  | 1 => .array (.object "HoopWaist$Hoop")
  | 2 => .int
  | 3 => .int
  | 4 => .int
  | 5 => .int
  | 6 => .int
  | 7 => .int
  | 8 => .int
  | _ => .int
abbrev wsX50 : List Cond := u_ws RX5 TX5 10
theorem nmX5 : ∀ a, a < 10 → ∀ b, b < 10 → a ≠ b → (TX5 a).2.1 ≠ (TX5 b).2.1 := by decide +kernel
theorem tyX5_ok : ∀ k, k < 10 → parseFieldDescriptor (TX5 k).2.2.1 = some (tyX5 k) := by decide +kernel
abbrev cX5_init : ByteArray := prog_7_method_1_code
def yX5_init : MethodName := ⟨RX5, "<init>", "(LHoopWaist$Law;)V"⟩
abbrev cX5_copy : ByteArray := prog_7_method_2_code
def yX5_copy : MethodName := ⟨RX5, "copy", "(LHoopWaist$Ring;)V"⟩
abbrev cX5_layBack : ByteArray := prog_7_method_3_code
def yX5_layBack : MethodName := ⟨RX5, "layBack", "(LHoopWaist$Ring;)V"⟩
abbrev cX5_has : ByteArray := prog_7_method_4_code
def yX5_has : MethodName := ⟨RX5, "has", "(I)Z"⟩
abbrev cX5_isFull : ByteArray := prog_7_method_5_code
def yX5_isFull : MethodName := ⟨RX5, "isFull", "()Z"⟩
abbrev cX5_addHoop : ByteArray := prog_7_method_6_code
def yX5_addHoop : MethodName := ⟨RX5, "addHoop", "(III)I"⟩
abbrev cX5_upright : ByteArray := prog_7_method_7_code
def yX5_upright : MethodName := ⟨RX5, "upright", "()I"⟩
abbrev cX5_allUp : ByteArray := prog_7_method_8_code
def yX5_allUp : MethodName := ⟨RX5, "allUp", "(I)Z"⟩
abbrev cX5_allHighest : ByteArray := prog_7_method_9_code
def yX5_allHighest : MethodName := ⟨RX5, "allHighest", "()Z"⟩
abbrev cX5_layAllBut : ByteArray := prog_7_method_10_code
def yX5_layAllBut : MethodName := ⟨RX5, "layAllBut", "(I)V"⟩
abbrev cX5_isPushDue : ByteArray := prog_7_method_11_code
def yX5_isPushDue : MethodName := ⟨RX5, "isPushDue", "()Z"⟩
abbrev cX5_goalInTurn : ByteArray := prog_7_method_12_code
def yX5_goalInTurn : MethodName := ⟨RX5, "goalInTurn", "()I"⟩
abbrev cX5_tick : ByteArray := prog_7_method_13_code
def yX5_tick : MethodName := ⟨RX5, "tick", "()V"⟩
abbrev cX5_push : ByteArray := prog_7_method_14_code
def yX5_push : MethodName := ⟨RX5, "push", "(II)V"⟩
abbrev cX5_settle : ByteArray := prog_7_method_15_code
def yX5_settle : MethodName := ⟨RX5, "settle", "()V"⟩
abbrev cX5_cross : ByteArray := prog_7_method_16_code
def yX5_cross : MethodName := ⟨RX5, "cross", "()V"⟩
abbrev cX5_areCrossed : ByteArray := prog_7_method_17_code
def yX5_areCrossed : MethodName := ⟨RX5, "areCrossed", "(LHoopWaist$Hoop;LHoopWaist$Hoop;)Z"⟩
def RX6 : String := "HoopWaist$Shelf"
def TX6 : u_T := fun k => match k with
  | 0 => ("HoopWaist$Shelf", "holds", "I", false)
  | 1 => ("HoopWaist$Shelf", "turn", "I", false)
  | 2 => ("HoopWaist$Shelf", "sort", "I", false)
  | 3 => ("HoopWaist$Shelf", "length", "I", false)
  | _ => ("HoopWaist$Shelf", "elements", "[J", true)
def tyX6 : Nat → FieldType := fun k => match k with
  | 0 => .int
  | 1 => .int
  | 2 => .int
  | 3 => .int
  | _ => .array .long
abbrev wsX60 : List Cond := u_ws RX6 TX6 5
theorem nmX6 : ∀ a, a < 5 → ∀ b, b < 5 → a ≠ b → (TX6 a).2.1 ≠ (TX6 b).2.1 := by decide +kernel
theorem tyX6_ok : ∀ k, k < 5 → parseFieldDescriptor (TX6 k).2.2.1 = some (tyX6 k) := by decide +kernel
abbrev cX6_init : ByteArray := prog_8_method_1_code
def yX6_init : MethodName := ⟨RX6, "<init>", "()V"⟩
abbrev cX6_isSort : ByteArray := prog_8_method_2_code
def yX6_isSort : MethodName := ⟨RX6, "isSort", "(I)Z"⟩
abbrev cX6_isEmpty : ByteArray := prog_8_method_3_code
def yX6_isEmpty : MethodName := ⟨RX6, "isEmpty", "()Z"⟩
abbrev cX6_isTurn : ByteArray := prog_8_method_4_code
def yX6_isTurn : MethodName := ⟨RX6, "isTurn", "()Z"⟩
abbrev cX6_isRow : ByteArray := prog_8_method_5_code
def yX6_isRow : MethodName := ⟨RX6, "isRow", "()Z"⟩
abbrev cX6_hasBytes : ByteArray := prog_8_method_6_code
def yX6_hasBytes : MethodName := ⟨RX6, "hasBytes", "()Z"⟩
abbrev cX6_holdNothing : ByteArray := prog_8_method_7_code
def yX6_holdNothing : MethodName := ⟨RX6, "holdNothing", "()V"⟩
abbrev cX6_holdTurn : ByteArray := prog_8_method_8_code
def yX6_holdTurn : MethodName := ⟨RX6, "holdTurn", "(I)V"⟩
abbrev cX6_holdRow : ByteArray := prog_8_method_9_code
def yX6_holdRow : MethodName := ⟨RX6, "holdRow", "(II)V"⟩
abbrev cX6_bytesRefusal : ByteArray := prog_8_method_10_code
def yX6_bytesRefusal : MethodName := ⟨RX6, "bytesRefusal", "()I"⟩
abbrev cX6_placeRefusal : ByteArray := prog_8_method_11_code
def yX6_placeRefusal : MethodName := ⟨RX6, "placeRefusal", "(I)I"⟩
abbrev cX6_hasStretch : ByteArray := prog_8_method_12_code
def yX6_hasStretch : MethodName := ⟨RX6, "hasStretch", "(II)Z"⟩
abbrev cX6_lay : ByteArray := prog_8_method_13_code
def yX6_lay : MethodName := ⟨RX6, "lay", "(IJ)V"⟩
abbrev cX6_gapAt : ByteArray := prog_8_method_14_code
def yX6_gapAt : MethodName := ⟨RX6, "gapAt", "(I)I"⟩
def RX7 : String := "HoopWaist$Thought"
def TX7 : u_T := fun k => match k with
  | 0 => ("HoopWaist$Thought", "real", "LHoopWaist$Ring;", true)
  | 1 => ("HoopWaist$Thought", "ring", "LHoopWaist$Ring;", true)
  | 2 => ("HoopWaist$Thought", "ticks", "I", false)
  | 3 => ("HoopWaist$Thought", "pushesSeen", "I", false)
  | 4 => ("HoopWaist$Thought", "leftOut", "I", false)
  | 5 => ("HoopWaist$Thought", "moreTick", "I", false)
  | 6 => ("HoopWaist$Thought", "moreForce", "I", false)
  | _ => ("HoopWaist$Thought", "moreGoal", "I", false)
def tyX7 : Nat → FieldType := fun k => match k with
  | 0 => .object "HoopWaist$Ring"
  | 1 => .object "HoopWaist$Ring"
  | 2 => .int
  | 3 => .int
  | 4 => .int
  | 5 => .int
  | 6 => .int
  | _ => .int
abbrev wsX70 : List Cond := u_ws RX7 TX7 8
theorem nmX7 : ∀ a, a < 8 → ∀ b, b < 8 → a ≠ b → (TX7 a).2.1 ≠ (TX7 b).2.1 := by decide +kernel
theorem tyX7_ok : ∀ k, k < 8 → parseFieldDescriptor (TX7 k).2.2.1 = some (tyX7 k) := by decide +kernel
abbrev cX7_init : ByteArray := prog_9_method_1_code
def yX7_init : MethodName := ⟨RX7, "<init>", "(LHoopWaist$Ring;LHoopWaist$Ring;)V"⟩
abbrev cX7_begin : ByteArray := prog_9_method_2_code
def yX7_begin : MethodName := ⟨RX7, "begin", "()V"⟩
abbrev cX7_leaveOut : ByteArray := prog_9_method_3_code
def yX7_leaveOut : MethodName := ⟨RX7, "leaveOut", "(I)V"⟩
abbrev cX7_addPush : ByteArray := prog_9_method_4_code
def yX7_addPush : MethodName := ⟨RX7, "addPush", "(III)V"⟩
abbrev cX7_step : ByteArray := prog_9_method_5_code
def yX7_step : MethodName := ⟨RX7, "step", "()V"⟩
abbrev cX7_behind : ByteArray := prog_9_method_6_code
def yX7_behind : MethodName := ⟨RX7, "behind", "(II)LHoopWaist$Hoop;"⟩
abbrev cX7_fallOf : ByteArray := prog_9_method_7_code
def yX7_fallOf : MethodName := ⟨RX7, "fallOf", "(I)I"⟩
abbrev cX7_isUpBehind : ByteArray := prog_9_method_8_code
def yX7_isUpBehind : MethodName := ⟨RX7, "isUpBehind", "(II)Z"⟩
abbrev cX7_lasting : ByteArray := prog_9_method_9_code
def yX7_lasting : MethodName := ⟨RX7, "lasting", "()I"⟩
abbrev cX7_caughtAgain : ByteArray := prog_9_method_10_code
def yX7_caughtAgain : MethodName := ⟨RX7, "caughtAgain", "()I"⟩
abbrev cX7_lastingBy : ByteArray := prog_9_method_11_code
def yX7_lastingBy : MethodName := ⟨RX7, "lastingBy", "(LHoopWaist$Shelf;)I"⟩
abbrev cX7_firstUnlike : ByteArray := prog_9_method_12_code
def yX7_firstUnlike : MethodName := ⟨RX7, "firstUnlike", "(LHoopWaist$Shelf;I)I"⟩
def RX8 : String := "HoopWaist$Turns"
def TX8 : u_T := fun k => match k with
  | 0 => ("HoopWaist$Turns", "kinds", "[I", true)
  | 1 => ("HoopWaist$Turns", "traced", "[I", true)
  | 2 => ("HoopWaist$Turns", "bodies", "I", false)
  | 3 => ("HoopWaist$Turns", "ran", "I", false)
  | _ => ("HoopWaist$Turns", "actor", "I", false)
def tyX8 : Nat → FieldType := fun k => match k with
  | 0 => .array .int
  | 1 => .array .int
  | 2 => .int
  | 3 => .int
  | _ => .int
abbrev wsX80 : List Cond := u_ws RX8 TX8 5
theorem nmX8 : ∀ a, a < 5 → ∀ b, b < 5 → a ≠ b → (TX8 a).2.1 ≠ (TX8 b).2.1 := by decide +kernel
theorem tyX8_ok : ∀ k, k < 5 → parseFieldDescriptor (TX8 k).2.2.1 = some (tyX8 k) := by decide +kernel
abbrev cX8_init : ByteArray := prog_10_method_1_code
def yX8_init : MethodName := ⟨RX8, "<init>", "()V"⟩
abbrev cX8_has : ByteArray := prog_10_method_2_code
def yX8_has : MethodName := ⟨RX8, "has", "(I)Z"⟩
abbrev cX8_isFull : ByteArray := prog_10_method_3_code
def yX8_isFull : MethodName := ⟨RX8, "isFull", "()Z"⟩
abbrev cX8_addBody : ByteArray := prog_10_method_4_code
def yX8_addBody : MethodName := ⟨RX8, "addBody", "(I)I"⟩
abbrev cX8_isUnder : ByteArray := prog_10_method_5_code
def yX8_isUnder : MethodName := ⟨RX8, "isUnder", "(II)Z"⟩
abbrev cX8_perform : ByteArray := prog_10_method_6_code
def yX8_perform : MethodName := ⟨RX8, "perform", "(III)I"⟩
abbrev cX8_own : ByteArray := prog_10_method_7_code
def yX8_own : MethodName := ⟨RX8, "own", "(III)I"⟩
abbrev cX8_above : ByteArray := prog_10_method_8_code
def yX8_above : MethodName := ⟨RX8, "above", "(IIII)I"⟩
abbrev cX8_runFrom : ByteArray := prog_10_method_9_code
def yX8_runFrom : MethodName := ⟨RX8, "runFrom", "(IIII)I"⟩
abbrev cX8_run : ByteArray := prog_10_method_10_code
def yX8_run : MethodName := ⟨RX8, "run", "(IIII)I"⟩
abbrev cX8_note : ByteArray := prog_10_method_11_code
def yX8_note : MethodName := ⟨RX8, "note", "(I)V"⟩
def RX9 : String := "HoopWaist"
def TX9 : u_T := fun k => match k with
  | 0 => ("HoopWaist", "law", "LHoopWaist$Law;", true)
  | 1 => ("HoopWaist", "reader", "LHoopWaist$Reader;", true)
  | 2 => ("HoopWaist", "ring", "LHoopWaist$Ring;", true)
  | 3 => ("HoopWaist", "kept", "LHoopWaist$Ring;", true)
  | 4 => ("HoopWaist", "thought", "LHoopWaist$Thought;", true)
  | 5 => ("HoopWaist", "field", "LHoopWaist$Field;", true)
  | 6 => ("HoopWaist", "changes", "LHoopWaist$Changes;", true)
  | 7 => ("HoopWaist", "turns", "LHoopWaist$Turns;", true)
  | 8 => ("HoopWaist", "shelves", "[LHoopWaist$Shelf;", true)
  | _ => ("HoopWaist", "hasImage", "Z", false)
def tyX9 : Nat → FieldType := fun k => match k with
  | 0 => .object "HoopWaist$Law"
  | 1 => .object "HoopWaist$Reader"
  | 2 => .object "HoopWaist$Ring"
  | 3 => .object "HoopWaist$Ring"
  | 4 => .object "HoopWaist$Thought"
  | 5 => .object "HoopWaist$Field"
  | 6 => .object "HoopWaist$Changes"
  | 7 => .object "HoopWaist$Turns"
  | 8 => .array (.object "HoopWaist$Shelf")
  | _ => .boolean
abbrev wsX90 : List Cond := u_ws RX9 TX9 10
theorem nmX9 : ∀ a, a < 10 → ∀ b, b < 10 → a ≠ b → (TX9 a).2.1 ≠ (TX9 b).2.1 := by decide +kernel
theorem tyX9_ok : ∀ k, k < 10 → parseFieldDescriptor (TX9 k).2.2.1 = some (tyX9 k) := by decide +kernel
abbrev cX9_init : ByteArray := prog_1_method_1_code
def yX9_init : MethodName := ⟨RX9, "<init>", "()V"⟩
abbrev cX9_hoop : ByteArray := prog_1_method_2_code
def yX9_hoop : MethodName := ⟨RX9, "hoop", "(I)I"⟩
abbrev cX9_hoops : ByteArray := prog_1_method_3_code
def yX9_hoops : MethodName := ⟨RX9, "hoops", "(III)I"⟩
abbrev cX9_mend : ByteArray := prog_1_method_4_code
def yX9_mend : MethodName := ⟨RX9, "mend", "(III)I"⟩
abbrev cX9_of : ByteArray := prog_1_method_5_code
def yX9_of : MethodName := ⟨RX9, "of", "(II)I"⟩
abbrev cX9_feed : ByteArray := prog_1_method_6_code
def yX9_feed : MethodName := ⟨RX9, "feed", "(I)I"⟩
abbrev cX9_law : ByteArray := prog_1_method_7_code
def yX9_law : MethodName := ⟨RX9, "law", "()I"⟩
abbrev cX9_go : ByteArray := prog_1_method_8_code
def yX9_go : MethodName := ⟨RX9, "go", "(I)I"⟩
abbrev cX9_lift : ByteArray := prog_1_method_9_code
def yX9_lift : MethodName := ⟨RX9, "lift", "(I)I"⟩
abbrev cX9_led : ByteArray := prog_1_method_10_code
def yX9_led : MethodName := ⟨RX9, "led", "(I)I"⟩
abbrev cX9_then : ByteArray := prog_1_method_11_code
def yX9_then : MethodName := ⟨RX9, "then", "(III)I"⟩
abbrev cX9_falls : ByteArray := prog_1_method_12_code
def yX9_falls : MethodName := ⟨RX9, "falls", "(I)I"⟩
abbrev cX9_lasts : ByteArray := prog_1_method_13_code
def yX9_lasts : MethodName := ⟨RX9, "lasts", "()I"⟩
abbrev cX9_beatFor : ByteArray := prog_1_method_14_code
def yX9_beatFor : MethodName := ⟨RX9, "beatFor", "(I)I"⟩
abbrev cX9_leastPush : ByteArray := prog_1_method_15_code
def yX9_leastPush : MethodName := ⟨RX9, "leastPush", "(I)I"⟩
abbrev cX9_mistake : ByteArray := prog_1_method_16_code
def yX9_mistake : MethodName := ⟨RX9, "mistake", "(II)I"⟩
abbrev cX9_held : ByteArray := prog_1_method_17_code
def yX9_held : MethodName := ⟨RX9, "held", "(I)I"⟩
abbrev cX9_rescue : ByteArray := prog_1_method_18_code
def yX9_rescue : MethodName := ⟨RX9, "rescue", "(II)I"⟩
abbrev cX9_start : ByteArray := prog_1_method_19_code
def yX9_start : MethodName := ⟨RX9, "start", "(I)I"⟩
abbrev cX9_music : ByteArray := prog_1_method_20_code
def yX9_music : MethodName := ⟨RX9, "music", "(I)I"⟩
abbrev cX9_judge : ByteArray := prog_1_method_21_code
def yX9_judge : MethodName := ⟨RX9, "judge", "(II)I"⟩
abbrev cX9_begun : ByteArray := prog_1_method_22_code
def yX9_begun : MethodName := ⟨RX9, "begun", "(III)I"⟩
abbrev cX9_skill : ByteArray := prog_1_method_23_code
def yX9_skill : MethodName := ⟨RX9, "skill", "(II)I"⟩
abbrev cX9_left : ByteArray := prog_1_method_24_code
def yX9_left : MethodName := ⟨RX9, "left", "(III)I"⟩
abbrev cX9_knocked : ByteArray := prog_1_method_25_code
def yX9_knocked : MethodName := ⟨RX9, "knocked", "(III)I"⟩
abbrev cX9_last : ByteArray := prog_1_method_26_code
def yX9_last : MethodName := ⟨RX9, "last", "(II)I"⟩
abbrev cX9_alone : ByteArray := prog_1_method_27_code
def yX9_alone : MethodName := ⟨RX9, "alone", "(III)J"⟩
abbrev cX9_learn : ByteArray := prog_1_method_28_code
def yX9_learn : MethodName := ⟨RX9, "learn", "(II)I"⟩
abbrev cX9_till : ByteArray := prog_1_method_29_code
def yX9_till : MethodName := ⟨RX9, "till", "(II)I"⟩
abbrev cX9_image : ByteArray := prog_1_method_30_code
def yX9_image : MethodName := ⟨RX9, "image", "()I"⟩
abbrev cX9_back : ByteArray := prog_1_method_31_code
def yX9_back : MethodName := ⟨RX9, "back", "()I"⟩
abbrev cX9_undo : ByteArray := prog_1_method_32_code
def yX9_undo : MethodName := ⟨RX9, "undo", "()I"⟩
abbrev cX9_redo : ByteArray := prog_1_method_33_code
def yX9_redo : MethodName := ⟨RX9, "redo", "()I"⟩
abbrev cX9_body : ByteArray := prog_1_method_34_code
def yX9_body : MethodName := ⟨RX9, "body", "(I)I"⟩
abbrev cX9_act : ByteArray := prog_1_method_35_code
def yX9_act : MethodName := ⟨RX9, "act", "(III)I"⟩
abbrev cX9_trace : ByteArray := prog_1_method_36_code
def yX9_trace : MethodName := ⟨RX9, "trace", "(I)I"⟩
abbrev cX9_keep : ByteArray := prog_1_method_37_code
def yX9_keep : MethodName := ⟨RX9, "keep", "(II)I"⟩
abbrev cX9_row : ByteArray := prog_1_method_38_code
def yX9_row : MethodName := ⟨RX9, "row", "(III)I"⟩
abbrev cX9_put : ByteArray := prog_1_method_39_code
def yX9_put : MethodName := ⟨RX9, "put", "(IIJ)I"⟩
abbrev cX9_element : ByteArray := prog_1_method_40_code
def yX9_element : MethodName := ⟨RX9, "element", "(II)J"⟩
abbrev cX9_shift : ByteArray := prog_1_method_41_code
def yX9_shift : MethodName := ⟨RX9, "shift", "(IIIII)I"⟩
abbrev cX9_taken : ByteArray := prog_1_method_42_code
def yX9_taken : MethodName := ⟨RX9, "taken", "(II)I"⟩
abbrev cX9_count : ByteArray := prog_1_method_43_code
def yX9_count : MethodName := ⟨RX9, "count", "(I)I"⟩
abbrev cX9_isWeight : ByteArray := prog_1_method_44_code
def yX9_isWeight : MethodName := ⟨RX9, "isWeight", "(I)Z"⟩
abbrev cX9_isPace : ByteArray := prog_1_method_45_code
def yX9_isPace : MethodName := ⟨RX9, "isPace", "(I)Z"⟩
abbrev cX9_isShelf : ByteArray := prog_1_method_46_code
def yX9_isShelf : MethodName := ⟨RX9, "isShelf", "(I)Z"⟩
abbrev cX9_isGirl : ByteArray := prog_1_method_47_code
def yX9_isGirl : MethodName := ⟨RX9, "isGirl", "(I)Z"⟩
abbrev cX9_isSkill : ByteArray := prog_1_method_48_code
def yX9_isSkill : MethodName := ⟨RX9, "isSkill", "(I)Z"⟩
abbrev cX9_isMinutes : ByteArray := prog_1_method_49_code
def yX9_isMinutes : MethodName := ⟨RX9, "isMinutes", "(I)Z"⟩
abbrev cX9_isKind : ByteArray := prog_1_method_50_code
def yX9_isKind : MethodName := ⟨RX9, "isKind", "(I)Z"⟩
abbrev cX9_rest : ByteArray := prog_1_method_51_code
def yX9_rest : MethodName := ⟨RX9, "rest", "(II)I"⟩
abbrev cX9_goalOf : ByteArray := prog_1_method_52_code
def yX9_goalOf : MethodName := ⟨RX9, "goalOf", "(I)I"⟩
abbrev cX9_within : ByteArray := prog_1_method_53_code
def yX9_within : MethodName := ⟨RX9, "within", "(III)I"⟩
abbrev cX9_greatestDivisor : ByteArray := prog_1_method_54_code
def yX9_greatestDivisor : MethodName := ⟨RX9, "greatestDivisor", "(II)I"⟩
abbrev cX9_hoopCame : ByteArray := prog_1_method_55_code
def yX9_hoopCame : MethodName := ⟨RX9, "hoopCame", "(LHoopWaist$Shelf;I)Z"⟩
abbrev cX9_canBecome : ByteArray := prog_1_method_56_code
def yX9_canBecome : MethodName := ⟨RX9, "canBecome", "(III)Z"⟩
abbrev cX9_hoopCanBecome : ByteArray := prog_1_method_57_code
def yX9_hoopCanBecome : MethodName := ⟨RX9, "hoopCanBecome", "(LHoopWaist$Hoop;II)Z"⟩
abbrev cX9_settingCanBecome : ByteArray := prog_1_method_58_code
def yX9_settingCanBecome : MethodName := ⟨RX9, "settingCanBecome", "(II)Z"⟩
abbrev cX9_valueOf : ByteArray := prog_1_method_59_code
def yX9_valueOf : MethodName := ⟨RX9, "valueOf", "(II)I"⟩
abbrev cX9_settingOf : ByteArray := prog_1_method_60_code
def yX9_settingOf : MethodName := ⟨RX9, "settingOf", "(I)I"⟩
abbrev cX9_lay : ByteArray := prog_1_method_61_code
def yX9_lay : MethodName := ⟨RX9, "lay", "(III)V"⟩
def RX10 : String := "HoopWaistModel"
def TX10 : u_T := fun k => match k with
  | 0 => ("HoopWaistModel", "may", "[I", true)
  | 1 => ("HoopWaistModel", "changeAt", "[I", true)
  | 2 => ("HoopWaistModel", "changeWas", "[I", true)
  | 3 => ("HoopWaistModel", "changeIs", "[I", true)
  | 4 => ("HoopWaistModel", "keptMany", "I", false)
  | 5 => ("HoopWaistModel", "done", "I", false)
  | 6 => ("HoopWaistModel", "hoops", "I", false)
  | 7 => ("HoopWaistModel", "place", "[I", true)
  | 8 => ("HoopWaistModel", "high", "[I", true)
  | 9 => ("HoopWaistModel", "now", "I", false)
  | 10 => ("HoopWaistModel", "tape", "[I", true)
  | 11 => ("HoopWaistModel", "tapeMany", "I", false)
  | 12 => ("HoopWaistModel", "text", "[I", true)
  | 13 => ("HoopWaistModel", "textMany", "I", false)
  | 14 => ("HoopWaistModel", "base", "I", false)
  | 15 => ("HoopWaistModel", "at", "I", false)
  | 16 => ("HoopWaistModel", "ends", "I", false)
  | 17 => ("HoopWaistModel", "fault", "I", false)
  | 18 => ("HoopWaistModel", "opened", "I", false)
  | 19 => ("HoopWaistModel", "names", "[I", true)
  | 20 => ("HoopWaistModel", "t1Place", "[I", true)
  | 21 => ("HoopWaistModel", "t1Pace", "[I", true)
  | 22 => ("HoopWaistModel", "t1High", "[I", true)
  | 23 => ("HoopWaistModel", "pushed", "I", false)
  | 24 => ("HoopWaistModel", "ledPushes", "I", false)
  | 25 => ("HoopWaistModel", "ledFall", "I", false)
  | 26 => ("HoopWaistModel", "caught", "I", false)
  | 27 => ("HoopWaistModel", "skill", "[I", true)
  | 28 => ("HoopWaistModel", "learnt", "[I", true)
  | 29 => ("HoopWaistModel", "isUp", "[Z", true)
  | 30 => ("HoopWaistModel", "knocker", "[I", true)
  | 31 => ("HoopWaistModel", "dropAt", "[I", true)
  | 32 => ("HoopWaistModel", "z", "I", false)
  | 33 => ("HoopWaistModel", "isKept", "Z", false)
  | 34 => ("HoopWaistModel", "imageHoops", "I", false)
  | 35 => ("HoopWaistModel", "image", "[I", true)
  | 36 => ("HoopWaistModel", "bodies", "I", false)
  | 37 => ("HoopWaistModel", "bodyKind", "[I", true)
  | 38 => ("HoopWaistModel", "trace", "[I", true)
  | 39 => ("HoopWaistModel", "ran", "I", false)
  | 40 => ("HoopWaistModel", "ownKind", "I", false)
  | 41 => ("HoopWaistModel", "ownNumber", "I", false)
  | 42 => ("HoopWaistModel", "shelf", "[I", true)
  | 43 => ("HoopWaistModel", "many", "[I", true)
  | 44 => ("HoopWaistModel", "items", "[J", true)
  | _ => ("HoopWaistModel", "carried", "[J", true)
def tyX10 : Nat → FieldType := fun k => match k with
  | 0 => .array .int
  | 1 => .array .int
  | 2 => .array .int
  | 3 => .array .int
  | 4 => .int
  | 5 => .int
  | 6 => .int
  | 7 => .array .int
  | 8 => .array .int
  | 9 => .int
  | 10 => .array .int
  | 11 => .int
  | 12 => .array .int
  | 13 => .int
  | 14 => .int
  | 15 => .int
  | 16 => .int
  | 17 => .int
  | 18 => .int
  | 19 => .array .int
  | 20 => .array .int
  | 21 => .array .int
  | 22 => .array .int
  | 23 => .int
  | 24 => .int
  | 25 => .int
  | 26 => .int
  | 27 => .array .int
  | 28 => .array .int
  | 29 => .array .boolean
  | 30 => .array .int
  | 31 => .array .int
  | 32 => .int
  | 33 => .boolean
  | 34 => .int
  | 35 => .array .int
  | 36 => .int
  | 37 => .array .int
  | 38 => .array .int
  | 39 => .int
  | 40 => .int
  | 41 => .int
  | 42 => .array .int
  | 43 => .array .int
  | 44 => .array .long
  | _ => .array .long
abbrev wsX100 : List Cond := u_ws RX10 TX10 46
theorem nmX10 : ∀ a, a < 46 → ∀ b, b < 46 → a ≠ b → (TX10 a).2.1 ≠ (TX10 b).2.1 := by decide +kernel
theorem tyX10_ok : ∀ k, k < 46 → parseFieldDescriptor (TX10 k).2.2.1 = some (tyX10 k) := by decide +kernel
abbrev cX10_within : ByteArray := prog_12_method_1_code
def yX10_within : MethodName := ⟨RX10, "within", "(JJJ)Z"⟩
abbrev cX10_sizeOf : ByteArray := prog_12_method_2_code
def yX10_sizeOf : MethodName := ⟨RX10, "sizeOf", "(I)I"⟩
abbrev cX10_isIn : ByteArray := prog_12_method_3_code
def yX10_isIn : MethodName := ⟨RX10, "isIn", "(II)Z"⟩
abbrev cX10_bitsOf : ByteArray := prog_12_method_4_code
def yX10_bitsOf : MethodName := ⟨RX10, "bitsOf", "(I)I"⟩
abbrev cX10_init : ByteArray := prog_12_method_5_code
def yX10_init : MethodName := ⟨RX10, "<init>", "()V"⟩
abbrev cX10_becomes : ByteArray := prog_12_method_6_code
def yX10_becomes : MethodName := ⟨RX10, "becomes", "(II)I"⟩
abbrev cX10_lays : ByteArray := prog_12_method_7_code
def yX10_lays : MethodName := ⟨RX10, "lays", "(II)V"⟩
abbrev cX10_undo : ByteArray := prog_12_method_8_code
def yX10_undo : MethodName := ⟨RX10, "undo", "()I"⟩
abbrev cX10_redo : ByteArray := prog_12_method_9_code
def yX10_redo : MethodName := ⟨RX10, "redo", "()I"⟩
abbrev cX10_isHoop : ByteArray := prog_12_method_10_code
def yX10_isHoop : MethodName := ⟨RX10, "isHoop", "(I)Z"⟩
abbrev cX10_isOne : ByteArray := prog_12_method_11_code
def yX10_isOne : MethodName := ⟨RX10, "isOne", "(JJJ)Z"⟩
abbrev cX10_adds : ByteArray := prog_12_method_12_code
def yX10_adds : MethodName := ⟨RX10, "adds", "(III)V"⟩
abbrev cX10_hoop : ByteArray := prog_12_method_13_code
def yX10_hoop : MethodName := ⟨RX10, "hoop", "(I)I"⟩
abbrev cX10_hoops : ByteArray := prog_12_method_14_code
def yX10_hoops : MethodName := ⟨RX10, "hoops", "(III)I"⟩
abbrev cX10_mend : ByteArray := prog_12_method_15_code
def yX10_mend : MethodName := ⟨RX10, "mend", "(III)I"⟩
abbrev cX10_needOf : ByteArray := prog_12_method_16_code
def yX10_needOf : MethodName := ⟨RX10, "needOf", "(I)I"⟩
abbrev cX10_of : ByteArray := prog_12_method_17_code
def yX10_of : MethodName := ⟨RX10, "of", "(II)I"⟩
abbrev cX10_feed : ByteArray := prog_12_method_18_code
def yX10_feed : MethodName := ⟨RX10, "feed", "(I)I"⟩
abbrev cX10_byteAt : ByteArray := prog_12_method_19_code
def yX10_byteAt : MethodName := ⟨RX10, "byteAt", "()I"⟩
abbrev cX10_wrong : ByteArray := prog_12_method_20_code
def yX10_wrong : MethodName := ⟨RX10, "wrong", "()I"⟩
abbrev cX10_takes : ByteArray := prog_12_method_21_code
def yX10_takes : MethodName := ⟨RX10, "takes", "(I)Z"⟩
abbrev cX10_either : ByteArray := prog_12_method_22_code
def yX10_either : MethodName := ⟨RX10, "either", "()I"⟩
abbrev cX10_both : ByteArray := prog_12_method_23_code
def yX10_both : MethodName := ⟨RX10, "both", "()I"⟩
abbrev cX10_compared : ByteArray := prog_12_method_24_code
def yX10_compared : MethodName := ⟨RX10, "compared", "()I"⟩
abbrev cX10_sums : ByteArray := prog_12_method_25_code
def yX10_sums : MethodName := ⟨RX10, "sums", "()I"⟩
abbrev cX10_product : ByteArray := prog_12_method_26_code
def yX10_product : MethodName := ⟨RX10, "product", "()I"⟩
abbrev cX10_nameOf : ByteArray := prog_12_method_27_code
def yX10_nameOf : MethodName := ⟨RX10, "nameOf", "(I)I"⟩
abbrev cX10_one : ByteArray := prog_12_method_28_code
def yX10_one : MethodName := ⟨RX10, "one", "()I"⟩
abbrev cX10_workOut : ByteArray := prog_12_method_29_code
def yX10_workOut : MethodName := ⟨RX10, "workOut", "(II)I"⟩
abbrev cX10_law : ByteArray := prog_12_method_30_code
def yX10_law : MethodName := ⟨RX10, "law", "()I"⟩
abbrev cX10_begins1 : ByteArray := prog_12_method_31_code
def yX10_begins1 : MethodName := ⟨RX10, "begins1", "(I)V"⟩
abbrev cX10_gained : ByteArray := prog_12_method_32_code
def yX10_gained : MethodName := ⟨RX10, "gained", "(III)I"⟩
abbrev cX10_becomesPace : ByteArray := prog_12_method_33_code
def yX10_becomesPace : MethodName := ⟨RX10, "becomesPace", "(II)V"⟩
abbrev cX10_pushes : ByteArray := prog_12_method_34_code
def yX10_pushes : MethodName := ⟨RX10, "pushes", "(II)V"⟩
abbrev cX10_turns : ByteArray := prog_12_method_35_code
def yX10_turns : MethodName := ⟨RX10, "turns", "(I)V"⟩
abbrev cX10_isPush : ByteArray := prog_12_method_36_code
def yX10_isPush : MethodName := ⟨RX10, "isPush", "(I)Z"⟩
abbrev cX10_toOf : ByteArray := prog_12_method_37_code
def yX10_toOf : MethodName := ⟨RX10, "toOf", "(I)I"⟩
abbrev cX10_tickGoes : ByteArray := prog_12_method_38_code
def yX10_tickGoes : MethodName := ⟨RX10, "tickGoes", "(I)V"⟩
abbrev cX10_upNow : ByteArray := prog_12_method_39_code
def yX10_upNow : MethodName := ⟨RX10, "upNow", "()I"⟩
abbrev cX10_lyingOf : ByteArray := prog_12_method_40_code
def yX10_lyingOf : MethodName := ⟨RX10, "lyingOf", "(I)I"⟩
abbrev cX10_go : ByteArray := prog_12_method_41_code
def yX10_go : MethodName := ⟨RX10, "go", "(I)I"⟩
abbrev cX10_lift : ByteArray := prog_12_method_42_code
def yX10_lift : MethodName := ⟨RX10, "lift", "(I)I"⟩
abbrev cX10_led : ByteArray := prog_12_method_43_code
def yX10_led : MethodName := ⟨RX10, "led", "(I)I"⟩
abbrev cX10_then : ByteArray := prog_12_method_44_code
def yX10_then : MethodName := ⟨RX10, "then", "(III)I"⟩
abbrev cX10_fallOf : ByteArray := prog_12_method_45_code
def yX10_fallOf : MethodName := ⟨RX10, "fallOf", "(I)I"⟩
abbrev cX10_falls : ByteArray := prog_12_method_46_code
def yX10_falls : MethodName := ⟨RX10, "falls", "(I)I"⟩
abbrev cX10_lastsOf : ByteArray := prog_12_method_47_code
def yX10_lastsOf : MethodName := ⟨RX10, "lastsOf", "(I)I"⟩
abbrev cX10_lasts : ByteArray := prog_12_method_48_code
def yX10_lasts : MethodName := ⟨RX10, "lasts", "()I"⟩
abbrev cX10_beatFor : ByteArray := prog_12_method_49_code
def yX10_beatFor : MethodName := ⟨RX10, "beatFor", "(I)I"⟩
abbrev cX10_leastPush : ByteArray := prog_12_method_50_code
def yX10_leastPush : MethodName := ⟨RX10, "leastPush", "(I)I"⟩
abbrev cX10_mistaken : ByteArray := prog_12_method_51_code
def yX10_mistaken : MethodName := ⟨RX10, "mistaken", "(I)I"⟩
abbrev cX10_mistake : ByteArray := prog_12_method_52_code
def yX10_mistake : MethodName := ⟨RX10, "mistake", "(II)I"⟩
abbrev cX10_held : ByteArray := prog_12_method_53_code
def yX10_held : MethodName := ⟨RX10, "held", "(I)I"⟩
abbrev cX10_fallWith : ByteArray := prog_12_method_54_code
def yX10_fallWith : MethodName := ⟨RX10, "fallWith", "(IIII)I"⟩
abbrev cX10_rescue : ByteArray := prog_12_method_55_code
def yX10_rescue : MethodName := ⟨RX10, "rescue", "(II)I"⟩
abbrev cX10_start : ByteArray := prog_12_method_56_code
def yX10_start : MethodName := ⟨RX10, "start", "(I)I"⟩
abbrev cX10_rowIs : ByteArray := prog_12_method_57_code
def yX10_rowIs : MethodName := ⟨RX10, "rowIs", "(I)I"⟩
abbrev cX10_music : ByteArray := prog_12_method_58_code
def yX10_music : MethodName := ⟨RX10, "music", "(I)I"⟩
abbrev cX10_firstFalse : ByteArray := prog_12_method_59_code
def yX10_firstFalse : MethodName := ⟨RX10, "firstFalse", "(II)I"⟩
abbrev cX10_judge : ByteArray := prog_12_method_60_code
def yX10_judge : MethodName := ⟨RX10, "judge", "(II)I"⟩
abbrev cX10_begun : ByteArray := prog_12_method_61_code
def yX10_begun : MethodName := ⟨RX10, "begun", "(III)I"⟩
abbrev cX10_isGirl : ByteArray := prog_12_method_62_code
def yX10_isGirl : MethodName := ⟨RX10, "isGirl", "(I)Z"⟩
abbrev cX10_skill : ByteArray := prog_12_method_63_code
def yX10_skill : MethodName := ⟨RX10, "skill", "(II)I"⟩
abbrev cX10_besideOf : ByteArray := prog_12_method_64_code
def yX10_besideOf : MethodName := ⟨RX10, "besideOf", "(II)I"⟩
abbrev cX10_draws : ByteArray := prog_12_method_65_code
def yX10_draws : MethodName := ⟨RX10, "draws", "()I"⟩
abbrev cX10_drops : ByteArray := prog_12_method_66_code
def yX10_drops : MethodName := ⟨RX10, "drops", "(III)V"⟩
abbrev cX10_field : ByteArray := prog_12_method_67_code
def yX10_field : MethodName := ⟨RX10, "field", "(II)V"⟩
abbrev cX10_left : ByteArray := prog_12_method_68_code
def yX10_left : MethodName := ⟨RX10, "left", "(III)I"⟩
abbrev cX10_knocked : ByteArray := prog_12_method_69_code
def yX10_knocked : MethodName := ⟨RX10, "knocked", "(III)I"⟩
abbrev cX10_last : ByteArray := prog_12_method_70_code
def yX10_last : MethodName := ⟨RX10, "last", "(II)I"⟩
abbrev cX10_alone : ByteArray := prog_12_method_71_code
def yX10_alone : MethodName := ⟨RX10, "alone", "(III)J"⟩
abbrev cX10_needsOf : ByteArray := prog_12_method_72_code
def yX10_needsOf : MethodName := ⟨RX10, "needsOf", "(I)I"⟩
abbrev cX10_learn : ByteArray := prog_12_method_73_code
def yX10_learn : MethodName := ⟨RX10, "learn", "(II)I"⟩
abbrev cX10_till : ByteArray := prog_12_method_74_code
def yX10_till : MethodName := ⟨RX10, "till", "(II)I"⟩
abbrev cX10_image : ByteArray := prog_12_method_75_code
def yX10_image : MethodName := ⟨RX10, "image", "()I"⟩
abbrev cX10_back : ByteArray := prog_12_method_76_code
def yX10_back : MethodName := ⟨RX10, "back", "()I"⟩
abbrev cX10_isBody : ByteArray := prog_12_method_77_code
def yX10_isBody : MethodName := ⟨RX10, "isBody", "(I)Z"⟩
abbrev cX10_kindOf : ByteArray := prog_12_method_78_code
def yX10_kindOf : MethodName := ⟨RX10, "kindOf", "(I)I"⟩
abbrev cX10_body : ByteArray := prog_12_method_79_code
def yX10_body : MethodName := ⟨RX10, "body", "(I)I"⟩
abbrev cX10_above : ByteArray := prog_12_method_80_code
def yX10_above : MethodName := ⟨RX10, "above", "(I)I"⟩
abbrev cX10_begins : ByteArray := prog_12_method_81_code
def yX10_begins : MethodName := ⟨RX10, "begins", "(I)V"⟩
abbrev cX10_pushesAs : ByteArray := prog_12_method_82_code
def yX10_pushesAs : MethodName := ⟨RX10, "pushesAs", "(II)I"⟩
abbrev cX10_turnsAs : ByteArray := prog_12_method_83_code
def yX10_turnsAs : MethodName := ⟨RX10, "turnsAs", "(II)I"⟩
abbrev cX10_sinksAs : ByteArray := prog_12_method_84_code
def yX10_sinksAs : MethodName := ⟨RX10, "sinksAs", "(II)I"⟩
abbrev cX10_tellsAs : ByteArray := prog_12_method_85_code
def yX10_tellsAs : MethodName := ⟨RX10, "tellsAs", "(II)I"⟩
abbrev cX10_act : ByteArray := prog_12_method_86_code
def yX10_act : MethodName := ⟨RX10, "act", "(III)I"⟩
abbrev cX10_trace : ByteArray := prog_12_method_87_code
def yX10_trace : MethodName := ⟨RX10, "trace", "(I)I"⟩
abbrev cX10_isShelf : ByteArray := prog_12_method_88_code
def yX10_isShelf : MethodName := ⟨RX10, "isShelf", "(I)Z"⟩
abbrev cX10_keep : ByteArray := prog_12_method_89_code
def yX10_keep : MethodName := ⟨RX10, "keep", "(II)I"⟩
abbrev cX10_row : ByteArray := prog_12_method_90_code
def yX10_row : MethodName := ⟨RX10, "row", "(III)I"⟩
abbrev cX10_refusal : ByteArray := prog_12_method_91_code
def yX10_refusal : MethodName := ⟨RX10, "refusal", "(II)I"⟩
abbrev cX10_asSort : ByteArray := prog_12_method_92_code
def yX10_asSort : MethodName := ⟨RX10, "asSort", "(IJ)J"⟩
abbrev cX10_put : ByteArray := prog_12_method_93_code
def yX10_put : MethodName := ⟨RX10, "put", "(IIJ)I"⟩
abbrev cX10_element : ByteArray := prog_12_method_94_code
def yX10_element : MethodName := ⟨RX10, "element", "(II)J"⟩
abbrev cX10_shift : ByteArray := prog_12_method_95_code
def yX10_shift : MethodName := ⟨RX10, "shift", "(IIIII)I"⟩
abbrev cX10_taken : ByteArray := prog_12_method_96_code
def yX10_taken : MethodName := ⟨RX10, "taken", "(II)I"⟩
abbrev cX10_count : ByteArray := prog_12_method_97_code
def yX10_count : MethodName := ⟨RX10, "count", "(I)I"⟩
def RJ6 : String := "java/lang/Integer"
abbrev cJ6_bitCount_0f7a4 : ByteArray := prog_13_method_49_code
def yJ6_bitCount_0f7a4 : MethodName := ⟨RJ6, "bitCount", "(I)I"⟩
def RJ9 : String := "java/lang/Math"
abbrev cJ9_floorMod_7cf53 : ByteArray := prog_14_method_50_code
def yJ9_floorMod_7cf53 : MethodName := ⟨RJ9, "floorMod", "(II)I"⟩
abbrev cJ9_abs_0f7a4 : ByteArray := prog_14_method_59_code
def yJ9_abs_0f7a4 : MethodName := ⟨RJ9, "abs", "(I)I"⟩
abbrev cJ9_max_7cf53 : ByteArray := prog_14_method_65_code
def yJ9_max_7cf53 : MethodName := ⟨RJ9, "max", "(II)I"⟩
abbrev cJ9_min_7cf53 : ByteArray := prog_14_method_69_code
def yJ9_min_7cf53 : MethodName := ⟨RJ9, "min", "(II)I"⟩
def RJ10 : String := "java/lang/System"
def RL : String := "HoopWaistLaw"
abbrev cL_law : ByteArray := code
def yL_law : MethodName := ⟨RL, "law", "([I)Z"⟩
abbrev xF : Type := MethodName × ByteArray × Nat × Option FieldType
abbrev fX0_init : xF := (yX0_init, cX0_init, 1, none)
abbrev fX0_note : xF := (yX0_note, cX0_note, 5, none)
abbrev fX0_forgetOldest : xF := (yX0_forgetOldest, cX0_forgetOldest, 1, none)
abbrev fX1_init : xF := (yX1_init, cX1_init, 2, none)
abbrev fX1_becomes : xF := (yX1_becomes, cX1_becomes, 3, none)
abbrev fX1_minutesAt : xF := (yX1_minutesAt, cX1_minutesAt, 1, (some .int))
abbrev fX1_learnMinute : xF := (yX1_learnMinute, cX1_learnMinute, 2, none)
abbrev fX1_play : xF := (yX1_play, cX1_play, 4, none)
abbrev fX1_playMinute : xF := (yX1_playMinute, cX1_playMinute, 3, none)
abbrev fX1_knockFrom : xF := (yX1_knockFrom, cX1_knockFrom, 5, none)
abbrev fX1_drop : xF := (yX1_drop, cX1_drop, 4, none)
abbrev fX1_draw : xF := (yX1_draw, cX1_draw, 1, (some .int))
abbrev fX1_beside : xF := (yX1_beside, cX1_beside, 2, (some .int))
abbrev fX1_howManyUp : xF := (yX1_howManyUp, cX1_howManyUp, 3, (some .int))
abbrev fX1_longest : xF := (yX1_longest, cX1_longest, 3, (some .int))
abbrev fX2_init : xF := (yX2_init, cX2_init, 1, none)
abbrev fX2_copy : xF := (yX2_copy, cX2_copy, 2, none)
abbrev fX2_copyWay : xF := (yX2_copyWay, cX2_copyWay, 2, none)
abbrev fX2_raise : xF := (yX2_raise, cX2_raise, 1, none)
abbrev fX2_drop : xF := (yX2_drop, cX2_drop, 1, none)
abbrev fX2_lies : xF := (yX2_lies, cX2_lies, 1, (some .boolean))
abbrev fX2_need : xF := (yX2_need, cX2_need, 1, (some .int))
abbrev fX2_speed : xF := (yX2_speed, cX2_speed, 1, (some .int))
abbrev fX2_told : xF := (yX2_told, cX2_told, 2, (some .int))
abbrev fX2_become : xF := (yX2_become, cX2_become, 3, none)
abbrev fX2_farFrom : xF := (yX2_farFrom, cX2_farFrom, 3, (some .int))
abbrev fX2_quicken : xF := (yX2_quicken, cX2_quicken, 3, none)
abbrev fX2_move : xF := (yX2_move, cX2_move, 1, none)
abbrev fX2_sankToLie : xF := (yX2_sankToLie, cX2_sankToLie, 1, (some .boolean))
abbrev fX3_init : xF := (yX3_init, cX3_init, 1, none)
abbrev fX3_copy : xF := (yX3_copy, cX3_copy, 2, none)
abbrev fX3_add : xF := (yX3_add, cX3_add, 3, (some .int))
abbrev fX3_more : xF := (yX3_more, cX3_more, 5, (some .int))
abbrev fX3_withoutText : xF := (yX3_withoutText, cX3_withoutText, 2, (some .int))
abbrev fX3_worth : xF := (yX3_worth, cX3_worth, 4, (some .int))
abbrev fX3_pile : xF := (yX3_pile, cX3_pile, 2, none)
abbrev fX3_unpile : xF := (yX3_unpile, cX3_unpile, 1, (some .int))
abbrev fX3_joined : xF := (yX3_joined, cX3_joined, 3, (some .int))
abbrev fX4_init : xF := (yX4_init, cX4_init, 1, none)
abbrev fX4_takeIn : xF := (yX4_takeIn, cX4_takeIn, 2, (some .boolean))
abbrev fX4_readText : xF := (yX4_readText, cX4_readText, 3, (some .int))
abbrev fX4_readLine : xF := (yX4_readLine, cX4_readLine, 3, none)
abbrev fX4_readChain : xF := (yX4_readChain, cX4_readChain, 6, none)
abbrev fX4_isJoin : xF := (yX4_isJoin, cX4_isJoin, 3, (some .boolean))
abbrev fX4_readOperand : xF := (yX4_readOperand, cX4_readOperand, 3, none)
abbrev fX4_readOpened : xF := (yX4_readOpened, cX4_readOpened, 3, none)
abbrev fX4_readNumber : xF := (yX4_readNumber, cX4_readNumber, 3, none)
abbrev fX4_next : xF := (yX4_next, cX4_next, 1, (some .int))
abbrev fX4_takes : xF := (yX4_takes, cX4_takes, 2, (some .boolean))
abbrev fX4_isDigit : xF := (yX4_isDigit, cX4_isDigit, 1, (some .boolean))
abbrev fX4_nameOf : xF := (yX4_nameOf, cX4_nameOf, 1, (some .int))
abbrev fX5_init : xF := (yX5_init, cX5_init, 3, none)
abbrev fX5_copy : xF := (yX5_copy, cX5_copy, 3, none)
abbrev fX5_layBack : xF := (yX5_layBack, cX5_layBack, 3, none)
abbrev fX5_has : xF := (yX5_has, cX5_has, 2, (some .boolean))
abbrev fX5_isFull : xF := (yX5_isFull, cX5_isFull, 1, (some .boolean))
abbrev fX5_addHoop : xF := (yX5_addHoop, cX5_addHoop, 5, (some .int))
abbrev fX5_upright : xF := (yX5_upright, cX5_upright, 3, (some .int))
abbrev fX5_allUp : xF := (yX5_allUp, cX5_allUp, 3, (some .boolean))
abbrev fX5_allHighest : xF := (yX5_allHighest, cX5_allHighest, 2, (some .boolean))
abbrev fX5_layAllBut : xF := (yX5_layAllBut, cX5_layAllBut, 3, none)
abbrev fX5_isPushDue : xF := (yX5_isPushDue, cX5_isPushDue, 1, (some .boolean))
abbrev fX5_goalInTurn : xF := (yX5_goalInTurn, cX5_goalInTurn, 1, (some .int))
abbrev fX5_tick : xF := (yX5_tick, cX5_tick, 1, none)
abbrev fX5_push : xF := (yX5_push, cX5_push, 4, none)
abbrev fX5_settle : xF := (yX5_settle, cX5_settle, 2, none)
abbrev fX5_cross : xF := (yX5_cross, cX5_cross, 3, none)
abbrev fX5_areCrossed : xF := (yX5_areCrossed, cX5_areCrossed, 2, (some .boolean))
abbrev fX6_init : xF := (yX6_init, cX6_init, 1, none)
abbrev fX6_isSort : xF := (yX6_isSort, cX6_isSort, 1, (some .boolean))
abbrev fX6_isEmpty : xF := (yX6_isEmpty, cX6_isEmpty, 1, (some .boolean))
abbrev fX6_isTurn : xF := (yX6_isTurn, cX6_isTurn, 1, (some .boolean))
abbrev fX6_isRow : xF := (yX6_isRow, cX6_isRow, 1, (some .boolean))
abbrev fX6_hasBytes : xF := (yX6_hasBytes, cX6_hasBytes, 1, (some .boolean))
abbrev fX6_holdNothing : xF := (yX6_holdNothing, cX6_holdNothing, 1, none)
abbrev fX6_holdTurn : xF := (yX6_holdTurn, cX6_holdTurn, 2, none)
abbrev fX6_holdRow : xF := (yX6_holdRow, cX6_holdRow, 4, none)
abbrev fX6_bytesRefusal : xF := (yX6_bytesRefusal, cX6_bytesRefusal, 1, (some .int))
abbrev fX6_placeRefusal : xF := (yX6_placeRefusal, cX6_placeRefusal, 2, (some .int))
abbrev fX6_hasStretch : xF := (yX6_hasStretch, cX6_hasStretch, 3, (some .boolean))
abbrev fX6_lay : xF := (yX6_lay, cX6_lay, 4, none)
abbrev fX6_gapAt : xF := (yX6_gapAt, cX6_gapAt, 2, (some .int))
abbrev fX7_init : xF := (yX7_init, cX7_init, 3, none)
abbrev fX7_begin : xF := (yX7_begin, cX7_begin, 1, none)
abbrev fX7_leaveOut : xF := (yX7_leaveOut, cX7_leaveOut, 2, none)
abbrev fX7_addPush : xF := (yX7_addPush, cX7_addPush, 4, none)
abbrev fX7_step : xF := (yX7_step, cX7_step, 1, none)
abbrev fX7_behind : xF := (yX7_behind, cX7_behind, 4, (some (.object "HoopWaist$Hoop")))
abbrev fX7_fallOf : xF := (yX7_fallOf, cX7_fallOf, 3, (some .int))
abbrev fX7_isUpBehind : xF := (yX7_isUpBehind, cX7_isUpBehind, 4, (some .boolean))
abbrev fX7_lasting : xF := (yX7_lasting, cX7_lasting, 3, (some .int))
abbrev fX7_caughtAgain : xF := (yX7_caughtAgain, cX7_caughtAgain, 4, (some .int))
abbrev fX7_lastingBy : xF := (yX7_lastingBy, cX7_lastingBy, 6, (some .int))
abbrev fX7_firstUnlike : xF := (yX7_firstUnlike, cX7_firstUnlike, 4, (some .int))
abbrev fX8_init : xF := (yX8_init, cX8_init, 1, none)
abbrev fX8_has : xF := (yX8_has, cX8_has, 2, (some .boolean))
abbrev fX8_isFull : xF := (yX8_isFull, cX8_isFull, 1, (some .boolean))
abbrev fX8_addBody : xF := (yX8_addBody, cX8_addBody, 2, (some .int))
abbrev fX8_isUnder : xF := (yX8_isUnder, cX8_isUnder, 4, (some .boolean))
abbrev fX8_perform : xF := (yX8_perform, cX8_perform, 4, (some .int))
abbrev fX8_own : xF := (yX8_own, cX8_own, 4, (some .int))
abbrev fX8_above : xF := (yX8_above, cX8_above, 5, (some .int))
abbrev fX8_runFrom : xF := (yX8_runFrom, cX8_runFrom, 7, (some .int))
abbrev fX8_run : xF := (yX8_run, cX8_run, 5, (some .int))
abbrev fX8_note : xF := (yX8_note, cX8_note, 2, none)
abbrev fX9_init : xF := (yX9_init, cX9_init, 2, none)
abbrev fX9_hoop : xF := (yX9_hoop, cX9_hoop, 2, (some .int))
abbrev fX9_hoops : xF := (yX9_hoops, cX9_hoops, 6, (some .int))
abbrev fX9_mend : xF := (yX9_mend, cX9_mend, 5, (some .int))
abbrev fX9_of : xF := (yX9_of, cX9_of, 3, (some .int))
abbrev fX9_feed : xF := (yX9_feed, cX9_feed, 2, (some .int))
abbrev fX9_law : xF := (yX9_law, cX9_law, 2, (some .int))
abbrev fX9_go : xF := (yX9_go, cX9_go, 3, (some .int))
abbrev fX9_lift : xF := (yX9_lift, cX9_lift, 2, (some .int))
abbrev fX9_led : xF := (yX9_led, cX9_led, 2, (some .int))
abbrev fX9_then : xF := (yX9_then, cX9_then, 5, (some .int))
abbrev fX9_falls : xF := (yX9_falls, cX9_falls, 2, (some .int))
abbrev fX9_lasts : xF := (yX9_lasts, cX9_lasts, 1, (some .int))
abbrev fX9_beatFor : xF := (yX9_beatFor, cX9_beatFor, 7, (some .int))
abbrev fX9_leastPush : xF := (yX9_leastPush, cX9_leastPush, 3, (some .int))
abbrev fX9_mistake : xF := (yX9_mistake, cX9_mistake, 3, (some .int))
abbrev fX9_held : xF := (yX9_held, cX9_held, 5, (some .int))
abbrev fX9_rescue : xF := (yX9_rescue, cX9_rescue, 8, (some .int))
abbrev fX9_start : xF := (yX9_start, cX9_start, 7, (some .int))
abbrev fX9_music : xF := (yX9_music, cX9_music, 3, (some .int))
abbrev fX9_judge : xF := (yX9_judge, cX9_judge, 4, (some .int))
abbrev fX9_begun : xF := (yX9_begun, cX9_begun, 8, (some .int))
abbrev fX9_skill : xF := (yX9_skill, cX9_skill, 4, (some .int))
abbrev fX9_left : xF := (yX9_left, cX9_left, 4, (some .int))
abbrev fX9_knocked : xF := (yX9_knocked, cX9_knocked, 4, (some .int))
abbrev fX9_last : xF := (yX9_last, cX9_last, 4, (some .int))
abbrev fX9_alone : xF := (yX9_alone, cX9_alone, 10, (some .long))
abbrev fX9_learn : xF := (yX9_learn, cX9_learn, 4, (some .int))
abbrev fX9_till : xF := (yX9_till, cX9_till, 5, (some .int))
abbrev fX9_image : xF := (yX9_image, cX9_image, 1, (some .int))
abbrev fX9_back : xF := (yX9_back, cX9_back, 1, (some .int))
abbrev fX9_undo : xF := (yX9_undo, cX9_undo, 2, (some .int))
abbrev fX9_redo : xF := (yX9_redo, cX9_redo, 2, (some .int))
abbrev fX9_body : xF := (yX9_body, cX9_body, 2, (some .int))
abbrev fX9_act : xF := (yX9_act, cX9_act, 4, (some .int))
abbrev fX9_trace : xF := (yX9_trace, cX9_trace, 2, (some .int))
abbrev fX9_keep : xF := (yX9_keep, cX9_keep, 3, (some .int))
abbrev fX9_row : xF := (yX9_row, cX9_row, 4, (some .int))
abbrev fX9_put : xF := (yX9_put, cX9_put, 6, (some .int))
abbrev fX9_element : xF := (yX9_element, cX9_element, 3, (some .long))
abbrev fX9_shift : xF := (yX9_shift, cX9_shift, 8, (some .int))
abbrev fX9_taken : xF := (yX9_taken, cX9_taken, 5, (some .int))
abbrev fX9_count : xF := (yX9_count, cX9_count, 2, (some .int))
abbrev fX9_isWeight : xF := (yX9_isWeight, cX9_isWeight, 1, (some .boolean))
abbrev fX9_isPace : xF := (yX9_isPace, cX9_isPace, 1, (some .boolean))
abbrev fX9_isShelf : xF := (yX9_isShelf, cX9_isShelf, 1, (some .boolean))
abbrev fX9_isGirl : xF := (yX9_isGirl, cX9_isGirl, 1, (some .boolean))
abbrev fX9_isSkill : xF := (yX9_isSkill, cX9_isSkill, 1, (some .boolean))
abbrev fX9_isMinutes : xF := (yX9_isMinutes, cX9_isMinutes, 1, (some .boolean))
abbrev fX9_isKind : xF := (yX9_isKind, cX9_isKind, 1, (some .boolean))
abbrev fX9_rest : xF := (yX9_rest, cX9_rest, 2, (some .int))
abbrev fX9_goalOf : xF := (yX9_goalOf, cX9_goalOf, 1, (some .int))
abbrev fX9_within : xF := (yX9_within, cX9_within, 3, (some .int))
abbrev fX9_greatestDivisor : xF := (yX9_greatestDivisor, cX9_greatestDivisor, 4, (some .int))
abbrev fX9_hoopCame : xF := (yX9_hoopCame, cX9_hoopCame, 6, (some .boolean))
abbrev fX9_canBecome : xF := (yX9_canBecome, cX9_canBecome, 4, (some .boolean))
abbrev fX9_hoopCanBecome : xF := (yX9_hoopCanBecome, cX9_hoopCanBecome, 3, (some .boolean))
abbrev fX9_settingCanBecome : xF := (yX9_settingCanBecome, cX9_settingCanBecome, 3, (some .boolean))
abbrev fX9_valueOf : xF := (yX9_valueOf, cX9_valueOf, 3, (some .int))
abbrev fX9_settingOf : xF := (yX9_settingOf, cX9_settingOf, 2, (some .int))
abbrev fX9_lay : xF := (yX9_lay, cX9_lay, 4, none)
abbrev fX10_within : xF := (yX10_within, cX10_within, 6, (some .boolean))
abbrev fX10_sizeOf : xF := (yX10_sizeOf, cX10_sizeOf, 1, (some .int))
abbrev fX10_isIn : xF := (yX10_isIn, cX10_isIn, 2, (some .boolean))
abbrev fX10_bitsOf : xF := (yX10_bitsOf, cX10_bitsOf, 3, (some .int))
abbrev fX10_init : xF := (yX10_init, cX10_init, 2, none)
abbrev fX10_becomes : xF := (yX10_becomes, cX10_becomes, 5, (some .int))
abbrev fX10_lays : xF := (yX10_lays, cX10_lays, 4, none)
abbrev fX10_undo : xF := (yX10_undo, cX10_undo, 1, (some .int))
abbrev fX10_redo : xF := (yX10_redo, cX10_redo, 1, (some .int))
abbrev fX10_isHoop : xF := (yX10_isHoop, cX10_isHoop, 2, (some .boolean))
abbrev fX10_isOne : xF := (yX10_isOne, cX10_isOne, 6, (some .boolean))
abbrev fX10_adds : xF := (yX10_adds, cX10_adds, 4, none)
abbrev fX10_hoop : xF := (yX10_hoop, cX10_hoop, 2, (some .int))
abbrev fX10_hoops : xF := (yX10_hoops, cX10_hoops, 7, (some .int))
abbrev fX10_mend : xF := (yX10_mend, cX10_mend, 6, (some .int))
abbrev fX10_needOf : xF := (yX10_needOf, cX10_needOf, 2, (some .int))
abbrev fX10_of : xF := (yX10_of, cX10_of, 3, (some .int))
abbrev fX10_feed : xF := (yX10_feed, cX10_feed, 2, (some .int))
abbrev fX10_byteAt : xF := (yX10_byteAt, cX10_byteAt, 1, (some .int))
abbrev fX10_wrong : xF := (yX10_wrong, cX10_wrong, 1, (some .int))
abbrev fX10_takes : xF := (yX10_takes, cX10_takes, 2, (some .boolean))
abbrev fX10_either : xF := (yX10_either, cX10_either, 3, (some .int))
abbrev fX10_both : xF := (yX10_both, cX10_both, 3, (some .int))
abbrev fX10_compared : xF := (yX10_compared, cX10_compared, 4, (some .int))
abbrev fX10_sums : xF := (yX10_sums, cX10_sums, 4, (some .int))
abbrev fX10_product : xF := (yX10_product, cX10_product, 4, (some .int))
abbrev fX10_nameOf : xF := (yX10_nameOf, cX10_nameOf, 1, (some .int))
abbrev fX10_one : xF := (yX10_one, cX10_one, 5, (some .int))
abbrev fX10_workOut : xF := (yX10_workOut, cX10_workOut, 8, (some .int))
abbrev fX10_law : xF := (yX10_law, cX10_law, 4, (some .int))
abbrev fX10_begins1 : xF := (yX10_begins1, cX10_begins1, 3, none)
abbrev fX10_gained : xF := (yX10_gained, cX10_gained, 5, (some .int))
abbrev fX10_becomesPace : xF := (yX10_becomesPace, cX10_becomesPace, 4, none)
abbrev fX10_pushes : xF := (yX10_pushes, cX10_pushes, 5, none)
abbrev fX10_turns : xF := (yX10_turns, cX10_turns, 4, none)
abbrev fX10_isPush : xF := (yX10_isPush, cX10_isPush, 2, (some .boolean))
abbrev fX10_toOf : xF := (yX10_toOf, cX10_toOf, 2, (some .int))
abbrev fX10_tickGoes : xF := (yX10_tickGoes, cX10_tickGoes, 2, none)
abbrev fX10_upNow : xF := (yX10_upNow, cX10_upNow, 3, (some .int))
abbrev fX10_lyingOf : xF := (yX10_lyingOf, cX10_lyingOf, 4, (some .int))
abbrev fX10_go : xF := (yX10_go, cX10_go, 5, (some .int))
abbrev fX10_lift : xF := (yX10_lift, cX10_lift, 2, (some .int))
abbrev fX10_led : xF := (yX10_led, cX10_led, 2, (some .int))
abbrev fX10_then : xF := (yX10_then, cX10_then, 5, (some .int))
abbrev fX10_fallOf : xF := (yX10_fallOf, cX10_fallOf, 3, (some .int))
abbrev fX10_falls : xF := (yX10_falls, cX10_falls, 3, (some .int))
abbrev fX10_lastsOf : xF := (yX10_lastsOf, cX10_lastsOf, 3, (some .int))
abbrev fX10_lasts : xF := (yX10_lasts, cX10_lasts, 1, (some .int))
abbrev fX10_beatFor : xF := (yX10_beatFor, cX10_beatFor, 9, (some .int))
abbrev fX10_leastPush : xF := (yX10_leastPush, cX10_leastPush, 5, (some .int))
abbrev fX10_mistaken : xF := (yX10_mistaken, cX10_mistaken, 9, (some .int))
abbrev fX10_mistake : xF := (yX10_mistake, cX10_mistake, 4, (some .int))
abbrev fX10_held : xF := (yX10_held, cX10_held, 5, (some .int))
abbrev fX10_fallWith : xF := (yX10_fallWith, cX10_fallWith, 6, (some .int))
abbrev fX10_rescue : xF := (yX10_rescue, cX10_rescue, 5, (some .int))
abbrev fX10_start : xF := (yX10_start, cX10_start, 7, (some .int))
abbrev fX10_rowIs : xF := (yX10_rowIs, cX10_rowIs, 2, (some .int))
abbrev fX10_music : xF := (yX10_music, cX10_music, 9, (some .int))
abbrev fX10_firstFalse : xF := (yX10_firstFalse, cX10_firstFalse, 4, (some .int))
abbrev fX10_judge : xF := (yX10_judge, cX10_judge, 3, (some .int))
abbrev fX10_begun : xF := (yX10_begun, cX10_begun, 9, (some .int))
abbrev fX10_isGirl : xF := (yX10_isGirl, cX10_isGirl, 1, (some .boolean))
abbrev fX10_skill : xF := (yX10_skill, cX10_skill, 4, (some .int))
abbrev fX10_besideOf : xF := (yX10_besideOf, cX10_besideOf, 2, (some .int))
abbrev fX10_draws : xF := (yX10_draws, cX10_draws, 1, (some .int))
abbrev fX10_drops : xF := (yX10_drops, cX10_drops, 4, none)
abbrev fX10_field : xF := (yX10_field, cX10_field, 7, none)
abbrev fX10_left : xF := (yX10_left, cX10_left, 6, (some .int))
abbrev fX10_knocked : xF := (yX10_knocked, cX10_knocked, 4, (some .int))
abbrev fX10_last : xF := (yX10_last, cX10_last, 5, (some .int))
abbrev fX10_alone : xF := (yX10_alone, cX10_alone, 14, (some .long))
abbrev fX10_needsOf : xF := (yX10_needsOf, cX10_needsOf, 1, (some .int))
abbrev fX10_learn : xF := (yX10_learn, cX10_learn, 4, (some .int))
abbrev fX10_till : xF := (yX10_till, cX10_till, 5, (some .int))
abbrev fX10_image : xF := (yX10_image, cX10_image, 2, (some .int))
abbrev fX10_back : xF := (yX10_back, cX10_back, 2, (some .int))
abbrev fX10_isBody : xF := (yX10_isBody, cX10_isBody, 2, (some .boolean))
abbrev fX10_kindOf : xF := (yX10_kindOf, cX10_kindOf, 2, (some .int))
abbrev fX10_body : xF := (yX10_body, cX10_body, 2, (some .int))
abbrev fX10_above : xF := (yX10_above, cX10_above, 1, (some .int))
abbrev fX10_begins : xF := (yX10_begins, cX10_begins, 2, none)
abbrev fX10_pushesAs : xF := (yX10_pushesAs, cX10_pushesAs, 3, (some .int))
abbrev fX10_turnsAs : xF := (yX10_turnsAs, cX10_turnsAs, 4, (some .int))
abbrev fX10_sinksAs : xF := (yX10_sinksAs, cX10_sinksAs, 4, (some .int))
abbrev fX10_tellsAs : xF := (yX10_tellsAs, cX10_tellsAs, 4, (some .int))
abbrev fX10_act : xF := (yX10_act, cX10_act, 4, (some .int))
abbrev fX10_trace : xF := (yX10_trace, cX10_trace, 2, (some .int))
abbrev fX10_isShelf : xF := (yX10_isShelf, cX10_isShelf, 1, (some .boolean))
abbrev fX10_keep : xF := (yX10_keep, cX10_keep, 3, (some .int))
abbrev fX10_row : xF := (yX10_row, cX10_row, 5, (some .int))
abbrev fX10_refusal : xF := (yX10_refusal, cX10_refusal, 3, (some .int))
abbrev fX10_asSort : xF := (yX10_asSort, cX10_asSort, 3, (some .long))
abbrev fX10_put : xF := (yX10_put, cX10_put, 6, (some .int))
abbrev fX10_element : xF := (yX10_element, cX10_element, 3, (some .long))
abbrev fX10_shift : xF := (yX10_shift, cX10_shift, 7, (some .int))
abbrev fX10_taken : xF := (yX10_taken, cX10_taken, 4, (some .int))
abbrev fX10_count : xF := (yX10_count, cX10_count, 2, (some .int))
abbrev fJ6_bitCount_0f7a4 : xF := (yJ6_bitCount_0f7a4, cJ6_bitCount_0f7a4, 1, (some .int))
abbrev fJ9_floorMod_7cf53 : xF := (yJ9_floorMod_7cf53, cJ9_floorMod_7cf53, 3, (some .int))
abbrev fJ9_abs_0f7a4 : xF := (yJ9_abs_0f7a4, cJ9_abs_0f7a4, 1, (some .int))
abbrev fJ9_max_7cf53 : xF := (yJ9_max_7cf53, cJ9_max_7cf53, 2, (some .int))
abbrev fJ9_min_7cf53 : xF := (yJ9_min_7cf53, cJ9_min_7cf53, 2, (some .int))
abbrev fL_law : xF := (yL_law, cL_law, 4, (some .boolean))
abbrev vwCl : List vw_C := [(RX0, TX0, 6), (RX1, TX1, 7), (RX2, TX2, 5), (RX3, TX3, 6), (RX4, TX4, 5), (RX5, TX5, 10), (RX6, TX6, 5), (RX7, TX7, 8), (RX8, TX8, 5), (RX9, TX9, 10), (RX10, TX10, 46)]
end
section
/-! links: what each constant pool entry is, by its place in the tables -/
theorem uS : ∀ w ∈ k2_sels lw_privs, w ∈ lw_tbl := fun _ h => List.mem_append_left _ h
theorem u1 : ∀ w ∈ tables_1_1, w ∈ lw_tbl := fun _ h => List.mem_append_right _ (List.mem_append_left _ h)
theorem u2 : ∀ w ∈ tables_1_2, w ∈ lw_tbl := fun _ h => List.mem_append_right _ (List.mem_append_right _ (List.mem_append_left _ h))
theorem u3 : ∀ w ∈ tables_1_3, w ∈ lw_tbl := fun _ h => List.mem_append_right _ (List.mem_append_right _ (List.mem_append_right _ (List.mem_append_left _ h)))
theorem u4 : ∀ w ∈ tables_1_4, w ∈ lw_tbl := fun _ h => List.mem_append_right _ (List.mem_append_right _ (List.mem_append_right _ (List.mem_append_right _ (List.mem_append_left _ h))))
theorem u5 : ∀ w ∈ tables_1_5, w ∈ lw_tbl := fun _ h => List.mem_append_right _ (List.mem_append_right _ (List.mem_append_right _ (List.mem_append_right _ (List.mem_append_right _ (List.mem_append_left _ h)))))
theorem u6 : ∀ w ∈ tables_1_6, w ∈ lw_tbl := fun _ h => List.mem_append_right _ (List.mem_append_right _ (List.mem_append_right _ (List.mem_append_right _ (List.mem_append_right _ (List.mem_append_right _ (List.mem_append_left _ h))))))
theorem u7 : ∀ w ∈ tables_1_7, w ∈ lw_tbl := fun _ h => List.mem_append_right _ (List.mem_append_right _ (List.mem_append_right _ (List.mem_append_right _ (List.mem_append_right _ (List.mem_append_right _ (List.mem_append_right _ h))))))
abbrev x_nests : List (String × Nat × MethodName × String) := [(RX2, 56, yX9_within, "HoopWaist"), (RX3, 60, yX9_within, "HoopWaist"), (RX5, 79, yX9_rest, "HoopWaist"), (RX5, 83, yX9_goalOf, "HoopWaist"), (RX7, 88, yX9_goalOf, "HoopWaist"), (RX8, 26, yX9_isKind, "HoopWaist")]
theorem ux_0 : Cond.methodLinkNest RX2 56 yX9_within "HoopWaist" ∈ lw_tbl := u3 _ (List.mem_of_getElem? (i := 124) rfl)
theorem ux_1 : Cond.methodLinkNest RX3 60 yX9_within "HoopWaist" ∈ lw_tbl := u3 _ (List.mem_of_getElem? (i := 104) rfl)
theorem ux_2 : Cond.methodLinkNest RX5 79 yX9_rest "HoopWaist" ∈ lw_tbl := u3 _ (List.mem_of_getElem? (i := 57) rfl)
theorem ux_3 : Cond.methodLinkNest RX5 83 yX9_goalOf "HoopWaist" ∈ lw_tbl := u3 _ (List.mem_of_getElem? (i := 64) rfl)
theorem ux_4 : Cond.methodLinkNest RX7 88 yX9_goalOf "HoopWaist" ∈ lw_tbl := u4 _ (List.mem_of_getElem? (i := 49) rfl)
theorem ux_5 : Cond.methodLinkNest RX8 26 yX9_isKind "HoopWaist" ∈ lw_tbl := u4 _ (List.mem_of_getElem? (i := 203) rfl)
theorem uo_Hoop : Cond.arrayOver (.object RX2) ∈ lw_tbl := u1 _ (List.mem_of_getElem? (i := 84) rfl)
theorem uo_Shelf : Cond.arrayOver (.object RX6) ∈ lw_tbl := u2 _ (List.mem_of_getElem? (i := 45) rfl)
end
section
/-! a world as two functions (ints by place and index, longs by place and index) over a list of shapes; places are addresses from a base on -/
abbrev xS : Type := (Nat × List (Option (Option Nat))) ⊕ (Nat × Nat × (Nat → Option Nat))
abbrev xM : Type := Nat → Nat → Int32
abbrev xJ : Type := Nat → Nat → Int64
abbrev xQ : Type := Option Value → List xS → xM → xJ → Prop
abbrev xG : Type := va_G × (Nat → ClassId) × Nat × (Nat → Nat) × Nat × (Nat → Int32)
def x_ad (G : xG) (p : Nat) : Nat := if p < 1000 then G.2.2.1 + p else G.2.2.2.1 (p - 1000)
def x_rn (G : xG) : Value → Value
  | .ref p => .ref (x_ad G p)
  | v => v
def x_rl (G : xG) (q : Nat × Value) : Nat × Value := (q.1, x_rn G q.2)
def x_A (G : xG) : Nat → Prop := fun q => G.2.2.1 ≤ q
def x_row (M : xM) (p : Nat) (r : Nat → Int32) : xM := fun q => if q = p then r else M q
def x_up (M : xM) (p k : Nat) (v : Int32) : xM := x_row M p (upd (M p) k v)
def x_rowJ (J : xJ) (p : Nat) (r : Nat → Int64) : xJ := fun q => if q = p then r else J q
def x_upJ (J : xJ) (p k : Nat) (v : Int64) : xJ := x_rowJ J p (vp_updL (J p) k v)
def x_fs (G : xG) (M : xM) (p : Nat) (fs : List (Option (Option Nat))) : List Value :=
  fs.mapIdx fun k o => match o with
    | none => .int (M p k)
    | some r => va_rf (r.map (x_ad G))
def x_e (G : xG) (M : xM) (J : xJ) (p : Nat) (e : xS) : va_E := match e with
  | .inl (ci, fs) => .inr (ci, x_fs G M p fs)
  | .inr (t, n, f) => .inl (G.2.1 t, n, if t < 2 then .inl (M p) else if t = 2 then .inr (.inl (J p)) else .inr (.inr (.inr (.inr (fun i => (f i).map (x_ad G))))))
def x_w (G : xG) (sh : List xS) (M : xM) (J : xJ) : va_W := sh.mapIdx fun p e => (x_ad G p, x_e G M J p e)
/-- how many cells stand when both objects are made -/
def x_N : Nat := 87
def x_R (G : xG) (sh : List xS) (M : xM) (J : xJ) (H : Heap) : Prop := va_P G.1 vwCl (x_w G sh M J) H ∧ (sh.length < x_N → H.size = G.2.2.1 + sh.length) ∧ sh.length ≤ 900
def x_ty (G : xG) : List (ClassId × FieldType) := [(G.2.1 0, .int), (G.2.1 1, .boolean), (G.2.1 2, .long), (G.2.1 3, .object RX2), (G.2.1 4, .object RX6)]
def x_tyOf : Nat → FieldType
  | 0 => .int
  | 1 => .boolean
  | 2 => .long
  | 3 => .object RX2
  | _ => .object RX6
def x_K (G : xG) (U : State) : Prop := va_K G.1 vwCl (x_ty G) U
def x_above : List Int32 := [-1, 0, 0, 2, 1, 3, 0, 4]
def x_own : List Int32 := [1, 10, 11, 2, 20, 0, 0, 0, 0, 30, 0, 0, 0, 41, 40, 0, 0, 0, 50, 0, 0, 0, 0, 60, 70, 0, 0, 0, 0, 80, 0, 81]
def x_St (G : xG) (U : State) (H : Heap) : Prop :=
  va_Z RX8 "ABOVE" "[I" (.ref (G.2.2.2.1 0)) (x_A G) U H ∧ va_T .int (G.2.2.2.1 0) 8 (fun j => .int (x_above.getD j 0)) (x_A G) U H ∧
  va_Z RX8 "OWN" "[I" (.ref (G.2.2.2.1 1)) (x_A G) U H ∧ va_T .int (G.2.2.2.1 1) 32 (fun j => .int (x_own.getD j 0)) (x_A G) U H
/-- what the tables say of nest mates and of arrays of objects -/
def x_Ex (U : State) : Prop := va_AO RX2 U ∧ va_AO RX6 U ∧ ∀ q ∈ x_nests, va_Nw (.methodLinkNest q.1 q.2.1 q.2.2.1 q.2.2.2) U
def xU : List Cond := lw_tbl.filter goodWord
theorem x_good {y : MethodName} {b : ByteArray} {n : Nat} {r : Option FieldType} (h : Cond.code y b n r ∈ xU) : GoodIn xU (Cond.code y b n r :: xU) := by
  intro w hw
  have hw2 : w ∈ xU := by
    rcases List.mem_cons.mp hw with e | e
    · rw [e]; exact h
    · exact e
  exact ⟨hw2, good_of_word (List.mem_filter.mp hw2).2⟩
theorem x_mem {w : Cond} {t : List Cond} (i : Nat) (ht : ∀ w ∈ t, w ∈ lw_tbl) (hi : t[i]? = some w) (hg : goodWord w = true) : w ∈ xU := List.mem_filter.mpr ⟨ht w (List.mem_of_getElem? hi), hg⟩
/-! what holds at every point of a method's body -/
def x_C (G : xG) (f : xF) (d mc ms : Nat) (p : Program) (R : Room) (s : State) (m : MethodId) (args : Array Value) (meth : Method) (c : Code) : Prop :=
  p.tables.exec = Jvm.exec ∧ c.code = f.2.1 ∧ c.maxLocals = f.2.2.1 ∧ meth.sig.returnType = f.2.2.2 ∧ s.vm.findClass f.1.cls = some m.cls ∧ (∀ w ∈ xU, w.before args s = true) ∧ x_K G s ∧ (x_St G s s.heap ∧ x_Ex s) ∧
  (d ≤ R.frames ∧ 40 * d ≤ R.locals ∧ mc = R.cells ∧ ms = R.slots) ∧ G.2.2.1 ≤ s.heap.size ∧ (f.1.name = "<init>" → meth.name = "<init>") ∧
  (f.1.cls = RL → va_X (G.2.2.2.1 2) G.2.2.2.2.1 G.2.2.2.2.2 s s.heap ∧ G.2.2.2.1 2 < s.heap.size ∧ ¬ x_A G (G.2.2.2.1 2))
/-- how a method may end -/
def x_rop (f : xF) (pc : Nat) (v : Option Value) : Prop :=
  (f.2.2.2 = none ∧ v = none ∧ decode f.2.1 pc = .ok (.return_, 1)) ∨ (∃ ty x, f.2.2.2 = some ty ∧ v = some (.int x) ∧ narrow ty (.int x) = .int x ∧ decode f.2.1 pc = .ok (.ireturn, 1)) ∨
  (∃ x, f.2.2.2 = some .long ∧ v = some (.long x) ∧ decode f.2.1 pc = .ok (.lreturn, 1)) ∨ (∃ C a, f.2.2.2 = some (.object C) ∧ v = some (.ref a) ∧ decode f.2.1 pc = .ok (.areturn, 1))
def x_ret (l : Launch) (G : xG) (f : xF) (mc ms : Nat) (Q : xQ) (p : Program) (e : Env) (R : Room) (s : State) (m : MethodId) (args : Array Value) (below : List Frame) (meth : Method) (c : Code) (WQ : State → Prop) : Prop :=
  ∀ (v : Option Value) (sh : List xS) (M : xM) (J : xJ) (H : Heap) (locs : List Loc) (kc ks pc : Nat) (arr : Array Slot), Q v sh M J → kc ≤ mc → ks ≤ ms → x_R G sh M J H → va_S (x_A G) s.heap H locs → x_rop f pc v →
    W p l e R s m args below meth c H locs kc ks WQ (F0 m pc arr (v.map (x_rn G)).toList)
/-- from here on the method's body comes to its end with Q -/
def x_X (l : Launch) (G : xG) (f : xF) (d mc ms : Nat) (Q : xQ) (pc : Nat) (ls : List (Nat × Value)) (st : List Value) (sh : List xS) (M : xM) (J : xJ) (kc ks : Nat) : Prop :=
  ∀ (p : Program) (e : Env) (R : Room) (s : State) (m : MethodId) (args : Array Value) (below : List Frame) (meth : Method) (c : Code) (H : Heap) (locs : List Loc) (WQ : State → Prop) (arr : Array Slot),
    x_C G f d mc ms p R s m args meth c → x_ret l G f mc ms Q p e R s m args below meth c WQ → x_R G sh M J H → va_S (x_A G) s.heap H locs → kc ≤ mc → ks ≤ ms → lv_has arr f.2.2.1 (ls.map (x_rl G)) →
    W p l e R s m args below meth c H locs kc ks WQ (F0 m pc arr (st.map (x_rn G)))
def x_rm (d mc ms : Nat) : Room := { frames := d, cells := mc, slots := ms, locals := 40 * d }
def x_Pre (G : xG) (sh : List xS) (M : xM) (J : xJ) (U : State) : Prop := x_R G sh M J U.heap ∧ x_K G U ∧ x_St G U U.heap ∧ x_Ex U
def x_Post (G : xG) (Q : xQ) : Array Value → State → Outcome → State → Prop := fun _ st oc t =>
  (∃ (v : Option Value) (sh : List xS) (M : xM) (J : xJ), oc = .returned (v.map (x_rn G)) ∧ Q v sh M J ∧ x_R G sh M J t.heap) ∧ va_F (x_A G) st t
/-- a method's contract -/
def x_M (l : Launch) (G : xG) (f : xF) (d mc ms : Nat) (args : List Value) (sh : List xS) (M : xM) (J : xJ) (Q : xQ) : Prop :=
  Met l f.1 (Cond.code f.1 f.2.1 f.2.2.1 f.2.2.2 :: xU) (x_rm d mc ms) (va_Pc (args.map (x_rn G)) (x_Pre G sh M J)) (x_Post G Q) mc ms (x_A G)
/-! worlds -/
theorem x_rn_cat (G : xG) (v : Value) : (x_rn G v).category = v.category := by cases v <;> rfl
theorem x_row_s (M : xM) (p : Nat) (r : Nat → Int32) : x_row M p r p = r := if_pos rfl
theorem x_row_n (M : xM) {p q : Nat} (r : Nat → Int32) (h : q ≠ p) : x_row M p r q = M q := if_neg h
theorem x_rowJ_s (J : xJ) (p : Nat) (r : Nat → Int64) : x_rowJ J p r p = r := if_pos rfl
theorem x_rowJ_n (J : xJ) {p q : Nat} (r : Nat → Int64) (h : q ≠ p) : x_rowJ J p r q = J q := if_neg h
theorem x_up_r (M : xM) (p k : Nat) (v : Int32) : x_up M p k v p = upd (M p) k v := if_pos rfl
theorem x_up_n (M : xM) {p q : Nat} (k : Nat) (v : Int32) (h : q ≠ p) : x_up M p k v q = M q := if_neg h
theorem x_up_s (M : xM) (p k : Nat) (v : Int32) : x_up M p k v p k = v := by rw [x_up_r]; exact if_pos rfl
theorem x_up_k (M : xM) (p : Nat) {k j : Nat} (v : Int32) (h : j ≠ k) : x_up M p k v p j = M p j := by rw [x_up_r]; exact if_neg h
theorem x_upJ_r (J : xJ) (p k : Nat) (v : Int64) : x_upJ J p k v p = vp_updL (J p) k v := if_pos rfl
theorem x_upJ_n (J : xJ) {p q : Nat} (k : Nat) (v : Int64) (h : q ≠ p) : x_upJ J p k v q = J q := if_neg h
theorem x_w_get {G : xG} {sh : List xS} {M : xM} {J : xJ} {p : Nat} {e : xS} (h : sh[p]? = some e) : (x_w G sh M J)[p]? = some (x_ad G p, x_e G M J p e) := by
  simp [x_w, List.getElem?_mapIdx, h]
theorem x_w_of {G : xG} {sh : List xS} {M : xM} {J : xJ} {p : Nat} {q : Nat × va_E} (h : (x_w G sh M J)[p]? = some q) : p < sh.length ∧ q.1 = x_ad G p := by
  rw [x_w, List.getElem?_mapIdx] at h
  cases hp : sh[p]? with
  | none => rw [hp] at h; cases h
  | some e =>
    rw [hp] at h
    cases h
    exact ⟨(List.getElem?_eq_some_iff.mp hp).1, rfl⟩
theorem x_fs_get {G : xG} {M : xM} {p k : Nat} {fs : List (Option (Option Nat))} (h : fs[k]? = some none) : (x_fs G M p fs)[k]? = some (.int (M p k)) := by
  simp [x_fs, List.getElem?_mapIdx, h]
theorem x_fs_getR {G : xG} {M : xM} {p k : Nat} {fs : List (Option (Option Nat))} {r : Option Nat} (h : fs[k]? = some (some r)) : (x_fs G M p fs)[k]? = some (va_rf (r.map (x_ad G))) := by
  simp [x_fs, List.getElem?_mapIdx, h]
theorem x_fs_len {G : xG} {M : xM} {p : Nat} {fs : List (Option (Option Nat))} : (x_fs G M p fs).length = fs.length := by simp [x_fs]
theorem x_fs_set {G : xG} {M : xM} {p k : Nat} {v : Int32} {fs : List (Option (Option Nat))} (h : fs[k]? = some none) : (x_fs G M p fs).set k (.int v) = x_fs G (x_up M p k v) p fs := by
  apply List.ext_getElem?
  intro j
  by_cases hj : j = k
  · subst hj
    rw [List.getElem?_set_self (by rw [x_fs_len]; exact (List.getElem?_eq_some_iff.mp h).1), x_fs_get h, x_up_s]
  · rw [List.getElem?_set_ne (Ne.symm hj)]
    simp only [x_fs, List.getElem?_mapIdx]
    cases fs[j]? with
    | none => rfl
    | some o =>
      cases o with
      | none => simp only [Option.map_some]; rw [x_up_k _ _ _ hj]
      | some r => rfl
theorem x_fs_setR {G : xG} {M : xM} {p k : Nat} {a : Nat} {o : Option (Option Nat)} {fs : List (Option (Option Nat))} (h : fs[k]? = some o) : (x_fs G M p fs).set k (.ref (x_ad G a)) = x_fs G M p (fs.set k (some (some a))) := by
  have hl := (List.getElem?_eq_some_iff.mp h).1
  apply List.ext_getElem?
  intro j
  by_cases hj : j = k
  · subst hj
    rw [List.getElem?_set_self (by rw [x_fs_len]; exact hl), x_fs_getR (r := some a) (List.getElem?_set_self hl)]
    rfl
  · rw [List.getElem?_set_ne (Ne.symm hj)]
    simp only [x_fs, List.getElem?_mapIdx]
    rw [List.getElem?_set_ne (Ne.symm hj)]
theorem x_e_congr {G : xG} {M M' : xM} {J J' : xJ} {p : Nat} (e : xS) (h : M' p = M p) (h2 : J' p = J p) : x_e G M' J' p e = x_e G M J p e := by
  cases e with
  | inl o => simp only [x_e, x_fs, h]
  | inr o => simp only [x_e, h, h2]
theorem x_w_set {G : xG} {sh : List xS} {M M' : xM} {J J' : xJ} {p : Nat} {e : xS} (e' : xS) (hp : sh[p]? = some e) (hM : ∀ i, i ≠ p → M' i = M i) (hJ : ∀ i, i ≠ p → J' i = J i) :
    (x_w G sh M J).set p (x_ad G p, x_e G M' J' p e') = x_w G (sh.set p e') M' J' := by
  have hl := (List.getElem?_eq_some_iff.mp hp).1
  apply List.ext_getElem?
  intro i
  by_cases hi : i = p
  · subst hi
    rw [List.getElem?_set_self (by simp [x_w]; exact hl), x_w_get (e := e') (List.getElem?_set_self hl)]
  · rw [List.getElem?_set_ne (Ne.symm hi)]
    simp only [x_w, List.getElem?_mapIdx]
    rw [List.getElem?_set_ne (Ne.symm hi)]
    cases sh[i]? with
    | none => rfl
    | some e2 => simp only [Option.map_some]; rw [x_e_congr (G := G) e2 (hM i hi) (hJ i hi)]
theorem x_sh_set {sh : List xS} {p : Nat} {e : xS} (hp : sh[p]? = some e) : sh.set p e = sh := by
  apply List.ext_getElem?
  intro i
  by_cases hi : i = p
  · subst hi
    rw [List.getElem?_set_self (List.getElem?_eq_some_iff.mp hp).1, hp]
  · rw [List.getElem?_set_ne (Ne.symm hi)]
theorem x_w_push {G : xG} {sh : List xS} {M : xM} {J : xJ} (e : xS) : x_w G sh M J ++ [(x_ad G sh.length, x_e G M J sh.length e)] = x_w G (sh ++ [e]) M J := by
  simp [x_w, List.mapIdx_append]
theorem x_ad_lo {G : xG} {p : Nat} (h : p < 1000) : x_ad G p = G.2.2.1 + p := if_pos h
theorem x_D {G : xG} {sh : List xS} {M : xM} {J : xJ} (h : sh.length ≤ 900) : va_D (x_A G) (x_w G sh M J) := by
  refine ⟨fun i j p q hi hj e => ?_, fun k q hk => ?_⟩
  · obtain ⟨h1, h2⟩ := x_w_of hi
    obtain ⟨h3, h4⟩ := x_w_of hj
    rw [h2, h4, x_ad_lo (by omega), x_ad_lo (by omega)] at e
    omega
  · obtain ⟨h1, h2⟩ := x_w_of hk
    rw [h2, x_ad_lo (by omega)]
    exact Nat.le_add_right _ _
theorem x_St.moved {G : xG} {u U : State} {H : Heap} (hvm : u.vm.Alike U.vm) (h : x_St G u H) : x_St G U H := ⟨h.1.moved hvm, h.2.1.moved hvm, h.2.2.1.moved hvm, h.2.2.2.moved hvm⟩
theorem x_St.kept {G : xG} {U : State} {H H1 : Heap} (h : x_St G U H) (hq : ∀ a : Nat, a < H.size → ¬ x_A G a → H1[a]? = H[a]?) : x_St G U H1 := ⟨h.1.kept hq, h.2.1.kept hq, h.2.2.1.kept hq, h.2.2.2.kept hq⟩
theorem x_Ex.moved {u U : State} (hW : u.WarmedH U.vm) (h : x_Ex u) : x_Ex U := ⟨va_AO.moved hW.alike h.1, va_AO.moved hW.alike h.2.1, fun q hq => va_Nw.warmM hW (h.2.2 q hq)⟩
theorem x_args (G : xG) : ∀ (vs : List Value) (i : Nat), lv_args i (vs.map (x_rn G)) = (lv_args i vs).map (x_rl G)
  | [], _ => rfl
  | v :: vs, i => by
    simp only [List.map_cons, lv_args, x_rn_cat]
    rw [x_args G vs]
    rfl
theorem x_sl (G : xG) : ∀ (vs : List Value), (lg_sl (vs.map (x_rn G))).length = (lg_sl vs).length
  | [] => rfl
  | v :: vs => by
    have ih := x_sl G vs
    simp only [lg_sl, List.map_cons, List.flatMap_cons, List.length_append] at ih ⊢
    rw [ih]
    congr 1
    rw [x_rn_cat]
    by_cases h : v.category = 2 <;> simp [h]
/-! links -/
def x_FL (own : String) (idx ci k : Nat) : Prop := ∃ (C : String) (T : u_T) (N : Nat), vwCl[ci]? = some (C, T, N) ∧ k < N ∧ (∀ w ∈ u_ws C T N, w ∈ xU) ∧ Cond.fieldLink own idx (T k).1 (T k).2.1 (T k).2.2.1 ∈ xU
def x_FP (own : String) (idx ci k : Nat) (fin : Bool) (ty : FieldType) : Prop := ∃ (C : String) (T : u_T) (N : Nat) (ty0 : Nat → FieldType), vwCl[ci]? = some (C, T, N) ∧ k < N ∧ (∀ w ∈ u_ws C T N, w ∈ xU) ∧ Cond.fieldLink own idx (T k).1 (T k).2.1 (T k).2.2.1 ∈ xU ∧
  (∀ k, k < N → parseFieldDescriptor (T k).2.2.1 = some (ty0 k)) ∧ (∀ a, a < N → ∀ b, b < N → a ≠ b → (T a).2.1 ≠ (T b).2.1) ∧ (T k).2.2.2 = fin ∧ parseFieldDescriptor (T k).2.2.1 = some ty ∧ (fin = true → (T k).1 = own)
def x_ok (g : xF) (n : Nat) : Prop := g.1.cls ≠ "java/lang/invoke/MethodHandle" ∧ g.1.cls ≠ "java/lang/invoke/VarHandle" ∧ (parseMethodDescriptor g.1.desc).map (fun d => d.parameters.length) = some n ∧ g.2.2.1 ≤ 21 ∧
  Cond.initialized g.1.cls ∈ xU ∧ Cond.code g.1 g.2.1 g.2.2.1 g.2.2.2 ∈ xU
def x_MV (own : String) (idx ci : Nat) (g : xF) (n : Nat) : Prop := x_ok g n ∧ (∃ (T : u_T) (N : Nat), vwCl[ci]? = some (g.1.cls, T, N)) ∧ Cond.methodLink own idx g.1 ∈ xU ∧ Cond.instanceMethod g.1 ∈ xU ∧ Cond.selects g.1.cls g.1 g.1 ∈ xU
def x_MS (own : String) (idx : Nat) (g : xF) (n : Nat) : Prop := x_ok g n ∧ Cond.methodLink own idx g.1 ∈ xU ∧ Cond.static g.1 ∈ xU
def x_MN (own : String) (idx : Nat) (g : xF) (n : Nat) : Prop := x_ok g n ∧ (∃ host, (own, idx, g.1, host) ∈ x_nests) ∧ Cond.static g.1 ∈ xU
def x_MI (own : String) (idx : Nat) (g : xF) (n : Nat) : Prop := x_ok g n ∧ Cond.methodLink own idx g.1 ∈ xU ∧ Cond.instanceMethod g.1 ∈ xU ∧ g.1.name = "<init>" ∧ g.2.2.2 = none
end
section
/-! locals -/
def x_st1 (ls : List (Nat × Value)) (i : Nat) (v : Value) : List (Nat × Value) := (i, v) :: ls.filter (fun q => !(q.1 == i) && !(q.1 + 1 == i && q.2.category == 2))
def x_st2 (ls : List (Nat × Value)) (i : Nat) (v : Value) : List (Nat × Value) := (i, v) :: ls.filter (fun q => !(q.1 == i) && (!(q.1 == i + 1) && !(q.1 + 1 == i && q.2.category == 2)))
theorem x_st1_rn (G : xG) (ls : List (Nat × Value)) (i : Nat) (v : Value) : (i, x_rn G v) :: (ls.map (x_rl G)).filter (fun q => !(q.1 == i) && !(q.1 + 1 == i && q.2.category == 2)) = (x_st1 ls i v).map (x_rl G) := by
  simp only [x_st1, List.map_cons, List.filter_map]
  congr 1
  refine congrArg _ (congrArg (fun f => List.filter f ls) ?_)
  funext q
  simp only [Function.comp, x_rl, x_rn_cat]
theorem x_st2_rn (G : xG) (ls : List (Nat × Value)) (i : Nat) (v : Value) : (i, x_rn G v) :: (ls.map (x_rl G)).filter (fun q => !(q.1 == i) && (!(q.1 == i + 1) && !(q.1 + 1 == i && q.2.category == 2))) = (x_st2 ls i v).map (x_rl G) := by
  simp only [x_st2, List.map_cons, List.filter_map]
  congr 1
  refine congrArg _ (congrArg (fun f => List.filter f ls) ?_)
  funext q
  simp only [Function.comp, x_rl, x_rn_cat]
theorem x_ls_at {G : xG} {ls : List (Nat × Value)} {j i : Nat} {v : Value} (h : ls[j]? = some (i, v)) : (ls.map (x_rl G))[j]? = some (i, x_rn G v) := by
  rw [List.getElem?_map, h]
  rfl
section XR
variable {l : Launch} {G : xG} {f : xF} {d mc ms : Nat} {Q : xQ} {pc : Nat} {ls : List (Nat × Value)} {st : List Value} {sh : List xS} {M : xM} {J : xJ} {kc ks : Nat}

theorem xr_iconst {n : Int} {v : Int32} (hd : decode f.2.1 pc = .ok (.iconst n, 1)) (hv : Int32.ofInt n = v) (k : x_X l G f d mc ms Q (pc + 1) ls (.int v :: st) sh M J kc ks) : x_X l G f d mc ms Q pc ls st sh M J kc ks := by
  intro p e R s m args below meth c H locs WQ arr hC hr hR hS hkc hks hl
  exact lv_iconst hC.1 hC.2.1 hd hv (k p e R s m args below meth c H locs WQ arr hC hr hR hS hkc hks hl)

theorem xr_bipush {n : Int} {v : Int32} (hd : decode f.2.1 pc = .ok (.bipush n, 2)) (hv : (Int8.ofInt n).toInt32 = v) (k : x_X l G f d mc ms Q (pc + 2) ls (.int v :: st) sh M J kc ks) : x_X l G f d mc ms Q pc ls st sh M J kc ks := by
  intro p e R s m args below meth c H locs WQ arr hC hr hR hS hkc hks hl
  exact lv_bipush hC.1 hC.2.1 hd hv (k p e R s m args below meth c H locs WQ arr hC hr hR hS hkc hks hl)

theorem xr_sipush {n : Int} {v : Int32} (hd : decode f.2.1 pc = .ok (.sipush n, 3)) (hv : (Int16.ofInt n).toInt32 = v) (k : x_X l G f d mc ms Q (pc + 3) ls (.int v :: st) sh M J kc ks) : x_X l G f d mc ms Q pc ls st sh M J kc ks := by
  intro p e R s m args below meth c H locs WQ arr hC hr hR hS hkc hks hl
  exact lv_sipush hC.1 hC.2.1 hd hv (k p e R s m args below meth c H locs WQ arr hC hr hR hS hkc hks hl)

theorem xr_lconst {n : Fin 2} {v : Int64} (hd : decode f.2.1 pc = .ok (.lconst n, 1)) (hv : Int64.ofNat (n : Nat) = v) (k : x_X l G f d mc ms Q (pc + 1) ls (.long v :: st) sh M J kc ks) : x_X l G f d mc ms Q pc ls st sh M J kc ks := by
  intro p e R s m args below meth c H locs WQ arr hC hr hR hS hkc hks hl
  exact lv_lconst hC.1 hC.2.1 hd hv (k p e R s m args below meth c H locs WQ arr hC hr hR hS hkc hks hl)

theorem xr_iadd {x y : Int32} (hd : decode f.2.1 pc = .ok (.iadd, 1)) (k : x_X l G f d mc ms Q (pc + 1) ls (.int (x + y) :: st) sh M J kc ks) : x_X l G f d mc ms Q pc ls (.int y :: .int x :: st) sh M J kc ks := by
  intro p e R s m args below meth c H locs WQ arr hC hr hR hS hkc hks hl
  exact lv_iadd hC.1 hC.2.1 hd (k p e R s m args below meth c H locs WQ arr hC hr hR hS hkc hks hl)

theorem xr_isub {x y : Int32} (hd : decode f.2.1 pc = .ok (.isub, 1)) (k : x_X l G f d mc ms Q (pc + 1) ls (.int (x - y) :: st) sh M J kc ks) : x_X l G f d mc ms Q pc ls (.int y :: .int x :: st) sh M J kc ks := by
  intro p e R s m args below meth c H locs WQ arr hC hr hR hS hkc hks hl
  exact lv_isub hC.1 hC.2.1 hd (k p e R s m args below meth c H locs WQ arr hC hr hR hS hkc hks hl)

theorem xr_imul {x y : Int32} (hd : decode f.2.1 pc = .ok (.imul, 1)) (k : x_X l G f d mc ms Q (pc + 1) ls (.int (x * y) :: st) sh M J kc ks) : x_X l G f d mc ms Q pc ls (.int y :: .int x :: st) sh M J kc ks := by
  intro p e R s m args below meth c H locs WQ arr hC hr hR hS hkc hks hl
  exact lv_imul hC.1 hC.2.1 hd (k p e R s m args below meth c H locs WQ arr hC hr hR hS hkc hks hl)

theorem xr_iand {x y : Int32} (hd : decode f.2.1 pc = .ok (.iand, 1)) (k : x_X l G f d mc ms Q (pc + 1) ls (.int (x &&& y) :: st) sh M J kc ks) : x_X l G f d mc ms Q pc ls (.int y :: .int x :: st) sh M J kc ks := by
  intro p e R s m args below meth c H locs WQ arr hC hr hR hS hkc hks hl
  exact lv_iand hC.1 hC.2.1 hd (k p e R s m args below meth c H locs WQ arr hC hr hR hS hkc hks hl)

theorem xr_ior {x y : Int32} (hd : decode f.2.1 pc = .ok (.ior, 1)) (k : x_X l G f d mc ms Q (pc + 1) ls (.int (x ||| y) :: st) sh M J kc ks) : x_X l G f d mc ms Q pc ls (.int y :: .int x :: st) sh M J kc ks := by
  intro p e R s m args below meth c H locs WQ arr hC hr hR hS hkc hks hl
  exact lv_ior hC.1 hC.2.1 hd (k p e R s m args below meth c H locs WQ arr hC hr hR hS hkc hks hl)

theorem xr_ixor {x y : Int32} (hd : decode f.2.1 pc = .ok (.ixor, 1)) (k : x_X l G f d mc ms Q (pc + 1) ls (.int (x ^^^ y) :: st) sh M J kc ks) : x_X l G f d mc ms Q pc ls (.int y :: .int x :: st) sh M J kc ks := by
  intro p e R s m args below meth c H locs WQ arr hC hr hR hS hkc hks hl
  exact lv_ixor hC.1 hC.2.1 hd (k p e R s m args below meth c H locs WQ arr hC hr hR hS hkc hks hl)

theorem xr_ishl {x y : Int32} (hd : decode f.2.1 pc = .ok (.ishl, 1)) (k : x_X l G f d mc ms Q (pc + 1) ls (.int (x <<< (y &&& 31)) :: st) sh M J kc ks) : x_X l G f d mc ms Q pc ls (.int y :: .int x :: st) sh M J kc ks := by
  intro p e R s m args below meth c H locs WQ arr hC hr hR hS hkc hks hl
  exact lv_ishl hC.1 hC.2.1 hd (k p e R s m args below meth c H locs WQ arr hC hr hR hS hkc hks hl)

theorem xr_ishr {x y : Int32} (hd : decode f.2.1 pc = .ok (.ishr, 1)) (k : x_X l G f d mc ms Q (pc + 1) ls (.int (x >>> (y &&& 31)) :: st) sh M J kc ks) : x_X l G f d mc ms Q pc ls (.int y :: .int x :: st) sh M J kc ks := by
  intro p e R s m args below meth c H locs WQ arr hC hr hR hS hkc hks hl
  exact lv_ishr hC.1 hC.2.1 hd (k p e R s m args below meth c H locs WQ arr hC hr hR hS hkc hks hl)

theorem xr_iushr {x y : Int32} (hd : decode f.2.1 pc = .ok (.iushr, 1)) (k : x_X l G f d mc ms Q (pc + 1) ls (.int ((x.toUInt32 >>> (y.toUInt32 &&& Int32.toUInt32 31)).toInt32) :: st) sh M J kc ks) : x_X l G f d mc ms Q pc ls (.int y :: .int x :: st) sh M J kc ks := by
  intro p e R s m args below meth c H locs WQ arr hC hr hR hS hkc hks hl
  exact lv_iushr hC.1 hC.2.1 hd rfl (k p e R s m args below meth c H locs WQ arr hC hr hR hS hkc hks hl)

theorem xr_lshl {x : Int64} {y : Int32} (hd : decode f.2.1 pc = .ok (.lshl, 1)) (k : x_X l G f d mc ms Q (pc + 1) ls (.long (x <<< (y.toInt64 &&& 63)) :: st) sh M J kc ks) : x_X l G f d mc ms Q pc ls (.int y :: .long x :: st) sh M J kc ks := by
  intro p e R s m args below meth c H locs WQ arr hC hr hR hS hkc hks hl
  exact lv_lshl hC.1 hC.2.1 hd rfl (k p e R s m args below meth c H locs WQ arr hC hr hR hS hkc hks hl)

theorem xr_idiv {x y : Int32} (hd : decode f.2.1 pc = .ok (.idiv, 1)) (hne : ¬ y = 0) (k : x_X l G f d mc ms Q (pc + 1) ls (.int (x / y) :: st) sh M J kc ks) : x_X l G f d mc ms Q pc ls (.int y :: .int x :: st) sh M J kc ks := by
  intro p e R s m args below meth c H locs WQ arr hC hr hR hS hkc hks hl
  exact lv_idiv hC.1 hC.2.1 hd hne (k p e R s m args below meth c H locs WQ arr hC hr hR hS hkc hks hl)

theorem xr_irem {x y : Int32} (hd : decode f.2.1 pc = .ok (.irem, 1)) (hne : ¬ y = 0) (k : x_X l G f d mc ms Q (pc + 1) ls (.int (x - x / y * y) :: st) sh M J kc ks) : x_X l G f d mc ms Q pc ls (.int y :: .int x :: st) sh M J kc ks := by
  intro p e R s m args below meth c H locs WQ arr hC hr hR hS hkc hks hl
  exact lv_irem hC.1 hC.2.1 hd hne (k p e R s m args below meth c H locs WQ arr hC hr hR hS hkc hks hl)

theorem xr_ineg {x : Int32} (hd : decode f.2.1 pc = .ok (.ineg, 1)) (k : x_X l G f d mc ms Q (pc + 1) ls (.int (-x) :: st) sh M J kc ks) : x_X l G f d mc ms Q pc ls (.int x :: st) sh M J kc ks := by
  intro p e R s m args below meth c H locs WQ arr hC hr hR hS hkc hks hl
  exact lv_ineg hC.1 hC.2.1 hd (k p e R s m args below meth c H locs WQ arr hC hr hR hS hkc hks hl)

theorem xr_ladd {x y : Int64} (hd : decode f.2.1 pc = .ok (.ladd, 1)) (k : x_X l G f d mc ms Q (pc + 1) ls (.long (x + y) :: st) sh M J kc ks) : x_X l G f d mc ms Q pc ls (.long y :: .long x :: st) sh M J kc ks := by
  intro p e R s m args below meth c H locs WQ arr hC hr hR hS hkc hks hl
  exact lv_ladd hC.1 hC.2.1 hd (k p e R s m args below meth c H locs WQ arr hC hr hR hS hkc hks hl)

theorem xr_lmul {x y : Int64} (hd : decode f.2.1 pc = .ok (.lmul, 1)) (k : x_X l G f d mc ms Q (pc + 1) ls (.long (x * y) :: st) sh M J kc ks) : x_X l G f d mc ms Q pc ls (.long y :: .long x :: st) sh M J kc ks := by
  intro p e R s m args below meth c H locs WQ arr hC hr hR hS hkc hks hl
  exact lv_lmul hC.1 hC.2.1 hd (k p e R s m args below meth c H locs WQ arr hC hr hR hS hkc hks hl)

theorem xr_land {x y : Int64} (hd : decode f.2.1 pc = .ok (.land, 1)) (k : x_X l G f d mc ms Q (pc + 1) ls (.long (x &&& y) :: st) sh M J kc ks) : x_X l G f d mc ms Q pc ls (.long y :: .long x :: st) sh M J kc ks := by
  intro p e R s m args below meth c H locs WQ arr hC hr hR hS hkc hks hl
  exact lv_land hC.1 hC.2.1 hd (k p e R s m args below meth c H locs WQ arr hC hr hR hS hkc hks hl)

theorem xr_lor {x y : Int64} (hd : decode f.2.1 pc = .ok (.lor, 1)) (k : x_X l G f d mc ms Q (pc + 1) ls (.long (x ||| y) :: st) sh M J kc ks) : x_X l G f d mc ms Q pc ls (.long y :: .long x :: st) sh M J kc ks := by
  intro p e R s m args below meth c H locs WQ arr hC hr hR hS hkc hks hl
  exact lv_lor hC.1 hC.2.1 hd (k p e R s m args below meth c H locs WQ arr hC hr hR hS hkc hks hl)

theorem xr_ldiv {x y : Int64} (hd : decode f.2.1 pc = .ok (.ldiv, 1)) (hne : ¬ y = 0) (k : x_X l G f d mc ms Q (pc + 1) ls (.long (x / y) :: st) sh M J kc ks) : x_X l G f d mc ms Q pc ls (.long y :: .long x :: st) sh M J kc ks := by
  intro p e R s m args below meth c H locs WQ arr hC hr hR hS hkc hks hl
  exact lv_ldiv hC.1 hC.2.1 hd hne (k p e R s m args below meth c H locs WQ arr hC hr hR hS hkc hks hl)

theorem xr_lrem {x y : Int64} (hd : decode f.2.1 pc = .ok (.lrem, 1)) (hne : ¬ y = 0) (k : x_X l G f d mc ms Q (pc + 1) ls (.long (x - x / y * y) :: st) sh M J kc ks) : x_X l G f d mc ms Q pc ls (.long y :: .long x :: st) sh M J kc ks := by
  intro p e R s m args below meth c H locs WQ arr hC hr hR hS hkc hks hl
  exact lv_lrem hC.1 hC.2.1 hd hne (k p e R s m args below meth c H locs WQ arr hC hr hR hS hkc hks hl)

theorem xr_i2l {x : Int32} (hd : decode f.2.1 pc = .ok (.i2l, 1)) (k : x_X l G f d mc ms Q (pc + 1) ls (.long x.toInt64 :: st) sh M J kc ks) : x_X l G f d mc ms Q pc ls (.int x :: st) sh M J kc ks := by
  intro p e R s m args below meth c H locs WQ arr hC hr hR hS hkc hks hl
  exact lv_i2l hC.1 hC.2.1 hd rfl (k p e R s m args below meth c H locs WQ arr hC hr hR hS hkc hks hl)

theorem xr_l2i {x : Int64} (hd : decode f.2.1 pc = .ok (.l2i, 1)) (k : x_X l G f d mc ms Q (pc + 1) ls (.int x.toInt32 :: st) sh M J kc ks) : x_X l G f d mc ms Q pc ls (.long x :: st) sh M J kc ks := by
  intro p e R s m args below meth c H locs WQ arr hC hr hR hS hkc hks hl
  exact lv_l2i hC.1 hC.2.1 hd rfl (k p e R s m args below meth c H locs WQ arr hC hr hR hS hkc hks hl)

theorem xr_i2b {x : Int32} (hd : decode f.2.1 pc = .ok (.i2b, 1)) (k : x_X l G f d mc ms Q (pc + 1) ls (.int x.toInt8.toInt32 :: st) sh M J kc ks) : x_X l G f d mc ms Q pc ls (.int x :: st) sh M J kc ks := by
  intro p e R s m args below meth c H locs WQ arr hC hr hR hS hkc hks hl
  exact lv_i2b hC.1 hC.2.1 hd rfl (k p e R s m args below meth c H locs WQ arr hC hr hR hS hkc hks hl)

theorem xr_i2s {x : Int32} (hd : decode f.2.1 pc = .ok (.i2s, 1)) (k : x_X l G f d mc ms Q (pc + 1) ls (.int x.toInt16.toInt32 :: st) sh M J kc ks) : x_X l G f d mc ms Q pc ls (.int x :: st) sh M J kc ks := by
  intro p e R s m args below meth c H locs WQ arr hC hr hR hS hkc hks hl
  exact lv_i2s hC.1 hC.2.1 hd rfl (k p e R s m args below meth c H locs WQ arr hC hr hR hS hkc hks hl)

theorem xr_lcmp {x y : Int64} (hd : decode f.2.1 pc = .ok (.lcmp, 1)) (k : x_X l G f d mc ms Q (pc + 1) ls (.int (lg_cmp x y) :: st) sh M J kc ks) : x_X l G f d mc ms Q pc ls (.long y :: .long x :: st) sh M J kc ks := by
  intro p e R s m args below meth c H locs WQ arr hC hr hR hS hkc hks hl
  exact W.lcmp hC.1 hC.2.1 hd (k p e R s m args below meth c H locs WQ arr hC hr hR hS hkc hks hl)

theorem xr_dup {va : Value} (hd : decode f.2.1 pc = .ok (.dup, 1)) (hva : va.category = 1) (k : x_X l G f d mc ms Q (pc + 1) ls (va :: va :: st) sh M J kc ks) : x_X l G f d mc ms Q pc ls (va :: st) sh M J kc ks := by
  intro p e R s m args below meth c H locs WQ arr hC hr hR hS hkc hks hl
  exact lv_dup hC.1 hC.2.1 hd ((x_rn_cat G va).trans hva) (k p e R s m args below meth c H locs WQ arr hC hr hR hS hkc hks hl)

theorem xr_pop {va : Value} (hd : decode f.2.1 pc = .ok (.pop, 1)) (hva : va.category = 1) (k : x_X l G f d mc ms Q (pc + 1) ls st sh M J kc ks) : x_X l G f d mc ms Q pc ls (va :: st) sh M J kc ks := by
  intro p e R s m args below meth c H locs WQ arr hC hr hR hS hkc hks hl
  exact lv_pop hC.1 hC.2.1 hd ((x_rn_cat G va).trans hva) (k p e R s m args below meth c H locs WQ arr hC hr hR hS hkc hks hl)

theorem xr_dup2 {va vb : Value} (hd : decode f.2.1 pc = .ok (.dup2, 1)) (hva : va.category = 1) (hvb : vb.category = 1) (k : x_X l G f d mc ms Q (pc + 1) ls (va :: vb :: va :: vb :: st) sh M J kc ks) : x_X l G f d mc ms Q pc ls (va :: vb :: st) sh M J kc ks := by
  intro p e R s m args below meth c H locs WQ arr hC hr hR hS hkc hks hl
  exact lv_dup2_11 hC.1 hC.2.1 hd ((x_rn_cat G va).trans hva) ((x_rn_cat G vb).trans hvb) (k p e R s m args below meth c H locs WQ arr hC hr hR hS hkc hks hl)

theorem xr_pop2 {va : Value} (hd : decode f.2.1 pc = .ok (.pop2, 1)) (hva : va.category = 2) (k : x_X l G f d mc ms Q (pc + 1) ls st sh M J kc ks) : x_X l G f d mc ms Q pc ls (va :: st) sh M J kc ks := by
  intro p e R s m args below meth c H locs WQ arr hC hr hR hS hkc hks hl
  exact lv_pop2_2 hC.1 hC.2.1 hd ((x_rn_cat G va).trans hva) (k p e R s m args below meth c H locs WQ arr hC hr hR hS hkc hks hl)

theorem xr_iload_n {q : Fin 4} {x : Int32} (hd : decode f.2.1 pc = .ok (.iload_n q, 1)) (j : Nat) (hj : ls[j]? = some ((q : Nat), .int x)) (k : x_X l G f d mc ms Q (pc + 1) ls (.int x :: st) sh M J kc ks) : x_X l G f d mc ms Q pc ls st sh M J kc ks := by
  intro p e R s m args below meth c H locs WQ arr hC hr hR hS hkc hks hl
  exact lv_iload_n hC.1 hC.2.1 hd rfl (lv_at hl j (x_ls_at hj)) (k p e R s m args below meth c H locs WQ arr hC hr hR hS hkc hks hl)

theorem xr_iload {i : Nat} {x : Int32} (hd : decode f.2.1 pc = .ok (.iload i, 2)) (j : Nat) (hj : ls[j]? = some (i, .int x)) (k : x_X l G f d mc ms Q (pc + 2) ls (.int x :: st) sh M J kc ks) : x_X l G f d mc ms Q pc ls st sh M J kc ks := by
  intro p e R s m args below meth c H locs WQ arr hC hr hR hS hkc hks hl
  exact lv_iload hC.1 hC.2.1 hd (lv_at hl j (x_ls_at hj)) (k p e R s m args below meth c H locs WQ arr hC hr hR hS hkc hks hl)

theorem xr_istore_n {q : Fin 4} {x : Int32} {ls2 : List (Nat × Value)} (hd : decode f.2.1 pc = .ok (.istore_n q, 1)) (hn : (q : Nat) < f.2.2.1) (hls : x_st1 ls q (.int x) = ls2) (k : x_X l G f d mc ms Q (pc + 1) ls2 st sh M J kc ks) : x_X l G f d mc ms Q pc ls (.int x :: st) sh M J kc ks := by
  intro p e R s m args below meth c H locs WQ arr hC hr hR hS hkc hks hl
  exact lv_istore_n (lv' := (ls2).map (x_rl G)) hC.1 hC.2.1 hd rfl hl hn (by rw [← hls]; exact x_st1_rn G ls q (.int x)) (fun arr2 hl2 => k p e R s m args below meth c H locs WQ arr2 hC hr hR hS hkc hks (hl2))

theorem xr_istore {i : Nat} {x : Int32} {ls2 : List (Nat × Value)} (hd : decode f.2.1 pc = .ok (.istore i, 2)) (hn : i < f.2.2.1) (hls : x_st1 ls i (.int x) = ls2) (k : x_X l G f d mc ms Q (pc + 2) ls2 st sh M J kc ks) : x_X l G f d mc ms Q pc ls (.int x :: st) sh M J kc ks := by
  intro p e R s m args below meth c H locs WQ arr hC hr hR hS hkc hks hl
  exact lv_istore (lv' := (ls2).map (x_rl G)) hC.1 hC.2.1 hd hl hn (by rw [← hls]; exact x_st1_rn G ls i (.int x)) (fun arr2 hl2 => k p e R s m args below meth c H locs WQ arr2 hC hr hR hS hkc hks (hl2))

theorem xr_lload_n {q : Fin 4} {x : Int64} (hd : decode f.2.1 pc = .ok (.lload_n q, 1)) (j : Nat) (hj : ls[j]? = some ((q : Nat), .long x)) (k : x_X l G f d mc ms Q (pc + 1) ls (.long x :: st) sh M J kc ks) : x_X l G f d mc ms Q pc ls st sh M J kc ks := by
  intro p e R s m args below meth c H locs WQ arr hC hr hR hS hkc hks hl
  exact lv_lload_n hC.1 hC.2.1 hd rfl (lv_at hl j (x_ls_at hj)) (k p e R s m args below meth c H locs WQ arr hC hr hR hS hkc hks hl)

theorem xr_lload {i : Nat} {x : Int64} (hd : decode f.2.1 pc = .ok (.lload i, 2)) (j : Nat) (hj : ls[j]? = some (i, .long x)) (k : x_X l G f d mc ms Q (pc + 2) ls (.long x :: st) sh M J kc ks) : x_X l G f d mc ms Q pc ls st sh M J kc ks := by
  intro p e R s m args below meth c H locs WQ arr hC hr hR hS hkc hks hl
  exact lv_lload hC.1 hC.2.1 hd (lv_at hl j (x_ls_at hj)) (k p e R s m args below meth c H locs WQ arr hC hr hR hS hkc hks hl)

theorem xr_lstore_n {q : Fin 4} {x : Int64} {ls2 : List (Nat × Value)} (hd : decode f.2.1 pc = .ok (.lstore_n q, 1)) (hn : (q : Nat) + 1 < f.2.2.1) (hls : x_st2 ls q (.long x) = ls2) (k : x_X l G f d mc ms Q (pc + 1) ls2 st sh M J kc ks) : x_X l G f d mc ms Q pc ls (.long x :: st) sh M J kc ks := by
  intro p e R s m args below meth c H locs WQ arr hC hr hR hS hkc hks hl
  exact lv_lstore_n (lv' := (ls2).map (x_rl G)) hC.1 hC.2.1 hd rfl hl hn (by rw [← hls]; exact x_st2_rn G ls q (.long x)) (fun arr2 hl2 => k p e R s m args below meth c H locs WQ arr2 hC hr hR hS hkc hks (hl2))

theorem xr_lstore {i : Nat} {x : Int64} {ls2 : List (Nat × Value)} (hd : decode f.2.1 pc = .ok (.lstore i, 2)) (hn : i + 1 < f.2.2.1) (hls : x_st2 ls i (.long x) = ls2) (k : x_X l G f d mc ms Q (pc + 2) ls2 st sh M J kc ks) : x_X l G f d mc ms Q pc ls (.long x :: st) sh M J kc ks := by
  intro p e R s m args below meth c H locs WQ arr hC hr hR hS hkc hks hl
  exact lv_lstore (lv' := (ls2).map (x_rl G)) hC.1 hC.2.1 hd hl hn (by rw [← hls]; exact x_st2_rn G ls i (.long x)) (fun arr2 hl2 => k p e R s m args below meth c H locs WQ arr2 hC hr hR hS hkc hks (hl2))

theorem xr_aload_n {q : Fin 4} {x : Nat} (hd : decode f.2.1 pc = .ok (.aload_n q, 1)) (j : Nat) (hj : ls[j]? = some ((q : Nat), .ref x)) (k : x_X l G f d mc ms Q (pc + 1) ls (.ref x :: st) sh M J kc ks) : x_X l G f d mc ms Q pc ls st sh M J kc ks := by
  intro p e R s m args below meth c H locs WQ arr hC hr hR hS hkc hks hl
  exact lv_aload_n hC.1 hC.2.1 hd rfl (lv_at hl j (x_ls_at hj)) (k p e R s m args below meth c H locs WQ arr hC hr hR hS hkc hks hl)

theorem xr_aload {i : Nat} {x : Nat} (hd : decode f.2.1 pc = .ok (.aload i, 2)) (j : Nat) (hj : ls[j]? = some (i, .ref x)) (k : x_X l G f d mc ms Q (pc + 2) ls (.ref x :: st) sh M J kc ks) : x_X l G f d mc ms Q pc ls st sh M J kc ks := by
  intro p e R s m args below meth c H locs WQ arr hC hr hR hS hkc hks hl
  exact lv_aload hC.1 hC.2.1 hd (lv_at hl j (x_ls_at hj)) (k p e R s m args below meth c H locs WQ arr hC hr hR hS hkc hks hl)

theorem xr_astore_n {q : Fin 4} {x : Nat} {ls2 : List (Nat × Value)} (hd : decode f.2.1 pc = .ok (.astore_n q, 1)) (hn : (q : Nat) < f.2.2.1) (hls : x_st1 ls q (.ref x) = ls2) (k : x_X l G f d mc ms Q (pc + 1) ls2 st sh M J kc ks) : x_X l G f d mc ms Q pc ls (.ref x :: st) sh M J kc ks := by
  intro p e R s m args below meth c H locs WQ arr hC hr hR hS hkc hks hl
  exact lv_astore_n (lv' := (ls2).map (x_rl G)) hC.1 hC.2.1 hd rfl hl hn (by rw [← hls]; exact x_st1_rn G ls q (.ref x)) (fun arr2 hl2 => k p e R s m args below meth c H locs WQ arr2 hC hr hR hS hkc hks (hl2))

theorem xr_astore {i : Nat} {x : Nat} {ls2 : List (Nat × Value)} (hd : decode f.2.1 pc = .ok (.astore i, 2)) (hn : i < f.2.2.1) (hls : x_st1 ls i (.ref x) = ls2) (k : x_X l G f d mc ms Q (pc + 2) ls2 st sh M J kc ks) : x_X l G f d mc ms Q pc ls (.ref x :: st) sh M J kc ks := by
  intro p e R s m args below meth c H locs WQ arr hC hr hR hS hkc hks hl
  exact lv_astore (lv' := (ls2).map (x_rl G)) hC.1 hC.2.1 hd hl hn (by rw [← hls]; exact x_st1_rn G ls i (.ref x)) (fun arr2 hl2 => k p e R s m args below meth c H locs WQ arr2 hC hr hR hS hkc hks (hl2))

theorem xr_iinc {i : Nat} {n : Int} {x v : Int32} {ls2 : List (Nat × Value)} (hd : decode f.2.1 pc = .ok (.iinc i n, 3)) (j : Nat) (hj : ls[j]? = some (i, .int x)) (hv : x + Int32.ofInt n = v) (hn : i < f.2.2.1) (hls : x_st1 ls i (.int v) = ls2) (k : x_X l G f d mc ms Q (pc + 3) ls2 st sh M J kc ks) : x_X l G f d mc ms Q pc ls st sh M J kc ks := by
  intro p e R s m args below meth c H locs WQ arr hC hr hR hS hkc hks hl
  exact lv_iinc (lv' := (ls2).map (x_rl G)) hC.1 hC.2.1 hd hl (k := j) (x_ls_at hj) hv hn (by rw [← hls]; exact x_st1_rn G ls i (.int v)) (fun arr2 hl2 => k p e R s m args below meth c H locs WQ arr2 hC hr hR hS hkc hks (hl2))

theorem xr_if_eq {x : Int32} {off : Int} {tgt : Nat} (hd : decode f.2.1 pc = .ok (.ifCond .eq off, 3)) (ht : (pc : Int) + off = (tgt : Int)) (kt : x = 0 → x_X l G f d mc ms Q tgt ls st sh M J kc ks) (kf : ¬ x = 0 → x_X l G f d mc ms Q (pc + 3) ls st sh M J kc ks) : x_X l G f d mc ms Q pc ls (.int x :: st) sh M J kc ks := by
  intro p e R s m args below meth c H locs WQ arr hC hr hR hS hkc hks hl
  exact lv_if_eq hC.1 hC.2.1 hd ht (fun h => kt h p e R s m args below meth c H locs WQ arr hC hr hR hS hkc hks hl) (fun h => kf h p e R s m args below meth c H locs WQ arr hC hr hR hS hkc hks hl)

theorem xr_icmp_eq {x y : Int32} {off : Int} {tgt : Nat} (hd : decode f.2.1 pc = .ok (.if_icmp .eq off, 3)) (ht : (pc : Int) + off = (tgt : Int)) (kt : x = y → x_X l G f d mc ms Q tgt ls st sh M J kc ks) (kf : ¬ x = y → x_X l G f d mc ms Q (pc + 3) ls st sh M J kc ks) : x_X l G f d mc ms Q pc ls (.int y :: .int x :: st) sh M J kc ks := by
  intro p e R s m args below meth c H locs WQ arr hC hr hR hS hkc hks hl
  exact lv_icmp_eq hC.1 hC.2.1 hd ht (fun h => kt h p e R s m args below meth c H locs WQ arr hC hr hR hS hkc hks hl) (fun h => kf h p e R s m args below meth c H locs WQ arr hC hr hR hS hkc hks hl)

theorem xr_if_ne {x : Int32} {off : Int} {tgt : Nat} (hd : decode f.2.1 pc = .ok (.ifCond .ne off, 3)) (ht : (pc : Int) + off = (tgt : Int)) (kt : ¬ x = 0 → x_X l G f d mc ms Q tgt ls st sh M J kc ks) (kf : x = 0 → x_X l G f d mc ms Q (pc + 3) ls st sh M J kc ks) : x_X l G f d mc ms Q pc ls (.int x :: st) sh M J kc ks := by
  intro p e R s m args below meth c H locs WQ arr hC hr hR hS hkc hks hl
  exact lv_if_ne hC.1 hC.2.1 hd ht (fun h => kt h p e R s m args below meth c H locs WQ arr hC hr hR hS hkc hks hl) (fun h => kf h p e R s m args below meth c H locs WQ arr hC hr hR hS hkc hks hl)

theorem xr_icmp_ne {x y : Int32} {off : Int} {tgt : Nat} (hd : decode f.2.1 pc = .ok (.if_icmp .ne off, 3)) (ht : (pc : Int) + off = (tgt : Int)) (kt : ¬ x = y → x_X l G f d mc ms Q tgt ls st sh M J kc ks) (kf : x = y → x_X l G f d mc ms Q (pc + 3) ls st sh M J kc ks) : x_X l G f d mc ms Q pc ls (.int y :: .int x :: st) sh M J kc ks := by
  intro p e R s m args below meth c H locs WQ arr hC hr hR hS hkc hks hl
  exact lv_icmp_ne hC.1 hC.2.1 hd ht (fun h => kt h p e R s m args below meth c H locs WQ arr hC hr hR hS hkc hks hl) (fun h => kf h p e R s m args below meth c H locs WQ arr hC hr hR hS hkc hks hl)

theorem xr_if_lt {x : Int32} {off : Int} {tgt : Nat} (hd : decode f.2.1 pc = .ok (.ifCond .lt off, 3)) (ht : (pc : Int) + off = (tgt : Int)) (kt : x < 0 → x_X l G f d mc ms Q tgt ls st sh M J kc ks) (kf : ¬ x < 0 → x_X l G f d mc ms Q (pc + 3) ls st sh M J kc ks) : x_X l G f d mc ms Q pc ls (.int x :: st) sh M J kc ks := by
  intro p e R s m args below meth c H locs WQ arr hC hr hR hS hkc hks hl
  exact lv_if_lt hC.1 hC.2.1 hd ht (fun h => kt h p e R s m args below meth c H locs WQ arr hC hr hR hS hkc hks hl) (fun h => kf h p e R s m args below meth c H locs WQ arr hC hr hR hS hkc hks hl)

theorem xr_icmp_lt {x y : Int32} {off : Int} {tgt : Nat} (hd : decode f.2.1 pc = .ok (.if_icmp .lt off, 3)) (ht : (pc : Int) + off = (tgt : Int)) (kt : x < y → x_X l G f d mc ms Q tgt ls st sh M J kc ks) (kf : ¬ x < y → x_X l G f d mc ms Q (pc + 3) ls st sh M J kc ks) : x_X l G f d mc ms Q pc ls (.int y :: .int x :: st) sh M J kc ks := by
  intro p e R s m args below meth c H locs WQ arr hC hr hR hS hkc hks hl
  exact lv_icmp_lt hC.1 hC.2.1 hd ht (fun h => kt h p e R s m args below meth c H locs WQ arr hC hr hR hS hkc hks hl) (fun h => kf h p e R s m args below meth c H locs WQ arr hC hr hR hS hkc hks hl)

theorem xr_if_ge {x : Int32} {off : Int} {tgt : Nat} (hd : decode f.2.1 pc = .ok (.ifCond .ge off, 3)) (ht : (pc : Int) + off = (tgt : Int)) (kt : 0 ≤ x → x_X l G f d mc ms Q tgt ls st sh M J kc ks) (kf : ¬ 0 ≤ x → x_X l G f d mc ms Q (pc + 3) ls st sh M J kc ks) : x_X l G f d mc ms Q pc ls (.int x :: st) sh M J kc ks := by
  intro p e R s m args below meth c H locs WQ arr hC hr hR hS hkc hks hl
  exact lv_if_ge hC.1 hC.2.1 hd ht (fun h => kt h p e R s m args below meth c H locs WQ arr hC hr hR hS hkc hks hl) (fun h => kf h p e R s m args below meth c H locs WQ arr hC hr hR hS hkc hks hl)

theorem xr_icmp_ge {x y : Int32} {off : Int} {tgt : Nat} (hd : decode f.2.1 pc = .ok (.if_icmp .ge off, 3)) (ht : (pc : Int) + off = (tgt : Int)) (kt : y ≤ x → x_X l G f d mc ms Q tgt ls st sh M J kc ks) (kf : ¬ y ≤ x → x_X l G f d mc ms Q (pc + 3) ls st sh M J kc ks) : x_X l G f d mc ms Q pc ls (.int y :: .int x :: st) sh M J kc ks := by
  intro p e R s m args below meth c H locs WQ arr hC hr hR hS hkc hks hl
  exact lv_icmp_ge hC.1 hC.2.1 hd ht (fun h => kt h p e R s m args below meth c H locs WQ arr hC hr hR hS hkc hks hl) (fun h => kf h p e R s m args below meth c H locs WQ arr hC hr hR hS hkc hks hl)

theorem xr_if_gt {x : Int32} {off : Int} {tgt : Nat} (hd : decode f.2.1 pc = .ok (.ifCond .gt off, 3)) (ht : (pc : Int) + off = (tgt : Int)) (kt : 0 < x → x_X l G f d mc ms Q tgt ls st sh M J kc ks) (kf : ¬ 0 < x → x_X l G f d mc ms Q (pc + 3) ls st sh M J kc ks) : x_X l G f d mc ms Q pc ls (.int x :: st) sh M J kc ks := by
  intro p e R s m args below meth c H locs WQ arr hC hr hR hS hkc hks hl
  exact lv_if_gt hC.1 hC.2.1 hd ht (fun h => kt h p e R s m args below meth c H locs WQ arr hC hr hR hS hkc hks hl) (fun h => kf h p e R s m args below meth c H locs WQ arr hC hr hR hS hkc hks hl)

theorem xr_icmp_gt {x y : Int32} {off : Int} {tgt : Nat} (hd : decode f.2.1 pc = .ok (.if_icmp .gt off, 3)) (ht : (pc : Int) + off = (tgt : Int)) (kt : y < x → x_X l G f d mc ms Q tgt ls st sh M J kc ks) (kf : ¬ y < x → x_X l G f d mc ms Q (pc + 3) ls st sh M J kc ks) : x_X l G f d mc ms Q pc ls (.int y :: .int x :: st) sh M J kc ks := by
  intro p e R s m args below meth c H locs WQ arr hC hr hR hS hkc hks hl
  exact lv_icmp_gt hC.1 hC.2.1 hd ht (fun h => kt h p e R s m args below meth c H locs WQ arr hC hr hR hS hkc hks hl) (fun h => kf h p e R s m args below meth c H locs WQ arr hC hr hR hS hkc hks hl)

theorem xr_if_le {x : Int32} {off : Int} {tgt : Nat} (hd : decode f.2.1 pc = .ok (.ifCond .le off, 3)) (ht : (pc : Int) + off = (tgt : Int)) (kt : x ≤ 0 → x_X l G f d mc ms Q tgt ls st sh M J kc ks) (kf : ¬ x ≤ 0 → x_X l G f d mc ms Q (pc + 3) ls st sh M J kc ks) : x_X l G f d mc ms Q pc ls (.int x :: st) sh M J kc ks := by
  intro p e R s m args below meth c H locs WQ arr hC hr hR hS hkc hks hl
  exact lv_if_le hC.1 hC.2.1 hd ht (fun h => kt h p e R s m args below meth c H locs WQ arr hC hr hR hS hkc hks hl) (fun h => kf h p e R s m args below meth c H locs WQ arr hC hr hR hS hkc hks hl)

theorem xr_icmp_le {x y : Int32} {off : Int} {tgt : Nat} (hd : decode f.2.1 pc = .ok (.if_icmp .le off, 3)) (ht : (pc : Int) + off = (tgt : Int)) (kt : x ≤ y → x_X l G f d mc ms Q tgt ls st sh M J kc ks) (kf : ¬ x ≤ y → x_X l G f d mc ms Q (pc + 3) ls st sh M J kc ks) : x_X l G f d mc ms Q pc ls (.int y :: .int x :: st) sh M J kc ks := by
  intro p e R s m args below meth c H locs WQ arr hC hr hR hS hkc hks hl
  exact lv_icmp_le hC.1 hC.2.1 hd ht (fun h => kt h p e R s m args below meth c H locs WQ arr hC hr hR hS hkc hks hl) (fun h => kf h p e R s m args below meth c H locs WQ arr hC hr hR hS hkc hks hl)

theorem xr_goto {off : Int} {tgt : Nat} (hd : decode f.2.1 pc = .ok (.goto off, 3)) (ht : (pc : Int) + off = (tgt : Int)) (k : x_X l G f d mc ms Q tgt ls st sh M J kc ks) : x_X l G f d mc ms Q pc ls st sh M J kc ks := by
  intro p e R s m args below meth c H locs WQ arr hC hr hR hS hkc hks hl
  exact lv_goto hC.1 hC.2.1 hd ht (k p e R s m args below meth c H locs WQ arr hC hr hR hS hkc hks hl)

theorem xr_tableOut {dflt lo hi : Int} {offs : Array Int} {len : Nat} {x : Int32} {tgt : Nat} (hd : decode f.2.1 pc = .ok (.tableswitch dflt lo hi offs, len)) (h : x.toInt < lo ∨ hi < x.toInt) (ht : (pc : Int) + dflt = (tgt : Int)) (k : x_X l G f d mc ms Q tgt ls st sh M J kc ks) : x_X l G f d mc ms Q pc ls (.int x :: st) sh M J kc ks := by
  intro p e R s m args below meth c H locs WQ arr hC hr hR hS hkc hks hl
  exact lv_tableOut hC.1 hC.2.1 hd h ht (k p e R s m args below meth c H locs WQ arr hC hr hR hS hkc hks hl)

theorem xr_tableIn {dflt lo hi : Int} {offs : Array Int} {len : Nat} {x : Int32} {off : Int} {tgt : Nat} (hd : decode f.2.1 pc = .ok (.tableswitch dflt lo hi offs, len)) (h1 : ¬ x.toInt < lo) (h2 : ¬ hi < x.toInt) (ho : offs[(x.toInt - lo).toNat]? = some off) (ht : (pc : Int) + off = (tgt : Int)) (k : x_X l G f d mc ms Q tgt ls st sh M J kc ks) : x_X l G f d mc ms Q pc ls (.int x :: st) sh M J kc ks := by
  intro p e R s m args below meth c H locs WQ arr hC hr hR hS hkc hks hl
  exact lv_tableIn hC.1 hC.2.1 hd h1 h2 ho ht (k p e R s m args below meth c H locs WQ arr hC hr hR hS hkc hks hl)

theorem xr_lookup {dflt : Int} {ps : Array (Int × Int)} {len : Nat} {x : Int32} {off : Int} {tgt : Nat} (hd : decode f.2.1 pc = .ok (.lookupswitch dflt ps, len)) (hp : (ps.toList.zip (ps.toList.drop 1)).all (fun (a, next) => a.1 < next.1) = true) (ho : Op.lookupswitch.offset ps.toList dflt x.toInt = off) (ht : (pc : Int) + off = (tgt : Int)) (k : x_X l G f d mc ms Q tgt ls st sh M J kc ks) : x_X l G f d mc ms Q pc ls (.int x :: st) sh M J kc ks := by
  intro p e R s m args below meth c H locs WQ arr hC hr hR hS hkc hks hl
  exact lv_lookup hC.1 hC.2.1 hd hp ho ht (k p e R s m args below meth c H locs WQ arr hC hr hR hS hkc hks hl)

theorem xr_ldc {i : Nat} {v : Int32} (hc : Cond.constant f.1.cls i v ∈ xU) (hd : decode f.2.1 pc = .ok (.ldc i, 2)) (k : x_X l G f d mc ms Q (pc + 2) ls (.int v :: st) sh M J kc ks) : x_X l G f d mc ms Q pc ls st sh M J kc ks := by
  intro p e R s m args below meth c H locs WQ arr hC hr hR hS hkc hks hl
  exact lv_ldc hC.1 hC.2.1 hC.2.2.2.2.1 (hC.2.2.2.2.2.1 _ hc) hd (k p e R s m args below meth c H locs WQ arr hC hr hR hS hkc hks hl)

theorem xr_ldcw {i : Nat} {v : Int32} (hc : Cond.constant f.1.cls i v ∈ xU) (hd : decode f.2.1 pc = .ok (.ldc_w i, 3)) (k : x_X l G f d mc ms Q (pc + 3) ls (.int v :: st) sh M J kc ks) : x_X l G f d mc ms Q pc ls st sh M J kc ks := by
  intro p e R s m args below meth c H locs WQ arr hC hr hR hS hkc hks hl
  exact lv_ldcw hC.1 hC.2.1 hC.2.2.2.2.1 (hC.2.2.2.2.2.1 _ hc) hd (k p e R s m args below meth c H locs WQ arr hC hr hR hS hkc hks hl)

theorem xr_ldc2 {i : Nat} {v : Int64} (hc : Cond.constantLong f.1.cls i v ∈ xU) (hd : decode f.2.1 pc = .ok (.ldc2_w i, 3)) (k : x_X l G f d mc ms Q (pc + 3) ls (.long v :: st) sh M J kc ks) : x_X l G f d mc ms Q pc ls st sh M J kc ks := by
  intro p e R s m args below meth c H locs WQ arr hC hr hR hS hkc hks hl
  exact lv_ldc2 hC.1 hC.2.1 hC.2.2.2.2.1 (hC.2.2.2.2.2.1 _ hc) hd (k p e R s m args below meth c H locs WQ arr hC hr hR hS hkc hks hl)

theorem xr_getR {idx ci kf a q : Nat} {fs : List (Option (Option Nat))} (fl : x_FL f.1.cls idx ci kf) (hd : decode f.2.1 pc = .ok (.getfield idx, 3)) (hs : sh[a]? = some (.inl (ci, fs))) (hk : fs[kf]? = some (some (some q))) (k : x_X l G f d mc ms Q (pc + 3) ls (.ref q :: st) sh M J kc ks) : x_X l G f d mc ms Q pc ls (.ref a :: st) sh M J kc ks := by
  intro p e R s m args below meth c H locs WQ arr hC hr hR hS hkc hks hl
  obtain ⟨C, T, N, h1, h2, h3, h4⟩ := fl
  exact va_get hC.1 hC.2.1 hC.2.2.2.2.2.1 h3 hC.2.2.2.2.1 hC.2.2.2.2.2.2.1 hR.1 a (x_w_get hs) h1 kf h2 (hC.2.2.2.2.2.1 _ h4) (fun _ h => h) (x_fs_getR hk) hd (k p e R s m args below meth c H locs WQ arr hC hr hR hS hkc hks hl)
theorem xr_getI {idx ci kf a : Nat} {fs : List (Option (Option Nat))} (fl : x_FL f.1.cls idx ci kf) (hd : decode f.2.1 pc = .ok (.getfield idx, 3)) (hs : sh[a]? = some (.inl (ci, fs))) (hk : fs[kf]? = some none) (k : x_X l G f d mc ms Q (pc + 3) ls (.int (M a kf) :: st) sh M J kc ks) : x_X l G f d mc ms Q pc ls (.ref a :: st) sh M J kc ks := by
  intro p e R s m args below meth c H locs WQ arr hC hr hR hS hkc hks hl
  obtain ⟨C, T, N, h1, h2, h3, h4⟩ := fl
  exact va_get hC.1 hC.2.1 hC.2.2.2.2.2.1 h3 hC.2.2.2.2.1 hC.2.2.2.2.2.2.1 hR.1 a (x_w_get hs) h1 kf h2 (hC.2.2.2.2.2.1 _ h4) (fun _ h => h) (x_fs_get hk) hd (k p e R s m args below meth c H locs WQ arr hC hr hR hS hkc hks hl)
theorem x_putW {fin : Bool} {idx ci kf a : Nat} {ty : FieldType} {v : Value} {fs : List (Option (Option Nat))} {p : Program} {e : Env} {R : Room} {s : State} {m : MethodId} {args : Array Value} {below : List Frame} {meth : Method} {c : Code} {H : Heap} {locs : List Loc} {WQ : State → Prop} {arr : Array Slot} {rest : List Value}
    (fl : x_FP f.1.cls idx ci kf fin ty) (hfi : fin = true → f.1.name = "<init>") (hd : decode f.2.1 pc = .ok (.putfield idx, 3)) (hs : sh[a]? = some (.inl (ci, fs))) (hk : kf < fs.length) (hn : narrow ty v = v) (hf : fits ty v = true) (hC : x_C G f d mc ms p R s m args meth c) (hR : x_R G sh M J H) (hS : va_S (x_A G) s.heap H locs)
    (k : ∀ (H1 : Heap) (locs1 : List Loc), va_P G.1 vwCl ((x_w G sh M J).set a (x_ad G a, .inr (ci, (x_fs G M a fs).set kf v))) H1 → H1.size = H.size → va_S (x_A G) s.heap H1 locs1 → W p l e R s m args below meth c H1 locs1 kc ks WQ (F0 m (pc + 3) arr rest)) : W p l e R s m args below meth c H locs kc ks WQ (F0 m pc arr (v :: .ref (x_ad G a) :: rest)) := by
  obtain ⟨C, T, N, ty0, h1, h2, h3, h4, h5, h6, h7, h8, h9⟩ := fl
  have hts := hC.2.2.2.2.2.1
  have hK : va_K G.1 vwCl (x_ty G) s := hC.2.2.2.2.2.2.1
  have hD : va_D (x_A G) (x_w G sh M J) := x_D hR.2.2
  have he : (x_w G sh M J)[a]? = some (x_ad G a, .inr (ci, x_fs G M a fs)) := x_w_get hs
  have hap := va_apart (own := C) hts h3 ty0 h5 h6 hK h1
  obtain ⟨r, g1, cell, q1, q2, q3, q4⟩ := hR.1 a _ he
  cases g1.symm.trans h1
  obtain ⟨hSl, hfc, kC, hkC, hkind⟩ := hK.1 ci _ h1
  obtain ⟨cf, kk2, fi, fd, hi, hsl⟩ := hSl kf h2
  have hlay := hts _ (h3 _ (u_in_lay h2))
  have hst := (u_facts hfc hkC (u_lays hts h3 h2) hi).1
  have hl : kf < (x_fs G M a fs).length := by rw [x_fs_len]; exact hk
  have done : ∀ (H' : Heap) (locs' : List Loc), H'[x_ad G a]? = some (cell.setSlot (G.1.2 ci kf) v) → H'.size = H.size → (∀ q, q ≠ x_ad G a → H'[q]? = H[q]?) → va_S (x_A G) s.heap H' locs' → W p l e R s m args below meth c H' locs' kc ks WQ (F0 m (pc + 3) arr rest) := fun H' locs' e1 e2 e3 hS1 =>
    k H' _ (hR.1.set hD he ⟨_, h1, t_OB.to (V := updV (vp_V (x_fs G M a fs)) kf v) ⟨_, e1, q2, q3, t_set q4 hap h2 v⟩ (fun j _ => vp_updV_set hl v j)⟩ e3) e2 hS1
  unfold u_lay at hlay
  cases fin with
  | false =>
    rw [if_neg (by rw [h7]; decide)] at hlay
    have h10 := u_store hfc hkC hkind hlay hi h8 hn hf
    refine W.putK hC.1 hC.2.1 (f := fd) ⟨hC.2.2.2.2.1, hts _ h4, ⟨_, _, _, hi⟩, hst⟩ (by rw [q2]; exact h10) q1 q3 (by rw [hsl]; exact k2_hasslot (q4 kf h2)) rfl rfl hd fun H' e1 e2 e3 => ?_
    rw [hsl] at e1 ⊢
    exact done H' _ e1 e2 e3 (hS.put e2 e3 (hD.2 a _ he))
  | true =>
    rw [if_pos h7] at hlay
    have hcf : m.cls = cf := by
      obtain ⟨_, _, c', _, _, _, -, -, hf', -, -, -, hown2, -⟩ := Cond.laysFinal_spec hlay
      have z := hi.symm.trans hf'
      simp at z
      rw [h9 rfl] at hown2
      rw [z.1]
      exact Option.some.inj (hC.2.2.2.2.1.symm.trans hown2)
    have h10 := u_fits hfc hkC hkind (Or.inr hlay) hi h8 hn hf
    refine W.putFinK hC.1 hC.2.1 hC.2.2.2.2.1 (hts _ h4) hi hst hcf (hC.2.2.2.2.2.2.2.2.2.2.1 (hfi rfl)) (by rw [q2]; exact h10) q1 q3 (by rw [hsl]; exact k2_hasslot (q4 kf h2)) rfl rfl hd fun H' e1 e2 e3 => ?_
    rw [hsl] at e1 ⊢
    exact done H' _ e1 e2 e3 (hS.put e2 e3 (hD.2 a _ he))
theorem xr_putI {idx ci kf a : Nat} {ty : FieldType} {v : Int32} {fs : List (Option (Option Nat))} (fl : x_FP f.1.cls idx ci kf false ty) (hd : decode f.2.1 pc = .ok (.putfield idx, 3)) (hs : sh[a]? = some (.inl (ci, fs))) (hk : fs[kf]? = some none) (hn : narrow ty (.int v) = .int v) (hf : fits ty (.int v) = true) (k : x_X l G f d mc ms Q (pc + 3) ls st sh (x_up M a kf v) J kc ks) : x_X l G f d mc ms Q pc ls (.int v :: .ref a :: st) sh M J kc ks := by
  intro p e R s m args below meth c H locs WQ arr hC hr hR hS hkc hks hl
  refine x_putW (v := .int v) fl (fun h => by cases h) hd hs (List.getElem?_eq_some_iff.mp hk).1 hn hf hC hR hS (fun H1 locs1 hP hz hS1 => ?_)
  rw [x_fs_set hk] at hP
  have hP2 := hP
  rw [show (x_w G sh M J).set a (x_ad G a, .inr (ci, x_fs G (x_up M a kf v) a fs)) = x_w G sh (x_up M a kf v) J from (x_w_set (M' := x_up M a kf v) (J' := J) (.inl (ci, fs)) hs (fun i hi => x_up_n M kf v hi) (fun _ _ => rfl)).trans (by rw [x_sh_set hs])] at hP2
  exact k p e R s m args below meth c H1 locs1 WQ arr hC hr ⟨hP2, fun h => by rw [hz]; exact hR.2.1 h, hR.2.2⟩ hS1 hkc hks hl
theorem xr_putR {idx ci kf a q : Nat} {ty : FieldType} {o : Option (Option Nat)} {fs : List (Option (Option Nat))} (fl : x_FP f.1.cls idx ci kf true ty) (hfi : f.1.name = "<init>") (hd : decode f.2.1 pc = .ok (.putfield idx, 3)) (hs : sh[a]? = some (.inl (ci, fs))) (hk : fs[kf]? = some o) (hn : ∀ q, narrow ty (.ref q) = .ref q) (hf : ∀ q, fits ty (.ref q) = true) (k : x_X l G f d mc ms Q (pc + 3) ls st (sh.set a (.inl (ci, fs.set kf (some (some q))))) M J kc ks) : x_X l G f d mc ms Q pc ls (.ref q :: .ref a :: st) sh M J kc ks := by
  intro p e R s m args below meth c H locs WQ arr hC hr hR hS hkc hks hl
  refine x_putW (v := .ref (x_ad G q)) fl (fun _ => hfi) hd hs (List.getElem?_eq_some_iff.mp hk).1 (hn _) (hf _) hC hR hS (fun H1 locs1 hP hz hS1 => ?_)
  rw [x_fs_setR hk] at hP
  have hP2 := hP
  rw [show (x_w G sh M J).set a (x_ad G a, .inr (ci, x_fs G M a (fs.set kf (some (some q))))) = x_w G (sh.set a (.inl (ci, fs.set kf (some (some q))))) M J from x_w_set (M' := M) (J' := J) (.inl (ci, fs.set kf (some (some q)))) hs (fun _ _ => rfl) (fun _ _ => rfl)] at hP2
  exact k p e R s m args below meth c H1 locs1 WQ arr hC hr ⟨hP2, fun h => by rw [hz, List.length_set]; exact hR.2.1 (by rw [List.length_set] at h; exact h), by rw [List.length_set]; exact hR.2.2⟩ hS1 hkc hks hl
/-! arrays -/
theorem xr_iald {a n : Nat} {g : Nat → Option Nat} {i : Int32} (hd : decode f.2.1 pc = .ok (.iaload, 1)) (hs : sh[a]? = some (.inr (0, n, g))) (hin : vp_in i n) (k : x_X l G f d mc ms Q (pc + 1) ls (.int (M a i.toNatClampNeg) :: st) sh M J kc ks) : x_X l G f d mc ms Q pc ls (.int i :: .ref a :: st) sh M J kc ks := by
  intro p e R s m args below meth c H locs WQ arr hC hr hR hS hkc hks hl
  exact va_iald hC.1 hC.2.1 hC.2.2.2.2.2.2.1 hR.1 a 0 (x_w_get hs) rfl hin hd (k p e R s m args below meth c H locs WQ arr hC hr hR hS hkc hks hl)
theorem xr_zald {a n : Nat} {g : Nat → Option Nat} {i : Int32} (hd : decode f.2.1 pc = .ok (.baload, 1)) (hs : sh[a]? = some (.inr (1, n, g))) (hin : vp_in i n) (k : x_X l G f d mc ms Q (pc + 1) ls (.int (M a i.toNatClampNeg) :: st) sh M J kc ks) : x_X l G f d mc ms Q pc ls (.int i :: .ref a :: st) sh M J kc ks := by
  intro p e R s m args below meth c H locs WQ arr hC hr hR hS hkc hks hl
  exact va_zald hC.1 hC.2.1 hC.2.2.2.2.2.2.1 hR.1 a 1 (x_w_get hs) rfl hin hd (k p e R s m args below meth c H locs WQ arr hC hr hR hS hkc hks hl)
theorem xr_lald {a n : Nat} {g : Nat → Option Nat} {i : Int32} (hd : decode f.2.1 pc = .ok (.laload, 1)) (hs : sh[a]? = some (.inr (2, n, g))) (hin : vp_in i n) (k : x_X l G f d mc ms Q (pc + 1) ls (.long (J a i.toNatClampNeg) :: st) sh M J kc ks) : x_X l G f d mc ms Q pc ls (.int i :: .ref a :: st) sh M J kc ks := by
  intro p e R s m args below meth c H locs WQ arr hC hr hR hS hkc hks hl
  exact va_lald hC.1 hC.2.1 hC.2.2.2.2.2.2.1 hR.1 a 2 (x_w_get hs) rfl hin hd (k p e R s m args below meth c H locs WQ arr hC hr hR hS hkc hks hl)
theorem xr_aald {a n t q : Nat} {g : Nat → Option Nat} {i : Int32} (ht : t = 3 ∨ t = 4) (hd : decode f.2.1 pc = .ok (.aaload, 1)) (hs : sh[a]? = some (.inr (t, n, g))) (hin : vp_in i n) (hg : g i.toNatClampNeg = some q) (k : x_X l G f d mc ms Q (pc + 1) ls (.ref q :: st) sh M J kc ks) : x_X l G f d mc ms Q pc ls (.int i :: .ref a :: st) sh M J kc ks := by
  intro p e R s m args below meth c H locs WQ arr hC hr hR hS hkc hks hl
  have hk := k p e R s m args below meth c H locs WQ arr hC hr hR hS hkc hks hl
  have key : va_rf ((fun i => (g i).map (x_ad G)) i.toNatClampNeg) = .ref (x_ad G q) := by show va_rf ((g i.toNatClampNeg).map (x_ad G)) = _; rw [hg]; rfl
  rcases ht with rfl | rfl
  · exact va_aldq hC.1 hC.2.1 hC.2.2.2.2.2.2.1 hR.1 a 3 (C := RX2) (x_w_get hs) rfl hin hd (by rw [key]; exact hk)
  · exact va_aldq hC.1 hC.2.1 hC.2.2.2.2.2.2.1 hR.1 a 4 (C := RX6) (x_w_get hs) rfl hin hd (by rw [key]; exact hk)
theorem x_stored {a : Nat} {e2 : xS} {M2 : xM} {J2 : xJ} {H H1 : Heap} (hR : x_R G sh M J H) (hs : sh[a]? = some e2) (hM : ∀ i, i ≠ a → M2 i = M i) (hJ : ∀ i, i ≠ a → J2 i = J i) (e' : xS) (hc : va_at G.1 vwCl (x_ad G a, x_e G M2 J2 a e') H1) (z : H1.size = H.size) (oq : ∀ q, q ≠ x_ad G a → H1[q]? = H[q]?) : x_R G (sh.set a e') M2 J2 H1 := by
  refine ⟨?_, fun h => by rw [z, List.length_set]; exact hR.2.1 (by rw [List.length_set] at h; exact h), by rw [List.length_set]; exact hR.2.2⟩
  rw [← x_w_set (M := M) (J := J) e' hs hM hJ]
  exact hR.1.set (x_D hR.2.2) (x_w_get hs) hc oq
theorem xr_iast {a n : Nat} {g : Nat → Option Nat} {i v : Int32} (hd : decode f.2.1 pc = .ok (.iastore, 1)) (hs : sh[a]? = some (.inr (0, n, g))) (hin : vp_in i n) (k : x_X l G f d mc ms Q (pc + 1) ls st sh (x_up M a i.toNatClampNeg v) J kc ks) : x_X l G f d mc ms Q pc ls (.int v :: .int i :: .ref a :: st) sh M J kc ks := by
  intro p e R s m args below meth c H locs WQ arr hC hr hR hS hkc hks hl
  have hD := x_D (G := G) (M := M) (J := J) hR.2.2
  have hK : va_K G.1 vwCl (x_ty G) s := hC.2.2.2.2.2.2.1
  have ha : (x_w G sh M J)[a]? = some (x_ad G a, .inl (G.2.1 0, n, .inl (M a))) := x_w_get hs
  refine W.iast hC.1 hC.2.1 (hR.1 a _ ha) ((hK.2 0 _ rfl).1 n (fun j => .int (M a j))) (fun q => by cases q) (by show ¬ (i < 0 ∨ (arrV _ _ _).slots.size ≤ _); rw [arrV_size]; exact hin) rfl rfl hd fun H1 e z oq => ?_
  have hR2 := x_stored (J2 := J) hR hs (fun j hj => x_up_n M i.toNatClampNeg v hj) (fun _ _ => rfl) (.inr (0, n, g)) (H1 := H1) (by
    show H1[x_ad G a]? = some (vp_cell (G.2.1 0) (n, .inl (x_up M a i.toNatClampNeg v a)))
    rw [e, vp_cell_i, vp_cell_i, arrV_store, x_up_r]
    congr 2
    funext q
    by_cases hq : q = i.toNatClampNeg
    · subst hq; simp [updV, upd]
    · simp [updV, upd, hq]) z oq
  rw [x_sh_set hs] at hR2
  exact k p _ R s m args below meth c H1 _ WQ arr hC hr hR2 (hS.put z oq (hD.2 a _ ha)) hkc hks hl
theorem xr_zast {a n : Nat} {g : Nat → Option Nat} {i v w : Int32} (hd : decode f.2.1 pc = .ok (.bastore, 1)) (hs : sh[a]? = some (.inr (1, n, g))) (hin : vp_in i n) (hw : vp_nar .boolean v = w) (k : x_X l G f d mc ms Q (pc + 1) ls st sh (x_up M a i.toNatClampNeg w) J kc ks) : x_X l G f d mc ms Q pc ls (.int v :: .int i :: .ref a :: st) sh M J kc ks := by
  intro p e R s m args below meth c H locs WQ arr hC hr hR hS hkc hks hl
  subst hw
  have hD := x_D (G := G) (M := M) (J := J) hR.2.2
  have hK : va_K G.1 vwCl (x_ty G) s := hC.2.2.2.2.2.2.1
  have ha : (x_w G sh M J)[a]? = some (x_ad G a, .inl (G.2.1 1, n, .inl (M a))) := x_w_get hs
  refine W.zast hC.1 hC.2.1 (hR.1 a _ ha) ((hK.2 1 _ rfl).1 n (fun j => .int (M a j))) (fun q => by cases q) (by show ¬ (i < 0 ∨ (arrV _ _ _).slots.size ≤ _); rw [arrV_size]; exact hin) rfl rfl hd fun H1 e z oq => ?_
  have hR2 := x_stored (J2 := J) hR hs (fun j hj => x_up_n M i.toNatClampNeg (vp_nar .boolean v) hj) (fun _ _ => rfl) (.inr (1, n, g)) (H1 := H1) (by
    show H1[x_ad G a]? = some (vp_cell (G.2.1 1) (n, .inl (x_up M a i.toNatClampNeg (vp_nar .boolean v) a)))
    rw [e, vp_cell_i, vp_cell_i, arrV_store, x_up_r]
    congr 2
    funext q
    by_cases hq : q = i.toNatClampNeg
    · subst hq
      simp [updV, upd, vp_nar]
      try rfl
    · simp [updV, upd, hq]) z oq
  rw [x_sh_set hs] at hR2
  exact k p _ R s m args below meth c H1 _ WQ arr hC hr hR2 (hS.put z oq (hD.2 a _ ha)) hkc hks hl
theorem xr_last {a n : Nat} {g : Nat → Option Nat} {i : Int32} {v : Int64} (hd : decode f.2.1 pc = .ok (.lastore, 1)) (hs : sh[a]? = some (.inr (2, n, g))) (hin : vp_in i n) (k : x_X l G f d mc ms Q (pc + 1) ls st sh M (x_upJ J a i.toNatClampNeg v) kc ks) : x_X l G f d mc ms Q pc ls (.long v :: .int i :: .ref a :: st) sh M J kc ks := by
  intro p e R s m args below meth c H locs WQ arr hC hr hR hS hkc hks hl
  have hD := x_D (G := G) (M := M) (J := J) hR.2.2
  have hK : va_K G.1 vwCl (x_ty G) s := hC.2.2.2.2.2.2.1
  have ha : (x_w G sh M J)[a]? = some (x_ad G a, .inl (G.2.1 2, n, .inr (.inl (J a)))) := x_w_get hs
  refine W.last hC.1 hC.2.1 (hR.1 a _ ha) ((hK.2 2 _ rfl).1 n (fun j => .long (J a j))) (fun q => by cases q) (by show ¬ (i < 0 ∨ (arrV _ _ _).slots.size ≤ _); rw [arrV_size]; exact hin) rfl rfl hd fun H1 e z oq => ?_
  have hR2 := x_stored (M2 := M) hR hs (fun _ _ => rfl) (fun j hj => x_upJ_n J i.toNatClampNeg v hj) (.inr (2, n, g)) (H1 := H1) (by
    show H1[x_ad G a]? = some (vp_cell (G.2.1 2) (n, .inr (.inl (x_upJ J a i.toNatClampNeg v a))))
    rw [e, vp_cell_l, vp_cell_l, arrV_store, x_upJ_r]
    congr 2
    funext q
    by_cases hq : q = i.toNatClampNeg
    · subst hq; simp [updV, vp_updL]
    · simp [updV, vp_updL, hq]) z oq
  rw [x_sh_set hs] at hR2
  exact k p _ R s m args below meth c H1 _ WQ arr hC hr hR2 (hS.put z oq (hD.2 a _ ha)) hkc hks hl
theorem xr_aast {a n t q ci : Nat} {fs : List (Option (Option Nat))} {g : Nat → Option Nat} {i : Int32} (ht : (t = 3 ∧ ci = 2) ∨ (t = 4 ∧ ci = 6)) (hd : decode f.2.1 pc = .ok (.aastore, 1)) (hs : sh[a]? = some (.inr (t, n, g))) (hq : sh[q]? = some (.inl (ci, fs))) (hin : vp_in i n) (k : x_X l G f d mc ms Q (pc + 1) ls st (sh.set a (.inr (t, n, va_up g i.toNatClampNeg (some q)))) M J kc ks) : x_X l G f d mc ms Q pc ls (.ref q :: .int i :: .ref a :: st) sh M J kc ks := by
  intro p e R s m args below meth c H locs WQ arr hC hr hR hS hkc hks hl
  have hD := x_D (G := G) (M := M) (J := J) hR.2.2
  have hK : va_K G.1 vwCl (x_ty G) s := hC.2.2.2.2.2.2.1
  have ht2 : ¬ t < 2 ∧ ¬ t = 2 := by omega
  have ha : (x_w G sh M J)[a]? = some (x_ad G a, .inl (G.2.1 t, n, .inr (.inr (.inr (.inr (fun i => (g i).map (x_ad G))))))) := by rw [x_w_get hs]; simp only [x_e, if_neg ht2.1, if_neg ht2.2]
  obtain ⟨r, hr1, cellV, g1, g2, g3, -⟩ := hR.1 q _ (x_w_get hq)
  have hty : (x_ty G)[t]? = some (G.2.1 t, .object r.1) := by
    rcases ht with ⟨rfl, rfl⟩ | ⟨rfl, rfl⟩ <;> (cases hr1; rfl)
  have hcls := (hK.1 ci r hr1).2
  obtain ⟨kA, comp, k1, k2, k3, -⟩ := (hK.2 t _ hty).2
  have hcomp : comp = G.1.1 ci := Option.some.inj (k3.symm.trans hcls.1)
  subst hcomp
  obtain ⟨kC, hkC, -⟩ := hcls.2
  refine W.aast hC.1 hC.2.1 (hR.1 a _ ha) (fun q h => by cases h) (fun h => by cases h) k1 k2 rfl hkC ⟨fun z => hin (Or.inl z), by show _ < (arrV _ _ _).slots.size; rw [arrV_size]; exact Nat.not_le.mp fun z => hin (Or.inr z)⟩ g1 (fun q h => by rw [g3] at h; cases h) (by rw [g2]; exact hkC) (by rw [g2]; exact va_assign hcls) rfl rfl hd fun H1 e z oq => ?_
  have hR2 := x_stored (M2 := M) (J2 := J) hR hs (fun _ _ => rfl) (fun _ _ => rfl) (.inr (t, n, va_up g i.toNatClampNeg (some q))) (H1 := H1) (by
    have e3 : x_e G M J a (.inr (t, n, va_up g i.toNatClampNeg (some q))) = .inl (G.2.1 t, n, .inr (.inr (.inr (.inr (fun j => ((va_up g i.toNatClampNeg (some q)) j).map (x_ad G)))))) := by simp only [x_e, if_neg ht2.1, if_neg ht2.2]
    rw [e3]
    show H1[x_ad G a]? = some (vp_cell _ _)
    rw [e, vp_cell_q, vp_cell_q, arrV_store]
    congr 2
    funext j
    by_cases hj : j = i.toNatClampNeg
    · subst hj; simp [updV, va_up, va_rf]
    · simp [updV, va_up, hj]) z oq
  exact k p _ R s m args below meth c H1 _ WQ arr hC hr hR2 (hS.put z oq (hD.2 a _ ha)) hkc hks hl
/-! what is made -/
def x_NW (own : String) (idx ci N : Nat) (fs : List (Option (Option Nat))) : Prop := ∃ (C : String) (T : u_T) (ty0 : Nat → FieldType), vwCl[ci]? = some (C, T, N) ∧ (∀ w ∈ u_ws C T N, w ∈ xU) ∧ (∀ k, k < N → parseFieldDescriptor (T k).2.2.1 = some (ty0 k)) ∧
  Cond.classLink own idx C ∈ xU ∧ Cond.instantiable C N ∈ xU ∧ Cond.initialized C ∈ xU ∧ ∀ j, j < N → (fs[j]? = some none ∧ defaultValue (ty0 j) = .int 0) ∨ (fs[j]? = some (some none) ∧ defaultValue (ty0 j) = .null)
theorem x_pushed {e : xS} {H H1 : Heap} (hR : x_R G sh M J H) (hn : sh.length < x_N) (hc : va_at G.1 vwCl (x_ad G sh.length, x_e G M J sh.length e) H1) (z : H1.size = H.size + 1) (oq : ∀ q, q < H.size → H1[q]? = H[q]?) : x_R G (sh ++ [e]) M J H1 := by
  refine ⟨?_, fun _ => by rw [z, hR.2.1 hn, List.length_append]; rfl, by rw [List.length_append]; have : sh.length < 87 := hn; show sh.length + 1 ≤ 900; omega⟩
  rw [← x_w_push]
  refine va_P.app (hR.1.kept (fun k q hk => oq q.1 ((hR.1 k q hk).lt))) (fun k q hk => ?_)
  have hz : k < 1 := (List.getElem?_eq_some_iff.mp hk).1
  rw [show k = 0 by omega] at hk
  cases hk
  exact hc
theorem x_S_push {s : State} {H H1 : Heap} {locs : List Loc} (hS : va_S (x_A G) s.heap H locs) (z : H1.size = H.size + 1) (oq : ∀ q, q < H.size → H1[q]? = H[q]?) : va_S (x_A G) s.heap H1 locs :=
  ⟨Nat.le_trans hS.1 (by omega), fun q h1 h2 => (oq q (Nat.lt_of_lt_of_le h1 hS.1)).trans (hS.2.1 q h1 h2), hS.2.2⟩
theorem x_new_ad {H : Heap} (hR : x_R G sh M J H) (hn : sh.length < x_N) : H.size = x_ad G sh.length := by
  rw [hR.2.1 hn, x_ad_lo (by have : sh.length < 87 := hn; omega)]
theorem xr_new {idx ci N : Nat} {fs : List (Option (Option Nat))} (nw : x_NW f.1.cls idx ci N fs) (hd : decode f.2.1 pc = .ok (.new idx, 3)) (hn : sh.length < x_N) (h0 : ∀ j, M sh.length j = 0) (h1 : kc + 1 ≤ mc) (h2 : ks + N ≤ ms) (k : x_X l G f d mc ms Q (pc + 3) ls (.ref sh.length :: st) (sh ++ [.inl (ci, fs)]) M J (kc + 1) (ks + N)) : x_X l G f d mc ms Q pc ls st sh M J kc ks := by
  intro p e R s m args below meth c H locs WQ arr hC hr hR hS hkc hks hl
  obtain ⟨C, T, ty0, g1, g2, g3, g4, g5, g6, g7⟩ := nw
  have hts := hC.2.2.2.2.2.1
  have hK : va_K G.1 vwCl (x_ty G) s := hC.2.2.2.2.2.2.1
  have hKn := hK.1 ci _ g1
  have had := x_new_ad hR hn
  have hk := k p e R s m args below meth c
  refine W.newcK hC.1 hC.2.1 hC.2.2.2.2.1 (hts _ g4) (hts _ g5) (hts _ g6) rfl hd (by rw [← hC.2.2.2.2.2.2.2.2.1.2.2.1]; exact h1) (by rw [← hC.2.2.2.2.2.2.2.2.1.2.2.2]; exact h2) hKn.2.1 had fun H1 kC hkC e1 z1 o1 => ?_
  rw [← had] at z1 o1
  have hR2 := x_pushed (e := .inl (ci, fs)) hR hn (H1 := H1) ⟨_, g1, (u_born ty0 hts g2 hKn hkC e1 g3).to (fun j hj => by
    rcases g7 j hj with ⟨q1, q2⟩ | ⟨q1, q2⟩
    · show defaultValue (ty0 j) = (x_fs G M sh.length fs).getD j .null
      rw [List.getD_eq_getElem?_getD, x_fs_get q1, q2, h0]
      rfl
    · show defaultValue (ty0 j) = (x_fs G M sh.length fs).getD j .null
      rw [List.getD_eq_getElem?_getD, x_fs_getR q1, q2]
      rfl)⟩ z1 o1
  exact hk H1 locs WQ arr hC hr hR2 (x_S_push hS z1 o1) h1 h2 hl
theorem x_cA {s : State} {t : Nat} {cA : ClassId} (hK : x_K G s) (ht : t < 3) (h : s.vm.findClass ("[" ++ (x_tyOf t).toString) = some cA) : cA = G.2.1 t := by
  have h3 : va_RA s (G.2.1 t) (x_tyOf t) := by
    match t, ht with
    | 0, _ => exact (hK.2 0 _ rfl).2
    | 1, _ => exact (hK.2 1 _ rfl).2
    | 2, _ => exact (hK.2 2 _ rfl).2
  have h4 : s.vm.findClass ("[" ++ (x_tyOf t).toString) = some (G.2.1 t) := by
    match t, ht with
    | 0, _ => exact h3
    | 1, _ => exact h3
    | 2, _ => exact h3
  exact Option.some.inj (h.symm.trans h4)
theorem xr_newI {t N : Nat} {n : Int32} {atype : ArrayType} (ht : t < 2) (hty : newarray.typeOf atype = x_tyOf t) (hw : Cond.arrayClass (x_tyOf t) ∈ xU) (hd : decode f.2.1 pc = .ok (.newarray atype, 2)) (hn0 : ¬ n < 0) (hnN : n.toNatClampNeg = N) (hN : N ≤ 1000) (hn : sh.length < x_N) (h0 : ∀ j, M sh.length j = 0) (h1 : kc + 1 ≤ mc) (h2 : ks + N ≤ ms) (k : x_X l G f d mc ms Q (pc + 2) ls (.ref sh.length :: st) (sh ++ [.inr (t, N, fun _ => none)]) M J (kc + 1) (ks + N)) : x_X l G f d mc ms Q pc ls (.int n :: st) sh M J kc ks := by
  intro p e R s m args below meth c H locs WQ arr hC hr hR hS hkc hks hl
  have had := x_new_ad hR hn
  have hk := k p e R s m args below meth c
  have hcb : componentBytes (x_tyOf t) ≤ 8 := by
    match t, ht with
    | 0, _ => decide
    | 1, _ => decide
  refine va_newaK hC.1 hC.2.1 (atype := atype) (by rw [hty]; exact hC.2.2.2.2.2.1 _ hw) rfl hd rfl hn0 hnN (by rw [hty]; exact Nat.le_trans (Nat.mul_le_mul hN hcb) (by decide)) (by rw [← hC.2.2.2.2.2.2.2.2.1.2.2.1]; exact h1) (by rw [← hC.2.2.2.2.2.2.2.2.1.2.2.2]; exact h2) had fun H1 cA e1 z1 o1 hAr hNm => ?_
  rw [← had] at z1 o1
  rw [hty] at e1 hNm
  have hcA := x_cA hC.2.2.2.2.2.2.1 (Nat.lt_of_lt_of_le ht (by decide)) hNm
  subst hcA
  have hR2 := x_pushed (e := .inr (t, N, fun _ => none)) hR hn (H1 := H1) (by
    have e3 : x_e G M J sh.length (.inr (t, N, fun _ => none)) = .inl (G.2.1 t, N, .inl (M sh.length)) := by simp only [x_e, if_pos ht]
    rw [e3]
    show H1[x_ad G sh.length]? = some (vp_cell _ _)
    rw [e1, vp_cell_i]
    congr 2
    funext j
    rw [h0]
    match t, ht with
    | 0, _ => rfl
    | 1, _ => rfl) z1 o1
  exact hk H1 locs WQ arr hC hr hR2 (x_S_push hS z1 o1) h1 h2 hl
theorem xr_newJ {N : Nat} {n : Int32} (hw : Cond.arrayClass .long ∈ xU) (hd : decode f.2.1 pc = .ok (.newarray .long, 2)) (hn0 : ¬ n < 0) (hnN : n.toNatClampNeg = N) (hN : N ≤ 1000) (hn : sh.length < x_N) (h0 : ∀ j, J sh.length j = 0) (h1 : kc + 1 ≤ mc) (h2 : ks + N ≤ ms) (k : x_X l G f d mc ms Q (pc + 2) ls (.ref sh.length :: st) (sh ++ [.inr (2, N, fun _ => none)]) M J (kc + 1) (ks + N)) : x_X l G f d mc ms Q pc ls (.int n :: st) sh M J kc ks := by
  intro p e R s m args below meth c H locs WQ arr hC hr hR hS hkc hks hl
  have had := x_new_ad hR hn
  have hk := k p e R s m args below meth c
  refine va_newaK hC.1 hC.2.1 (atype := .long) (hC.2.2.2.2.2.1 _ hw) rfl hd rfl hn0 hnN (Nat.le_trans (Nat.mul_le_mul hN (show componentBytes (newarray.typeOf .long) ≤ 8 by decide)) (by decide)) (by rw [← hC.2.2.2.2.2.2.2.2.1.2.2.1]; exact h1) (by rw [← hC.2.2.2.2.2.2.2.2.1.2.2.2]; exact h2) had fun H1 cA e1 z1 o1 hAr hNm => ?_
  rw [← had] at z1 o1
  have hcA := x_cA (t := 2) hC.2.2.2.2.2.2.1 (by decide) hNm
  subst hcA
  have hR2 := x_pushed (e := .inr (2, N, fun _ => none)) hR hn (H1 := H1) (by
    show H1[x_ad G sh.length]? = some (vp_cell (G.2.1 2) (N, .inr (.inl (J sh.length))))
    rw [e1, vp_cell_l]
    congr 2
    funext j
    rw [h0]
    rfl) z1 o1
  exact hk H1 locs WQ arr hC hr hR2 (x_S_push hS z1 o1) h1 h2 hl
theorem xr_newq {t N idx : Nat} {n : Int32} {C : String} (ht : (t = 3 ∧ C = RX2) ∨ (t = 4 ∧ C = RX6)) (hw : Cond.classLink f.1.cls idx C ∈ xU) (hd : decode f.2.1 pc = .ok (.anewarray idx, 3)) (hn0 : ¬ n < 0) (hnN : n.toNatClampNeg = N) (hN : N ≤ 1000) (hn : sh.length < x_N) (h1 : kc + 1 ≤ mc) (h2 : ks + N ≤ ms) (k : x_X l G f d mc ms Q (pc + 3) ls (.ref sh.length :: st) (sh ++ [.inr (t, N, fun _ => none)]) M J (kc + 1) (ks + N)) : x_X l G f d mc ms Q pc ls (.int n :: st) sh M J kc ks := by
  intro p e R s m args below meth c H locs WQ arr hC hr hR hS hkc hks hl
  have had := x_new_ad hR hn
  have hk := k p e R s m args below meth c
  subst hnN
  have hts := hC.2.2.2.2.2.1
  have hao : va_AO C s := by
    rcases ht with ⟨-, rfl⟩ | ⟨-, rfl⟩
    · exact hC.2.2.2.2.2.2.2.1.2.1
    · exact hC.2.2.2.2.2.2.2.1.2.2.1
  refine W.anew hC.1 hC.2.1 hC.2.2.2.2.1 (hts _ hw) (va_AO.use hao) rfl hd rfl hn0 (by omega) (by rw [← hC.2.2.2.2.2.2.2.2.1.2.2.1]; exact h1) (by rw [← hC.2.2.2.2.2.2.2.2.1.2.2.2]; exact h2) fun cA kA comp f1 f2 f3 f4 => ?_
  generalize hH1 : H.push ({ cls := cA, slots := Array.replicate n.toNatClampNeg .null, vm := .none } : Cell) = H1
  have z1 : H1.size = H.size + 1 := by rw [← hH1, Array.size_push]
  have e1 : H1[H.size]? = some (arrV cA n.toNatClampNeg (fun _ => .null)) := by rw [← hH1, Array.getElem?_push_size, ← arrV_new]
  have o1 : ∀ q : Nat, q < H.size → H1[q]? = H[q]? := fun q hq => by rw [← hH1, Array.getElem?_push, if_neg (Nat.ne_of_lt hq)]
  have ht2 : ¬ t < 2 ∧ ¬ t = 2 := by omega
  have hcA : cA = G.2.1 t := by
    rcases ht with ⟨rfl, rfl⟩ | ⟨rfl, rfl⟩
    · obtain ⟨_, _, -, -, -, q4⟩ := (hC.2.2.2.2.2.2.1.2 3 _ rfl).2
      exact Option.some.inj (f1.symm.trans q4)
    · obtain ⟨_, _, -, -, -, q4⟩ := (hC.2.2.2.2.2.2.1.2 4 _ rfl).2
      exact Option.some.inj (f1.symm.trans q4)
  subst hcA
  have hR2 := x_pushed (e := .inr (t, n.toNatClampNeg, fun _ => none)) hR hn (H1 := H1) (by
    have e3 : x_e G M J sh.length (.inr (t, n.toNatClampNeg, fun _ => none)) = .inl (G.2.1 t, n.toNatClampNeg, .inr (.inr (.inr (.inr (fun _ => none))))) := by simp only [x_e, if_neg ht2.1, if_neg ht2.2]; rfl
    rw [e3, ← had]
    show H1[H.size]? = some (vp_cell _ _)
    rw [e1, vp_cell_q]
    rfl) z1 o1
  rw [had]
  exact hk H1 locs WQ arr hC hr hR2 (x_S_push hS z1 o1) h1 h2 hl
theorem xr_objInit {idx a : Nat} (hw : Cond.methodLink f.1.cls idx objectInit ∈ xU) (hw2 : Cond.instanceMethod objectInit ∈ xU) (hw3 : Cond.code objectInit ⟨#[0xb1]⟩ 1 none ∈ xU) (hd : decode f.2.1 pc = .ok (.invokespecial idx, 3)) (hst : (st.map fun v => v.category).sum ≤ 8) (hd1 : 1 ≤ d) (k : x_X l G f d mc ms Q (pc + 3) ls st sh M J kc ks) : x_X l G f d mc ms Q pc ls (.ref a :: st) sh M J kc ks := by
  intro p e R s m args below meth c H locs WQ arr hC hr hR hS hkc hks hl
  have hts := hC.2.2.2.2.2.1
  refine W.objInit hC.1 hC.2.1 hC.2.2.2.2.1 (hts _ hw) (hts _ hw2) (hts _ hw3) rfl (by rw [hC.2.2.1]; exact hl.1) rfl hd (Nat.le_trans hd1 hC.2.2.2.2.2.2.2.2.1.1) (by
    have h8 : ((st.map (x_rn G)).map fun v => v.category).sum ≤ 8 := by rw [List.map_map]; exact (show (st.map ((fun v => v.category) ∘ x_rn G)).sum = (st.map fun v => v.category).sum by congr 1; exact List.map_congr_left (fun v _ => x_rn_cat G v)) ▸ hst
    have h9 := hC.2.2.2.2.2.2.2.2.1.2.1
    show 2 * 0 + _ + 12 ≤ _
    omega) (k p e R s m args below meth c H locs WQ arr hC hr hR hS hkc hks hl)
/-! static tables, the script -/
theorem xr_getsA {idx : Nat} (hw : Cond.fieldLink f.1.cls idx RX8 "ABOVE" "[I" ∈ xU) (hd : decode f.2.1 pc = .ok (.getstatic idx, 3)) (k : x_X l G f d mc ms Q (pc + 3) ls (.ref 1000 :: st) sh M J kc ks) : x_X l G f d mc ms Q pc ls st sh M J kc ks := by
  intro p e R s m args below meth c H locs WQ arr hC hr hR hS hkc hks hl
  exact va_gets hC.1 hC.2.1 hC.2.2.2.2.2.2.2.1.1.1 hS hC.2.2.2.2.1 (hC.2.2.2.2.2.1 _ hw) (fun _ h => h) hd (k p e R s m args below meth c H locs WQ arr hC hr hR hS hkc hks hl)
theorem xr_getsO {idx : Nat} (hw : Cond.fieldLink f.1.cls idx RX8 "OWN" "[I" ∈ xU) (hd : decode f.2.1 pc = .ok (.getstatic idx, 3)) (k : x_X l G f d mc ms Q (pc + 3) ls (.ref 1001 :: st) sh M J kc ks) : x_X l G f d mc ms Q pc ls st sh M J kc ks := by
  intro p e R s m args below meth c H locs WQ arr hC hr hR hS hkc hks hl
  exact va_gets hC.1 hC.2.1 hC.2.2.2.2.2.2.2.1.1.2.2.1 hS hC.2.2.2.2.1 (hC.2.2.2.2.2.1 _ hw) (fun _ h => h) hd (k p e R s m args below meth c H locs WQ arr hC hr hR hS hkc hks hl)
theorem xr_tabA {i : Int32} (hin : vp_in i 8) (hd : decode f.2.1 pc = .ok (.iaload, 1)) (k : x_X l G f d mc ms Q (pc + 1) ls (.int (x_above.getD i.toNatClampNeg 0) :: st) sh M J kc ks) : x_X l G f d mc ms Q pc ls (.int i :: .ref 1000 :: st) sh M J kc ks := by
  intro p e R s m args below meth c H locs WQ arr hC hr hR hS hkc hks hl
  exact va_ti hC.1 hC.2.1 hC.2.2.2.2.2.2.2.1.1.2.1 hS hin rfl hd (k p e R s m args below meth c H locs WQ arr hC hr hR hS hkc hks hl)
theorem xr_tabO {i : Int32} (hin : vp_in i 32) (hd : decode f.2.1 pc = .ok (.iaload, 1)) (k : x_X l G f d mc ms Q (pc + 1) ls (.int (x_own.getD i.toNatClampNeg 0) :: st) sh M J kc ks) : x_X l G f d mc ms Q pc ls (.int i :: .ref 1001 :: st) sh M J kc ks := by
  intro p e R s m args below meth c H locs WQ arr hC hr hR hS hkc hks hl
  exact va_ti hC.1 hC.2.1 hC.2.2.2.2.2.2.2.1.1.2.2.2 hS hin rfl hd (k p e R s m args below meth c H locs WQ arr hC hr hR hS hkc hks hl)
theorem xr_sld {i : Int32} (hf : f.1.cls = RL) (hin : vp_in i G.2.2.2.2.1) (hd : decode f.2.1 pc = .ok (.iaload, 1)) (k : x_X l G f d mc ms Q (pc + 1) ls (.int (G.2.2.2.2.2 i.toNatClampNeg) :: st) sh M J kc ks) : x_X l G f d mc ms Q pc ls (.int i :: .ref 1002 :: st) sh M J kc ks := by
  intro p e R s m args below meth c H locs WQ arr hC hr hR hS hkc hks hl
  obtain ⟨h1, h2, h3⟩ := hC.2.2.2.2.2.2.2.2.2.2.2 hf
  exact va_sld hC.1 hC.2.1 h1 h2 h3 hS hin hd (k p e R s m args below meth c H locs WQ arr hC hr hR hS hkc hks hl)
theorem xr_slen (hf : f.1.cls = RL) (hd : decode f.2.1 pc = .ok (.arraylength, 1)) (k : x_X l G f d mc ms Q (pc + 1) ls (.int (Int32.ofNat G.2.2.2.2.1) :: st) sh M J kc ks) : x_X l G f d mc ms Q pc ls (.ref 1002 :: st) sh M J kc ks := by
  intro p e R s m args below meth c H locs WQ arr hC hr hR hS hkc hks hl
  obtain ⟨h1, h2, h3⟩ := hC.2.2.2.2.2.2.2.2.2.2.2 hf
  exact va_slen hC.1 hC.2.1 h1 h2 h3 hS hd (k p e R s m args below meth c H locs WQ arr hC hr hR hS hkc hks hl)
/-! Math, arraycopy -/
theorem x_cat8 {rest : List Value} (G : xG) (h : (rest.map fun v => v.category).sum ≤ 8) : ((rest.map (x_rn G)).map fun v => v.category).sum ≤ 8 := by
  rw [List.map_map]
  have e : rest.map ((fun v => v.category) ∘ x_rn G) = rest.map fun v => v.category := List.map_congr_left (fun v _ => x_rn_cat G v)
  rw [e]
  exact h
theorem xr_max {idx : Nat} {x y : Int32} (hw : Cond.methodLink f.1.cls idx Lib.Math.max.name ∈ xU) (hw2 : Cond.static Lib.Math.max.name ∈ xU) (hw3 : Cond.initialized "java/lang/Math" ∈ xU) (hw4 : Cond.code Lib.Math.max.name Lib.Math.max.code 2 (some .int) ∈ xU) (hd : decode f.2.1 pc = .ok (.invokestatic idx, 3)) (hst : (st.map fun v => v.category).sum ≤ 8) (hd1 : 1 ≤ d) (k : x_X l G f d mc ms Q (pc + 3) ls (.int (if x < y then y else x) :: st) sh M J kc ks) : x_X l G f d mc ms Q pc ls (.int y :: .int x :: st) sh M J kc ks := by
  intro p e R s m args below meth c H locs WQ arr hC hr hR hS hkc hks hl
  have hts := hC.2.2.2.2.2.1
  have h9 := hC.2.2.2.2.2.2.2.2.1
  exact va_mmax hC.1 hC.2.1 (by rw [hC.2.2.1]; exact hl.1.symm) hC.2.2.2.2.1 (hts _ hw) (hts _ hw2) (hts _ hw3) (hts _ hw4) (Nat.le_trans hd1 h9.1) (by have h8 := x_cat8 G hst; have := h9.2.1; omega) (by rw [← h9.2.2.1]; exact hkc) (by rw [← h9.2.2.2]; exact hks) hd (k p e R s m args below meth c H locs WQ arr hC hr hR hS hkc hks hl)
theorem xr_min {idx : Nat} {x y : Int32} (hw : Cond.methodLink f.1.cls idx Lib.Math.min.name ∈ xU) (hw2 : Cond.static Lib.Math.min.name ∈ xU) (hw3 : Cond.initialized "java/lang/Math" ∈ xU) (hw4 : Cond.code Lib.Math.min.name Lib.Math.min.code 2 (some .int) ∈ xU) (hd : decode f.2.1 pc = .ok (.invokestatic idx, 3)) (hst : (st.map fun v => v.category).sum ≤ 8) (hd1 : 1 ≤ d) (k : x_X l G f d mc ms Q (pc + 3) ls (.int (if y < x then y else x) :: st) sh M J kc ks) : x_X l G f d mc ms Q pc ls (.int y :: .int x :: st) sh M J kc ks := by
  intro p e R s m args below meth c H locs WQ arr hC hr hR hS hkc hks hl
  have hts := hC.2.2.2.2.2.1
  have h9 := hC.2.2.2.2.2.2.2.2.1
  exact va_mmin hC.1 hC.2.1 (by rw [hC.2.2.1]; exact hl.1.symm) hC.2.2.2.2.1 (hts _ hw) (hts _ hw2) (hts _ hw3) (hts _ hw4) (Nat.le_trans hd1 h9.1) (by have h8 := x_cat8 G hst; have := h9.2.1; omega) (by rw [← h9.2.2.1]; exact hkc) (by rw [← h9.2.2.2]; exact hks) hd (k p e R s m args below meth c H locs WQ arr hC hr hR hS hkc hks hl)
theorem xr_abs {idx : Nat} {x : Int32} (hw : Cond.methodLink f.1.cls idx Lib.Math.abs.name ∈ xU) (hw2 : Cond.static Lib.Math.abs.name ∈ xU) (hw3 : Cond.initialized "java/lang/Math" ∈ xU) (hw4 : Cond.code Lib.Math.abs.name Lib.Math.abs.code 1 (some .int) ∈ xU) (hd : decode f.2.1 pc = .ok (.invokestatic idx, 3)) (hst : (st.map fun v => v.category).sum ≤ 8) (hd1 : 1 ≤ d) (k : x_X l G f d mc ms Q (pc + 3) ls (.int (if 0 ≤ x then x else 0 - x) :: st) sh M J kc ks) : x_X l G f d mc ms Q pc ls (.int x :: st) sh M J kc ks := by
  intro p e R s m args below meth c H locs WQ arr hC hr hR hS hkc hks hl
  have hts := hC.2.2.2.2.2.1
  have h9 := hC.2.2.2.2.2.2.2.2.1
  exact va_mabs hC.1 hC.2.1 (by rw [hC.2.2.1]; exact hl.1.symm) hC.2.2.2.2.1 (hts _ hw) (hts _ hw2) (hts _ hw3) (hts _ hw4) (Nat.le_trans hd1 h9.1) (by have h8 := x_cat8 G hst; have := h9.2.1; omega) (by rw [← h9.2.2.1]; exact hkc) (by rw [← h9.2.2.2]; exact hks) hd (k p e R s m args below meth c H locs WQ arr hC hr hR hS hkc hks hl)
theorem xr_copyI {idx a b n0 n1 : Nat} {g0 g1 : Nat → Option Nat} {sp dp n : Int32} (hw : Cond.methodLink f.1.cls idx arraycopyName ∈ xU) (hw1 : Cond.native arraycopyName ∈ xU) (hw2 : Cond.static arraycopyName ∈ xU) (hw3 : Cond.initialized "java/lang/System" ∈ xU) (hfull : x_N ≤ sh.length) (h0 : sh[b]? = some (.inr (0, n0, g0))) (h1 : sh[a]? = some (.inr (0, n1, g1))) (g2 : ¬ sp < 0) (g3 : ¬ dp < 0) (g4 : ¬ n < 0) (g5 : sp.toNatClampNeg + n.toNatClampNeg ≤ n0) (g6 : dp.toNatClampNeg + n.toNatClampNeg ≤ n1) (hd : decode f.2.1 pc = .ok (.invokestatic idx, 3)) (hst : (st.map fun v => v.category).sum ≤ 8) (hd1 : 2 ≤ d) (k : x_X l G f d mc ms Q (pc + 3) ls st sh (x_row M a (va_cpy (M b) (M a) sp.toNatClampNeg dp.toNatClampNeg n.toNatClampNeg)) J kc ks) : x_X l G f d mc ms Q pc ls (.int n :: .int dp :: .ref a :: .int sp :: .ref b :: st) sh M J kc ks := by
  intro p e R s m args below meth c H locs WQ arr hC hr hR hS hkc hks hl
  have hts := hC.2.2.2.2.2.1
  have h9 := hC.2.2.2.2.2.2.2.2.1
  refine va_copyi hC.1 hC.2.1 (by rw [hC.2.2.1]; exact hl.1.symm) hC.2.2.2.2.1 (hts _ hw) (hts _ hw1) (hts _ hw2) (hts _ hw3) hC.2.2.2.2.2.2.1 hR.1 (x_D hR.2.2) hS b a 0 0 (x_w_get h0) (x_w_get h1) rfl rfl rfl g2 g3 g4 g5 g6 (fun _ _ => rfl) (Nat.le_trans (by omega) h9.1) (by
    have h8 := x_cat8 G hst
    have h10 := h9.2.1
    have h11 : nativeFrameWords "java/lang/System" "arraycopy" 5 + 11 ≤ 72 := by decide +kernel
    omega) hd (fun H1 locs1 hP hD hS1 => ?_)
  rw [show (x_w G sh M J).set a (x_ad G a, .inl (G.2.1 0, n1, .inl (va_cpy (M b) (M a) sp.toNatClampNeg dp.toNatClampNeg n.toNatClampNeg))) = x_w G sh (x_row M a (va_cpy (M b) (M a) sp.toNatClampNeg dp.toNatClampNeg n.toNatClampNeg)) J from by
    rw [← x_sh_set h1, ← x_w_set (M := M) (J := J) (M' := x_row M a (va_cpy (M b) (M a) sp.toNatClampNeg dp.toNatClampNeg n.toNatClampNeg)) (J' := J) (.inr (0, n1, g1)) h1 (fun i hi => x_row_n M _ hi) (fun _ _ => rfl), x_sh_set h1]
    simp only [x_e, x_row_s]
    rfl] at hP
  exact k p e R s m args below meth c H1 locs1 WQ arr hC hr ⟨hP, fun z => absurd z (by omega), hR.2.2⟩ hS1 hkc hks hl
theorem xr_copyJ {idx a b n0 n1 : Nat} {g0 g1 : Nat → Option Nat} {sp dp n : Int32} (hw : Cond.methodLink f.1.cls idx arraycopyName ∈ xU) (hw1 : Cond.native arraycopyName ∈ xU) (hw2 : Cond.static arraycopyName ∈ xU) (hw3 : Cond.initialized "java/lang/System" ∈ xU) (hfull : x_N ≤ sh.length) (h0 : sh[b]? = some (.inr (2, n0, g0))) (h1 : sh[a]? = some (.inr (2, n1, g1))) (g2 : ¬ sp < 0) (g3 : ¬ dp < 0) (g4 : ¬ n < 0) (g5 : sp.toNatClampNeg + n.toNatClampNeg ≤ n0) (g6 : dp.toNatClampNeg + n.toNatClampNeg ≤ n1) (hd : decode f.2.1 pc = .ok (.invokestatic idx, 3)) (hst : (st.map fun v => v.category).sum ≤ 8) (hd1 : 2 ≤ d) (k : x_X l G f d mc ms Q (pc + 3) ls st sh M (x_rowJ J a (va_cpy (J b) (J a) sp.toNatClampNeg dp.toNatClampNeg n.toNatClampNeg)) kc ks) : x_X l G f d mc ms Q pc ls (.int n :: .int dp :: .ref a :: .int sp :: .ref b :: st) sh M J kc ks := by
  intro p e R s m args below meth c H locs WQ arr hC hr hR hS hkc hks hl
  have hts := hC.2.2.2.2.2.1
  have h9 := hC.2.2.2.2.2.2.2.2.1
  refine va_copyl hC.1 hC.2.1 (by rw [hC.2.2.1]; exact hl.1.symm) hC.2.2.2.2.1 (hts _ hw) (hts _ hw1) (hts _ hw2) (hts _ hw3) hC.2.2.2.2.2.2.1 hR.1 (x_D hR.2.2) hS b a 2 2 (x_w_get h0) (x_w_get h1) rfl rfl rfl g2 g3 g4 g5 g6 (fun _ _ => rfl) (Nat.le_trans (by omega) h9.1) (by
    have h8 := x_cat8 G hst
    have h10 := h9.2.1
    have h11 : nativeFrameWords "java/lang/System" "arraycopy" 5 + 11 ≤ 72 := by decide +kernel
    omega) hd (fun H1 locs1 hP hD hS1 => ?_)
  rw [show (x_w G sh M J).set a (x_ad G a, .inl (G.2.1 2, n1, .inr (.inl (va_cpy (J b) (J a) sp.toNatClampNeg dp.toNatClampNeg n.toNatClampNeg)))) = x_w G sh M (x_rowJ J a (va_cpy (J b) (J a) sp.toNatClampNeg dp.toNatClampNeg n.toNatClampNeg)) from by
    rw [← x_sh_set h1, ← x_w_set (M := M) (J := J) (M' := M) (J' := x_rowJ J a (va_cpy (J b) (J a) sp.toNatClampNeg dp.toNatClampNeg n.toNatClampNeg)) (.inr (2, n1, g1)) h1 (fun _ _ => rfl) (fun i hi => x_rowJ_n J _ hi), x_sh_set h1]
    simp only [x_e, x_rowJ_s]
    rfl] at hP
  exact k p e R s m args below meth c H1 locs1 WQ arr hC hr ⟨hP, fun z => absurd z (by omega), hR.2.2⟩ hS1 hkc hks hl
/-! ends -/
theorem xr_iret {ty : FieldType} {v : Int32} (hd : decode f.2.1 pc = .ok (.ireturn, 1)) (ht : f.2.2.2 = some ty) (hn : narrow ty (.int v) = .int v) (hq : Q (some (.int v)) sh M J) : x_X l G f d mc ms Q pc ls [.int v] sh M J kc ks := by
  intro p e R s m args below meth c H locs WQ arr hC hr hR hS hkc hks hl
  exact hr (some (.int v)) sh M J H locs kc ks pc arr hq hkc hks hR hS (Or.inr (Or.inl ⟨ty, v, ht, rfl, hn, hd⟩))
theorem xr_lret {v : Int64} (hd : decode f.2.1 pc = .ok (.lreturn, 1)) (ht : f.2.2.2 = some .long) (hq : Q (some (.long v)) sh M J) : x_X l G f d mc ms Q pc ls [.long v] sh M J kc ks := by
  intro p e R s m args below meth c H locs WQ arr hC hr hR hS hkc hks hl
  exact hr (some (.long v)) sh M J H locs kc ks pc arr hq hkc hks hR hS (Or.inr (Or.inr (Or.inl ⟨v, ht, rfl, hd⟩)))
theorem xr_aret {a : Nat} {C : String} (hd : decode f.2.1 pc = .ok (.areturn, 1)) (ht : f.2.2.2 = some (.object C)) (hq : Q (some (.ref a)) sh M J) : x_X l G f d mc ms Q pc ls [.ref a] sh M J kc ks := by
  intro p e R s m args below meth c H locs WQ arr hC hr hR hS hkc hks hl
  exact hr (some (.ref a)) sh M J H locs kc ks pc arr hq hkc hks hR hS (Or.inr (Or.inr (Or.inr ⟨C, a, ht, rfl, hd⟩)))
theorem xr_vret (hd : decode f.2.1 pc = .ok (.return_, 1)) (ht : f.2.2.2 = none) (hq : Q none sh M J) : x_X l G f d mc ms Q pc ls [] sh M J kc ks := by
  intro p e R s m args below meth c H locs WQ arr hC hr hR hS hkc hks hl
  exact hr none sh M J H locs kc ks pc arr hq hkc hks hR hS (Or.inl ⟨ht, rfl, hd⟩)
/-! a contract out of a body -/
theorem x_M_of {args : List Value} (hy : plainName f.1.cls = true) (hlen : (lg_sl args).length ≤ f.2.2.1) (hL : f.1.cls ≠ RL) (h : x_X l G f d mc ms Q 0 (lv_args 0 args) [] sh M J 0 0) : x_M l G f d mc ms args sh M J Q := by
  refine Met.ofW (cc := f.2.1) (maxL := f.2.2.1) (ret := f.2.2.2) hy rfl ?_
  intro p e s m args' below meth c s₁ B hml hv
  obtain ⟨rfl, hR, hK, hSt, hEx⟩ := hv
  have hts := atoms_spec (ws := Cond.code f.1 f.2.1 f.2.2.1 f.2.2.2 :: xU) B.pre
  have hl := lv_entry (args.map (x_rn G)) (n := f.2.2.1) (by rw [x_sl]; exact hlen)
  rw [lg_entry_eq]
  generalize (lg_sl (args.map (x_rn G)) ++ List.replicate (f.2.2.1 - (lg_sl (args.map (x_rn G))).length) Slot.unset).toArray = arr at hl ⊢
  rw [x_args] at hl
  have hlocks := B.notSynchronized
  refine h p e _ s m _ below meth c s.heap [] _ arr ⟨B.exec, B.bytes, hml, B.returns, findClass_of_methodNamed B.named, fun w hw => hts w (List.mem_cons_of_mem _ hw), hK, ⟨hSt, hEx⟩, ⟨Nat.le_refl _, Nat.le_refl _, rfl, rfl⟩, ?_, fun hi => ?_, fun hi => absurd hi hL⟩ ?_ hR va_S.rf (Nat.zero_le _) (Nat.zero_le _) hl
  · by_cases hz : sh.length < x_N
    · rw [hR.2.1 hz]; exact Nat.le_add_right _ _
    · have h0 : 0 < sh.length := Nat.lt_of_lt_of_le (by decide) (Nat.not_lt.mp hz)
      cases hs : sh[0]? with
      | none => exact absurd (List.getElem?_eq_none_iff.mp hs) (by omega)
      | some e0 =>
        have h1 := (hR.1 0 _ (x_w_get hs)).lt
        have h2 : x_ad G 0 = G.2.2.1 + 0 := x_ad_lo (by decide)
        have h3 : x_ad G 0 < s.heap.size := h1
        omega
  · rw [← hi]
    exact (name_of_methodNamed B.named B.method).1
  · intro v sh' M' J' H' locs' kc' ks' pc' arr' hq hkc hks hR' hS' hrop
    refine W.widen (k := mc) (n := ms) hkc hks ?_
    have hQc : ∀ t : State, t.heap = H' → x_Post G Q (args.map (x_rn G)).toArray s (.returned (v.map (x_rn G))) t := fun t ht => ⟨⟨v, sh', M', J', rfl, hq, by rw [ht]; exact hR'⟩, hS'.F ht⟩
    rcases hrop with ⟨h1, rfl, h3⟩ | ⟨ty, x, h1, rfl, h3, h4⟩ | ⟨x, h1, rfl, h3⟩ | ⟨C, a, h1, rfl, h3⟩
    · exact W.vret B.exec B.bytes (by rw [B.returns]; exact h1) (fun t ht _ => hQc t ht) hS'.2.2 h3
    · exact W.zret B.exec B.bytes (by rw [B.returns]; exact h1) h3 (fun t ht _ => hQc t ht) hS'.2.2 h4
    · exact W.lret B.exec B.bytes (by rw [B.returns]; exact h1) (fun t ht _ => hQc t ht) hS'.2.2 h3
    · exact W.aret B.exec B.bytes (by rw [B.returns]; exact h1) (Or.inl ⟨C, rfl⟩) (Or.inr ⟨_, rfl⟩) (fun t ht _ => hQc t ht) hS'.2.2 h3
/-! calls -/
theorem x_goes {mc' ms' : Nat} {Q' : xQ} {a : Array Value} {rest st0 : List Value} {p : Program} {e : Env} {R : Room} {s : State} {m : MethodId} {args : Array Value} {below : List Frame} {meth : Method} {c : Code} {H : Heap} {locs : List Loc} {WQ : State → Prop} {arr : Array Slot}
    (hr : va_Run p l e R s m args below meth c H locs kc ks mc' ms' (F0 m pc arr st0) rest (x_Post G Q' a) (x_A G)) (hS : va_S (x_A G) s.heap H locs)
    (kk : ∀ (v : Option Value) (sh' : List xS) (M' : xM) (J' : xJ) (H1 : Heap) (locs1 : List Loc), Q' v sh' M' J' → x_R G sh' M' J' H1 → va_S (x_A G) s.heap H1 locs1 → W p l e R s m args below meth c H1 locs1 (kc + mc') (ks + ms') WQ (F0 m (pc + 3) arr ((v.map (x_rn G)).toList ++ rest))) : W p l e R s m args below meth c H locs kc ks WQ (F0 m pc arr st0) := by
  intro T hT X
  obtain ⟨v, st₀, t, T', L, h0, X', hL, e1, e2, ⟨⟨v2, sh2, M2, J2, hv, hq, hR2⟩, hz, hk⟩, stp⟩ := hr T hT X
  cases hv
  rw [h0] at hz hk
  obtain ⟨t2, a1, b1⟩ := kk v2 sh2 M2 J2 T'.heap (locs ++ L) hq (by rw [e1]; exact hR2)
    ⟨Nat.le_trans hS.1 (by rw [e1]; exact hz), fun q h1 h2 => by rw [e1, hk q (Nat.lt_of_lt_of_le h1 hS.1) h2]; exact hS.2.1 q h1 h2, fun q hq2 => by
      rcases List.mem_append.mp hq2 with h | h
      · exact hS.2.2 q h
      · exact hL q h⟩ T' rfl X'
  exact ⟨t2, stp t2 a1, b1⟩
theorem x_blind {As : List Value} : FrameBlind (va_Pc (As.map (x_rn G)) (x_Pre G sh M J)) := fun a U g mk q => by
  obtain ⟨q0, q1, q2, q3, q4, q5, q6⟩ := q
  exact ⟨q0, q1, va_K.moved (u := U) (U := U.calling g mk a) (Vm.Alike.refl U.vm) q2, x_St.moved (u := U) (U := U.calling g mk a) (Vm.Alike.refl U.vm) q3, va_AO.moved (u := U) (U := U.calling g mk a) (Vm.Alike.refl U.vm) q4, va_AO.moved (u := U) (U := U.calling g mk a) (Vm.Alike.refl U.vm) q5, fun z hz => va_Nw.same (u := U) (U := U.calling g mk a) rfl rfl (q6 z hz)⟩
theorem x_pre {As : List Value} {p : Program} {R : Room} {s : State} {m : MethodId} {args : Array Value} {meth : Method} {c : Code} {H : Heap} {locs : List Loc} (hC : x_C G f d mc ms p R s m args meth c) (hR : x_R G sh M J H) (hS : va_S (x_A G) s.heap H locs) : ∀ U : State, U.heap = H → s.WarmedH U.vm → va_Pc (As.map (x_rn G)) (x_Pre G sh M J) (As.map (x_rn G)).toArray U := fun U hU hW =>
  ⟨rfl, by rw [hU]; exact hR, va_K.moved hW.alike hC.2.2.2.2.2.2.1, by rw [hU]; exact (hC.2.2.2.2.2.2.2.1.1.moved hW.alike).kept (fun q h1 h2 => hS.2.1 q h1 h2), hC.2.2.2.2.2.2.2.1.2.moved hW⟩
theorem x_room {g : xF} {d' n : Nat} {p : Program} {R : Room} {s : State} {m : MethodId} {args : Array Value} {meth : Method} {c : Code} (hC : x_C G f d mc ms p R s m args meth c) (hdd : d' + 1 ≤ d) (hok : x_ok g n) {mc' ms' : Nat} : (x_rm d' mc' ms').frames + 1 ≤ R.frames ∧ 8 + (g.2.2.1 + 11) + (x_rm d' mc' ms').locals ≤ R.locals := by
  have h9 := hC.2.2.2.2.2.2.2.2.1
  have h10 := hok.2.2.2.1
  exact ⟨Nat.le_trans hdd h9.1, Nat.le_trans (by show 8 + (g.2.2.1 + 11) + 40 * d' ≤ 40 * d; omega) h9.2.1⟩
theorem xr_callV {g : xF} {idx ci n a d' mc' ms' : Nat} {Q' : xQ} {fs : List (Option (Option Nat))} {As rest : List Value} (mv : x_MV f.1.cls idx ci g n) (hg : x_M l G g d' mc' ms' (.ref a :: As) sh M J Q') (hd : decode f.2.1 pc = .ok (.invokevirtual idx, 3)) (hs : sh[a]? = some (.inl (ci, fs))) (hn : As.length = n) (hst : st = As.reverse ++ .ref a :: rest) (hcat : (rest.map fun v => v.category).sum ≤ 8) (hdd : d' + 1 ≤ d) (hkk : kc + mc' ≤ mc ∧ ks + ms' ≤ ms)
    (k : ∀ (v : Option Value) (sh' : List xS) (M' : xM) (J' : xJ), Q' v sh' M' J' → x_X l G f d mc ms Q (pc + 3) ls (v.toList ++ rest) sh' M' J' (kc + mc') (ks + ms')) : x_X l G f d mc ms Q pc ls st sh M J kc ks := by
  intro p e R s m args below meth c H locs WQ arr hC hr hR hS hkc hks hl
  subst hst
  obtain ⟨hok, ⟨T, N, hcl⟩, hw1, hw2, hw3⟩ := mv
  have hts := hC.2.2.2.2.2.1
  have h9 := hC.2.2.2.2.2.2.2.2.1
  have hrec := va_recv (s := s) hC.2.2.2.2.2.2.1 hR.1 hcl (x_w_get hs)
  refine x_goes (va_runV (C := g.1.cls) (As := As.map (x_rn G)) (rest := rest.map (x_rn G)) (bytes := g.2.1) (maxL := g.2.2.1) (ret := g.2.2.2) (n := n) ⟨hC.1, hC.2.1, hC.2.2.1, hC.2.2.2.2.1, hts⟩ hg ?_ ⟨x_blind, hrec, x_pre (As := .ref a :: As) hC hR hS⟩ rfl (by rw [List.length_map]; exact hn) hl.1 ?_ (lv_room (x_cat8 G hcat)) hd ⟨by rw [← h9.2.2.1]; exact hkk.1, by rw [← h9.2.2.2]; exact hkk.2⟩) hS (fun v sh' M' J' H1 locs1 hq hR1 hS1 => ?_)
  · have hgood := x_good hok.2.2.2.2.2
    exact cwV n hts (fun w hw => by
      unfold wsV at hw
      rcases List.mem_append.mp hw with h | h
      · have hm : w ∈ xU := by
          simp only [List.mem_cons, List.not_mem_nil, or_false] at h
          rcases h with rfl | rfl | rfl | rfl
          · exact hw1
          · exact hw2
          · exact hw3
          · exact hok.2.2.2.2.1
        exact ⟨hm, good_of_word (List.mem_filter.mp hm).2⟩
      · exact hgood w h) rfl rfl rfl ⟨rfl, hok.1, hok.2.1, hok.2.2.1⟩ (x_room hC hdd hok)
  · simp [List.map_append, List.map_reverse, x_rn]
  · have := k v sh' M' J' hq p e R s m args below meth c H1 locs1 WQ arr hC hr hR1 hS1 (by exact hkk.1) (by exact hkk.2) hl
    rw [List.map_append] at this
    cases v <;> exact this
theorem xr_callS {g : xF} {idx n d' mc' ms' : Nat} {Q' : xQ} {As rest : List Value} (mv : x_MS f.1.cls idx g n) (hg : x_M l G g d' mc' ms' As sh M J Q') (hd : decode f.2.1 pc = .ok (.invokestatic idx, 3)) (hn : As.length = n) (hst : st = As.reverse ++ rest) (hcat : (rest.map fun v => v.category).sum ≤ 8) (hdd : d' + 1 ≤ d) (hkk : kc + mc' ≤ mc ∧ ks + ms' ≤ ms)
    (k : ∀ (v : Option Value) (sh' : List xS) (M' : xM) (J' : xJ), Q' v sh' M' J' → x_X l G f d mc ms Q (pc + 3) ls (v.toList ++ rest) sh' M' J' (kc + mc') (ks + ms')) : x_X l G f d mc ms Q pc ls st sh M J kc ks := by
  intro p e R s m args below meth c H locs WQ arr hC hr hR hS hkc hks hl
  subst hst
  obtain ⟨hok, hw1, hw2⟩ := mv
  have hts := hC.2.2.2.2.2.1
  have h9 := hC.2.2.2.2.2.2.2.2.1
  refine x_goes (va_runS (As := As.map (x_rn G)) (rest := rest.map (x_rn G)) (bytes := g.2.1) (maxL := g.2.2.1) (ret := g.2.2.2) (n := n) ⟨hC.1, hC.2.1, hC.2.2.1, hC.2.2.2.2.1, hts⟩ hg ?_ ⟨x_blind, x_pre (As := As) hC hR hS⟩ rfl (by rw [List.length_map]; exact hn) hl.1 ?_ (lv_room (x_cat8 G hcat)) hd ⟨by rw [← h9.2.2.1]; exact hkk.1, by rw [← h9.2.2.2]; exact hkk.2⟩) hS (fun v sh' M' J' H1 locs1 hq hR1 hS1 => ?_)
  · have hgood := x_good hok.2.2.2.2.2
    exact va_cwS n hts (fun w hw => by
      unfold va_wsS at hw
      rcases List.mem_append.mp hw with h | h
      · have hm : w ∈ xU := by
          simp only [List.mem_cons, List.not_mem_nil, or_false] at h
          rcases h with rfl | rfl | rfl
          · exact hw1
          · exact hw2
          · exact hok.2.2.2.2.1
        exact ⟨hm, good_of_word (List.mem_filter.mp hm).2⟩
      · exact hgood w h) rfl rfl rfl ⟨hok.1, hok.2.1, hok.2.2.1⟩ (x_room hC hdd hok)
  · simp [List.map_append, List.map_reverse]
  · have := k v sh' M' J' hq p e R s m args below meth c H1 locs1 WQ arr hC hr hR1 hS1 (by exact hkk.1) (by exact hkk.2) hl
    rw [List.map_append] at this
    cases v <;> exact this
theorem xr_callN {g : xF} {idx n d' mc' ms' : Nat} {Q' : xQ} {As rest : List Value} (mv : x_MN f.1.cls idx g n) (hg : x_M l G g d' mc' ms' As sh M J Q') (hd : decode f.2.1 pc = .ok (.invokestatic idx, 3)) (hn : As.length = n) (hst : st = As.reverse ++ rest) (hcat : (rest.map fun v => v.category).sum ≤ 8) (hdd : d' + 1 ≤ d) (hkk : kc + mc' ≤ mc ∧ ks + ms' ≤ ms)
    (k : ∀ (v : Option Value) (sh' : List xS) (M' : xM) (J' : xJ), Q' v sh' M' J' → x_X l G f d mc ms Q (pc + 3) ls (v.toList ++ rest) sh' M' J' (kc + mc') (ks + ms')) : x_X l G f d mc ms Q pc ls st sh M J kc ks := by
  intro p e R s m args below meth c H locs WQ arr hC hr hR hS hkc hks hl
  subst hst
  obtain ⟨hok, ⟨host, hw1⟩, hw2⟩ := mv
  have hts := hC.2.2.2.2.2.1
  have h9 := hC.2.2.2.2.2.2.2.2.1
  refine x_goes (va_runSN (host := host) (As := As.map (x_rn G)) (rest := rest.map (x_rn G)) (bytes := g.2.1) (maxL := g.2.2.1) (ret := g.2.2.2) (n := n) ⟨hC.1, hC.2.1, hC.2.2.1, hC.2.2.2.2.1, hts⟩ hg ⟨va_cnB n hts (x_good hok.2.2.2.2.2) rfl rfl rfl (hC.2.2.2.2.2.2.2.1.2.2.2 _ hw1) (hts _ hok.2.2.2.2.1) ⟨hok.1, hok.2.1, hok.2.2.1⟩ (x_room hC hdd hok), hts _ hw2, trivial⟩ ⟨x_blind, x_pre (As := As) hC hR hS⟩ rfl (by rw [List.length_map]; exact hn) hl.1 ?_ (lv_room (x_cat8 G hcat)) hd ⟨by rw [← h9.2.2.1]; exact hkk.1, by rw [← h9.2.2.2]; exact hkk.2⟩) hS (fun v sh' M' J' H1 locs1 hq hR1 hS1 => ?_)
  · simp [List.map_append, List.map_reverse]
  · have := k v sh' M' J' hq p e R s m args below meth c H1 locs1 WQ arr hC hr hR1 hS1 (by exact hkk.1) (by exact hkk.2) hl
    rw [List.map_append] at this
    cases v <;> exact this
theorem xr_callI {g : xF} {idx n a d' mc' ms' : Nat} {Q' : xQ} {As rest : List Value} (mv : x_MI f.1.cls idx g n) (hg : x_M l G g d' mc' ms' (.ref a :: As) sh M J Q') (hd : decode f.2.1 pc = .ok (.invokespecial idx, 3)) (hn : As.length = n) (hst : st = As.reverse ++ .ref a :: rest) (hcat : (rest.map fun v => v.category).sum ≤ 8) (hdd : d' + 1 ≤ d) (hkk : kc + mc' ≤ mc ∧ ks + ms' ≤ ms)
    (k : ∀ (v : Option Value) (sh' : List xS) (M' : xM) (J' : xJ), Q' v sh' M' J' → x_X l G f d mc ms Q (pc + 3) ls (v.toList ++ rest) sh' M' J' (kc + mc') (ks + ms')) : x_X l G f d mc ms Q pc ls st sh M J kc ks := by
  intro p e R s m args below meth c H locs WQ arr hC hr hR hS hkc hks hl
  subst hst
  obtain ⟨hok, hw1, hw2, hnm, hrt⟩ := mv
  have hts := hC.2.2.2.2.2.1
  have h9 := hC.2.2.2.2.2.2.2.2.1
  refine x_goes (va_runI (b := x_ad G a) (As := As.map (x_rn G)) (rest := rest.map (x_rn G)) (bytes := g.2.1) (maxL := g.2.2.1) (n := n) ⟨hC.1, hC.2.1, hC.2.2.1, hC.2.2.2.2.1, hts⟩ hg (cwI n hts (x_good hok.2.2.2.2.2) (by rw [hrt]) rfl rfl (hts _ hok.2.2.2.2.1) (hts _ hw1) (hts _ hw2) hnm ⟨hok.1, hok.2.1, hok.2.2.1⟩ (x_room hC hdd hok)) ⟨x_blind, x_pre (As := .ref a :: As) hC hR hS⟩ rfl (by rw [List.length_map]; exact hn) hl.1 ?_ (lv_room (x_cat8 G hcat)) hd ⟨by rw [← h9.2.2.1]; exact hkk.1, by rw [← h9.2.2.2]; exact hkk.2⟩) hS (fun v sh' M' J' H1 locs1 hq hR1 hS1 => ?_)
  · simp [List.map_append, List.map_reverse, x_rn]
  · have := k v sh' M' J' hq p e R s m args below meth c H1 locs1 WQ arr hC hr hR1 hS1 (by exact hkk.1) (by exact hkk.2) hl
    rw [List.map_append] at this
    cases v <;> exact this
end XR
end
section
set_option maxRecDepth 100000 in
theorem uw0 : ∀ w ∈ u_ws RX0 TX0 6, w ∈ xU := by decide +kernel
set_option maxRecDepth 100000 in
theorem uw1 : ∀ w ∈ u_ws RX1 TX1 7, w ∈ xU := by decide +kernel
set_option maxRecDepth 100000 in
theorem uw2 : ∀ w ∈ u_ws RX2 TX2 5, w ∈ xU := by decide +kernel
set_option maxRecDepth 100000 in
theorem uw3 : ∀ w ∈ u_ws RX3 TX3 6, w ∈ xU := by decide +kernel
set_option maxRecDepth 100000 in
theorem uw4 : ∀ w ∈ u_ws RX4 TX4 5, w ∈ xU := by decide +kernel
set_option maxRecDepth 100000 in
theorem uw5 : ∀ w ∈ u_ws RX5 TX5 10, w ∈ xU := by decide +kernel
set_option maxRecDepth 100000 in
theorem uw6 : ∀ w ∈ u_ws RX6 TX6 5, w ∈ xU := by decide +kernel
set_option maxRecDepth 100000 in
theorem uw7 : ∀ w ∈ u_ws RX7 TX7 8, w ∈ xU := by decide +kernel
set_option maxRecDepth 100000 in
theorem uw8 : ∀ w ∈ u_ws RX8 TX8 5, w ∈ xU := by decide +kernel
set_option maxRecDepth 100000 in
theorem uw9 : ∀ w ∈ u_ws RX9 TX9 10, w ∈ xU := by decide +kernel
set_option maxRecDepth 100000 in
theorem uw10 : ∀ w ∈ u_ws RX10 TX10 46, w ∈ xU := by decide +kernel
theorem okJ6_bitCount_0f7a4 : x_ok fJ6_bitCount_0f7a4 1 := ⟨by decide +kernel, by decide +kernel, by decide +kernel, by decide, x_mem 14 u1 rfl rfl, x_mem 239 u3 rfl rfl⟩
theorem okJ9_abs_0f7a4 : x_ok fJ9_abs_0f7a4 1 := ⟨by decide +kernel, by decide +kernel, by decide +kernel, by decide, x_mem 13 u1 rfl rfl, x_mem 95 u3 rfl rfl⟩
theorem okJ9_floorMod_7cf53 : x_ok fJ9_floorMod_7cf53 2 := ⟨by decide +kernel, by decide +kernel, by decide +kernel, by decide, x_mem 13 u1 rfl rfl, x_mem 82 u3 rfl rfl⟩
theorem okJ9_max_7cf53 : x_ok fJ9_max_7cf53 2 := ⟨by decide +kernel, by decide +kernel, by decide +kernel, by decide, x_mem 13 u1 rfl rfl, x_mem 110 u3 rfl rfl⟩
theorem okJ9_min_7cf53 : x_ok fJ9_min_7cf53 2 := ⟨by decide +kernel, by decide +kernel, by decide +kernel, by decide, x_mem 13 u1 rfl rfl, x_mem 85 u3 rfl rfl⟩
theorem okX0_forgetOldest : x_ok fX0_forgetOldest 0 := ⟨by decide +kernel, by decide +kernel, by decide +kernel, by decide, x_mem 8 u1 rfl rfl, x_mem 211 u2 rfl rfl⟩
theorem okX0_init : x_ok fX0_init 0 := ⟨by decide +kernel, by decide +kernel, by decide +kernel, by decide, x_mem 8 u1 rfl rfl, x_mem 231 u1 rfl rfl⟩
theorem okX0_note : x_ok fX0_note 4 := ⟨by decide +kernel, by decide +kernel, by decide +kernel, by decide, x_mem 8 u1 rfl rfl, x_mem 207 u2 rfl rfl⟩
theorem okX1_becomes : x_ok fX1_becomes 2 := ⟨by decide +kernel, by decide +kernel, by decide +kernel, by decide, x_mem 7 u1 rfl rfl, x_mem 69 u4 rfl rfl⟩
theorem okX1_beside : x_ok fX1_beside 2 := ⟨by decide +kernel, by decide +kernel, by decide +kernel, by decide, x_mem 7 u1 rfl rfl, x_mem 100 u4 rfl rfl⟩
theorem okX1_draw : x_ok fX1_draw 0 := ⟨by decide +kernel, by decide +kernel, by decide +kernel, by decide, x_mem 7 u1 rfl rfl, x_mem 88 u4 rfl rfl⟩
theorem okX1_drop : x_ok fX1_drop 3 := ⟨by decide +kernel, by decide +kernel, by decide +kernel, by decide, x_mem 7 u1 rfl rfl, x_mem 93 u4 rfl rfl⟩
theorem okX1_howManyUp : x_ok fX1_howManyUp 0 := ⟨by decide +kernel, by decide +kernel, by decide +kernel, by decide, x_mem 7 u1 rfl rfl, x_mem 104 u4 rfl rfl⟩
theorem okX1_init : x_ok fX1_init 0 := ⟨by decide +kernel, by decide +kernel, by decide +kernel, by decide, x_mem 7 u1 rfl rfl, x_mem 196 u1 rfl rfl⟩
theorem okX1_knockFrom : x_ok fX1_knockFrom 2 := ⟨by decide +kernel, by decide +kernel, by decide +kernel, by decide, x_mem 7 u1 rfl rfl, x_mem 97 u4 rfl rfl⟩
theorem okX1_learnMinute : x_ok fX1_learnMinute 1 := ⟨by decide +kernel, by decide +kernel, by decide +kernel, by decide, x_mem 7 u1 rfl rfl, x_mem 133 u4 rfl rfl⟩
theorem okX1_longest : x_ok fX1_longest 0 := ⟨by decide +kernel, by decide +kernel, by decide +kernel, by decide, x_mem 7 u1 rfl rfl, x_mem 116 u4 rfl rfl⟩
theorem okX1_minutesAt : x_ok fX1_minutesAt 1 := ⟨by decide +kernel, by decide +kernel, by decide +kernel, by decide, x_mem 7 u1 rfl rfl, x_mem 136 u4 rfl rfl⟩
theorem okX1_play : x_ok fX1_play 2 := ⟨by decide +kernel, by decide +kernel, by decide +kernel, by decide, x_mem 7 u1 rfl rfl, x_mem 80 u4 rfl rfl⟩
theorem okX1_playMinute : x_ok fX1_playMinute 1 := ⟨by decide +kernel, by decide +kernel, by decide +kernel, by decide, x_mem 7 u1 rfl rfl, x_mem 84 u4 rfl rfl⟩
theorem okX10_above : x_ok fX10_above 1 := ⟨by decide +kernel, by decide +kernel, by decide +kernel, by decide, x_mem 11 u1 rfl rfl, x_mem 105 u7 rfl rfl⟩
theorem okX10_act : x_ok fX10_act 3 := ⟨by decide +kernel, by decide +kernel, by decide +kernel, by decide, x_mem 11 u1 rfl rfl, x_mem 39 u7 rfl rfl⟩
theorem okX10_adds : x_ok fX10_adds 3 := ⟨by decide +kernel, by decide +kernel, by decide +kernel, by decide, x_mem 11 u1 rfl rfl, x_mem 223 u5 rfl rfl⟩
theorem okX10_alone : x_ok fX10_alone 3 := ⟨by decide +kernel, by decide +kernel, by decide +kernel, by decide, x_mem 11 u1 rfl rfl, x_mem 9 u7 rfl rfl⟩
theorem okX10_asSort : x_ok fX10_asSort 2 := ⟨by decide +kernel, by decide +kernel, by decide +kernel, by decide, x_mem 11 u1 rfl rfl, x_mem 86 u7 rfl rfl⟩
theorem okX10_back : x_ok fX10_back 0 := ⟨by decide +kernel, by decide +kernel, by decide +kernel, by decide, x_mem 11 u1 rfl rfl, x_mem 31 u7 rfl rfl⟩
theorem okX10_beatFor : x_ok fX10_beatFor 1 := ⟨by decide +kernel, by decide +kernel, by decide +kernel, by decide, x_mem 11 u1 rfl rfl, x_mem 157 u6 rfl rfl⟩
theorem okX10_becomes : x_ok fX10_becomes 2 := ⟨by decide +kernel, by decide +kernel, by decide +kernel, by decide, x_mem 11 u1 rfl rfl, x_mem 4 u6 rfl rfl⟩
theorem okX10_becomesPace : x_ok fX10_becomesPace 2 := ⟨by decide +kernel, by decide +kernel, by decide +kernel, by decide, x_mem 11 u1 rfl rfl, x_mem 118 u6 rfl rfl⟩
theorem okX10_begins : x_ok fX10_begins 1 := ⟨by decide +kernel, by decide +kernel, by decide +kernel, by decide, x_mem 11 u1 rfl rfl, x_mem 51 u7 rfl rfl⟩
theorem okX10_begins1 : x_ok fX10_begins1 1 := ⟨by decide +kernel, by decide +kernel, by decide +kernel, by decide, x_mem 11 u1 rfl rfl, x_mem 84 u6 rfl rfl⟩
theorem okX10_begun : x_ok fX10_begun 3 := ⟨by decide +kernel, by decide +kernel, by decide +kernel, by decide, x_mem 11 u1 rfl rfl, x_mem 208 u6 rfl rfl⟩
theorem okX10_besideOf : x_ok fX10_besideOf 2 := ⟨by decide +kernel, by decide +kernel, by decide +kernel, by decide, x_mem 11 u1 rfl rfl, x_mem 237 u6 rfl rfl⟩
theorem okX10_bitsOf : x_ok fX10_bitsOf 1 := ⟨by decide +kernel, by decide +kernel, by decide +kernel, by decide, x_mem 11 u1 rfl rfl, x_mem 125 u6 rfl rfl⟩
theorem okX10_body : x_ok fX10_body 1 := ⟨by decide +kernel, by decide +kernel, by decide +kernel, by decide, x_mem 11 u1 rfl rfl, x_mem 35 u7 rfl rfl⟩
theorem okX10_both : x_ok fX10_both 0 := ⟨by decide +kernel, by decide +kernel, by decide +kernel, by decide, x_mem 11 u1 rfl rfl, x_mem 40 u6 rfl rfl⟩
theorem okX10_byteAt : x_ok fX10_byteAt 0 := ⟨by decide +kernel, by decide +kernel, by decide +kernel, by decide, x_mem 11 u1 rfl rfl, x_mem 60 u6 rfl rfl⟩
theorem okX10_compared : x_ok fX10_compared 0 := ⟨by decide +kernel, by decide +kernel, by decide +kernel, by decide, x_mem 11 u1 rfl rfl, x_mem 44 u6 rfl rfl⟩
theorem okX10_count : x_ok fX10_count 1 := ⟨by decide +kernel, by decide +kernel, by decide +kernel, by decide, x_mem 11 u1 rfl rfl, x_mem 109 u7 rfl rfl⟩
theorem okX10_draws : x_ok fX10_draws 0 := ⟨by decide +kernel, by decide +kernel, by decide +kernel, by decide, x_mem 11 u1 rfl rfl, x_mem 229 u6 rfl rfl⟩
theorem okX10_drops : x_ok fX10_drops 3 := ⟨by decide +kernel, by decide +kernel, by decide +kernel, by decide, x_mem 11 u1 rfl rfl, x_mem 234 u6 rfl rfl⟩
theorem okX10_either : x_ok fX10_either 0 := ⟨by decide +kernel, by decide +kernel, by decide +kernel, by decide, x_mem 11 u1 rfl rfl, x_mem 36 u6 rfl rfl⟩
theorem okX10_element : x_ok fX10_element 2 := ⟨by decide +kernel, by decide +kernel, by decide +kernel, by decide, x_mem 11 u1 rfl rfl, x_mem 90 u7 rfl rfl⟩
theorem okX10_fallOf : x_ok fX10_fallOf 1 := ⟨by decide +kernel, by decide +kernel, by decide +kernel, by decide, x_mem 11 u1 rfl rfl, x_mem 145 u6 rfl rfl⟩
theorem okX10_fallWith : x_ok fX10_fallWith 4 := ⟨by decide +kernel, by decide +kernel, by decide +kernel, by decide, x_mem 11 u1 rfl rfl, x_mem 183 u6 rfl rfl⟩
theorem okX10_falls : x_ok fX10_falls 1 := ⟨by decide +kernel, by decide +kernel, by decide +kernel, by decide, x_mem 11 u1 rfl rfl, x_mem 141 u6 rfl rfl⟩
theorem okX10_feed : x_ok fX10_feed 1 := ⟨by decide +kernel, by decide +kernel, by decide +kernel, by decide, x_mem 11 u1 rfl rfl, x_mem 23 u6 rfl rfl⟩
theorem okX10_field : x_ok fX10_field 2 := ⟨by decide +kernel, by decide +kernel, by decide +kernel, by decide, x_mem 11 u1 rfl rfl, x_mem 225 u6 rfl rfl⟩
theorem okX10_firstFalse : x_ok fX10_firstFalse 2 := ⟨by decide +kernel, by decide +kernel, by decide +kernel, by decide, x_mem 11 u1 rfl rfl, x_mem 204 u6 rfl rfl⟩
theorem okX10_gained : x_ok fX10_gained 3 := ⟨by decide +kernel, by decide +kernel, by decide +kernel, by decide, x_mem 11 u1 rfl rfl, x_mem 114 u6 rfl rfl⟩
theorem okX10_go : x_ok fX10_go 1 := ⟨by decide +kernel, by decide +kernel, by decide +kernel, by decide, x_mem 11 u1 rfl rfl, x_mem 75 u6 rfl rfl⟩
theorem okX10_held : x_ok fX10_held 1 := ⟨by decide +kernel, by decide +kernel, by decide +kernel, by decide, x_mem 11 u1 rfl rfl, x_mem 175 u6 rfl rfl⟩
theorem okX10_hoop : x_ok fX10_hoop 1 := ⟨by decide +kernel, by decide +kernel, by decide +kernel, by decide, x_mem 11 u1 rfl rfl, x_mem 213 u5 rfl rfl⟩
theorem okX10_hoops : x_ok fX10_hoops 3 := ⟨by decide +kernel, by decide +kernel, by decide +kernel, by decide, x_mem 11 u1 rfl rfl, x_mem 227 u5 rfl rfl⟩
theorem okX10_image : x_ok fX10_image 0 := ⟨by decide +kernel, by decide +kernel, by decide +kernel, by decide, x_mem 11 u1 rfl rfl, x_mem 27 u7 rfl rfl⟩
theorem okX10_init : x_ok fX10_init 0 := ⟨by decide +kernel, by decide +kernel, by decide +kernel, by decide, x_mem 11 u1 rfl rfl, x_mem 52 u5 rfl rfl⟩
theorem okX10_isBody : x_ok fX10_isBody 1 := ⟨by decide +kernel, by decide +kernel, by decide +kernel, by decide, x_mem 11 u1 rfl rfl, x_mem 43 u7 rfl rfl⟩
theorem okX10_isGirl : x_ok fX10_isGirl 1 := ⟨by decide +kernel, by decide +kernel, by decide +kernel, by decide, x_mem 11 u1 rfl rfl, x_mem 215 u6 rfl rfl⟩
theorem okX10_isHoop : x_ok fX10_isHoop 1 := ⟨by decide +kernel, by decide +kernel, by decide +kernel, by decide, x_mem 11 u1 rfl rfl, x_mem 0 u6 rfl rfl⟩
theorem okX10_isIn : x_ok fX10_isIn 2 := ⟨by decide +kernel, by decide +kernel, by decide +kernel, by decide, x_mem 11 u1 rfl rfl, x_mem 87 u6 rfl rfl⟩
theorem okX10_isOne : x_ok fX10_isOne 3 := ⟨by decide +kernel, by decide +kernel, by decide +kernel, by decide, x_mem 11 u1 rfl rfl, x_mem 217 u5 rfl rfl⟩
theorem okX10_isPush : x_ok fX10_isPush 1 := ⟨by decide +kernel, by decide +kernel, by decide +kernel, by decide, x_mem 11 u1 rfl rfl, x_mem 99 u6 rfl rfl⟩
theorem okX10_isShelf : x_ok fX10_isShelf 1 := ⟨by decide +kernel, by decide +kernel, by decide +kernel, by decide, x_mem 11 u1 rfl rfl, x_mem 230 u5 rfl rfl⟩
theorem okX10_judge : x_ok fX10_judge 2 := ⟨by decide +kernel, by decide +kernel, by decide +kernel, by decide, x_mem 11 u1 rfl rfl, x_mem 200 u6 rfl rfl⟩
theorem okX10_keep : x_ok fX10_keep 2 := ⟨by decide +kernel, by decide +kernel, by decide +kernel, by decide, x_mem 11 u1 rfl rfl, x_mem 71 u7 rfl rfl⟩
theorem okX10_kindOf : x_ok fX10_kindOf 1 := ⟨by decide +kernel, by decide +kernel, by decide +kernel, by decide, x_mem 11 u1 rfl rfl, x_mem 102 u7 rfl rfl⟩
theorem okX10_knocked : x_ok fX10_knocked 3 := ⟨by decide +kernel, by decide +kernel, by decide +kernel, by decide, x_mem 11 u1 rfl rfl, x_mem 1 u7 rfl rfl⟩
theorem okX10_last : x_ok fX10_last 2 := ⟨by decide +kernel, by decide +kernel, by decide +kernel, by decide, x_mem 11 u1 rfl rfl, x_mem 5 u7 rfl rfl⟩
theorem okX10_lasts : x_ok fX10_lasts 0 := ⟨by decide +kernel, by decide +kernel, by decide +kernel, by decide, x_mem 11 u1 rfl rfl, x_mem 149 u6 rfl rfl⟩
theorem okX10_lastsOf : x_ok fX10_lastsOf 1 := ⟨by decide +kernel, by decide +kernel, by decide +kernel, by decide, x_mem 11 u1 rfl rfl, x_mem 153 u6 rfl rfl⟩
theorem okX10_law : x_ok fX10_law 0 := ⟨by decide +kernel, by decide +kernel, by decide +kernel, by decide, x_mem 11 u1 rfl rfl, x_mem 28 u6 rfl rfl⟩
theorem okX10_lays : x_ok fX10_lays 2 := ⟨by decide +kernel, by decide +kernel, by decide +kernel, by decide, x_mem 11 u1 rfl rfl, x_mem 200 u5 rfl rfl⟩
theorem okX10_learn : x_ok fX10_learn 2 := ⟨by decide +kernel, by decide +kernel, by decide +kernel, by decide, x_mem 11 u1 rfl rfl, x_mem 15 u7 rfl rfl⟩
theorem okX10_leastPush : x_ok fX10_leastPush 1 := ⟨by decide +kernel, by decide +kernel, by decide +kernel, by decide, x_mem 11 u1 rfl rfl, x_mem 162 u6 rfl rfl⟩
theorem okX10_led : x_ok fX10_led 1 := ⟨by decide +kernel, by decide +kernel, by decide +kernel, by decide, x_mem 11 u1 rfl rfl, x_mem 133 u6 rfl rfl⟩
theorem okX10_left : x_ok fX10_left 3 := ⟨by decide +kernel, by decide +kernel, by decide +kernel, by decide, x_mem 11 u1 rfl rfl, x_mem 220 u6 rfl rfl⟩
theorem okX10_lift : x_ok fX10_lift 1 := ⟨by decide +kernel, by decide +kernel, by decide +kernel, by decide, x_mem 11 u1 rfl rfl, x_mem 129 u6 rfl rfl⟩
theorem okX10_lyingOf : x_ok fX10_lyingOf 1 := ⟨by decide +kernel, by decide +kernel, by decide +kernel, by decide, x_mem 11 u1 rfl rfl, x_mem 91 u6 rfl rfl⟩
theorem okX10_mend : x_ok fX10_mend 3 := ⟨by decide +kernel, by decide +kernel, by decide +kernel, by decide, x_mem 11 u1 rfl rfl, x_mem 235 u5 rfl rfl⟩
theorem okX10_mistake : x_ok fX10_mistake 2 := ⟨by decide +kernel, by decide +kernel, by decide +kernel, by decide, x_mem 11 u1 rfl rfl, x_mem 166 u6 rfl rfl⟩
theorem okX10_mistaken : x_ok fX10_mistaken 1 := ⟨by decide +kernel, by decide +kernel, by decide +kernel, by decide, x_mem 11 u1 rfl rfl, x_mem 171 u6 rfl rfl⟩
theorem okX10_music : x_ok fX10_music 1 := ⟨by decide +kernel, by decide +kernel, by decide +kernel, by decide, x_mem 11 u1 rfl rfl, x_mem 191 u6 rfl rfl⟩
theorem okX10_nameOf : x_ok fX10_nameOf 1 := ⟨by decide +kernel, by decide +kernel, by decide +kernel, by decide, x_mem 11 u1 rfl rfl, x_mem 71 u6 rfl rfl⟩
theorem okX10_needOf : x_ok fX10_needOf 1 := ⟨by decide +kernel, by decide +kernel, by decide +kernel, by decide, x_mem 11 u1 rfl rfl, x_mem 15 u6 rfl rfl⟩
theorem okX10_needsOf : x_ok fX10_needsOf 1 := ⟨by decide +kernel, by decide +kernel, by decide +kernel, by decide, x_mem 11 u1 rfl rfl, x_mem 19 u7 rfl rfl⟩
theorem okX10_of : x_ok fX10_of 2 := ⟨by decide +kernel, by decide +kernel, by decide +kernel, by decide, x_mem 11 u1 rfl rfl, x_mem 11 u6 rfl rfl⟩
theorem okX10_one : x_ok fX10_one 0 := ⟨by decide +kernel, by decide +kernel, by decide +kernel, by decide, x_mem 11 u1 rfl rfl, x_mem 56 u6 rfl rfl⟩
theorem okX10_product : x_ok fX10_product 0 := ⟨by decide +kernel, by decide +kernel, by decide +kernel, by decide, x_mem 11 u1 rfl rfl, x_mem 52 u6 rfl rfl⟩
theorem okX10_pushes : x_ok fX10_pushes 2 := ⟨by decide +kernel, by decide +kernel, by decide +kernel, by decide, x_mem 11 u1 rfl rfl, x_mem 107 u6 rfl rfl⟩
theorem okX10_pushesAs : x_ok fX10_pushesAs 2 := ⟨by decide +kernel, by decide +kernel, by decide +kernel, by decide, x_mem 11 u1 rfl rfl, x_mem 47 u7 rfl rfl⟩
theorem okX10_put : x_ok fX10_put 3 := ⟨by decide +kernel, by decide +kernel, by decide +kernel, by decide, x_mem 11 u1 rfl rfl, x_mem 79 u7 rfl rfl⟩
theorem okX10_redo : x_ok fX10_redo 0 := ⟨by decide +kernel, by decide +kernel, by decide +kernel, by decide, x_mem 11 u1 rfl rfl, x_mem 209 u5 rfl rfl⟩
theorem okX10_refusal : x_ok fX10_refusal 2 := ⟨by decide +kernel, by decide +kernel, by decide +kernel, by decide, x_mem 11 u1 rfl rfl, x_mem 83 u7 rfl rfl⟩
theorem okX10_rescue : x_ok fX10_rescue 2 := ⟨by decide +kernel, by decide +kernel, by decide +kernel, by decide, x_mem 11 u1 rfl rfl, x_mem 179 u6 rfl rfl⟩
theorem okX10_row : x_ok fX10_row 3 := ⟨by decide +kernel, by decide +kernel, by decide +kernel, by decide, x_mem 11 u1 rfl rfl, x_mem 75 u7 rfl rfl⟩
theorem okX10_rowIs : x_ok fX10_rowIs 1 := ⟨by decide +kernel, by decide +kernel, by decide +kernel, by decide, x_mem 11 u1 rfl rfl, x_mem 195 u6 rfl rfl⟩
theorem okX10_shift : x_ok fX10_shift 5 := ⟨by decide +kernel, by decide +kernel, by decide +kernel, by decide, x_mem 11 u1 rfl rfl, x_mem 94 u7 rfl rfl⟩
theorem okX10_sinksAs : x_ok fX10_sinksAs 2 := ⟨by decide +kernel, by decide +kernel, by decide +kernel, by decide, x_mem 11 u1 rfl rfl, x_mem 59 u7 rfl rfl⟩
theorem okX10_sizeOf : x_ok fX10_sizeOf 1 := ⟨by decide +kernel, by decide +kernel, by decide +kernel, by decide, x_mem 11 u1 rfl rfl, x_mem 110 u6 rfl rfl⟩
theorem okX10_skill : x_ok fX10_skill 2 := ⟨by decide +kernel, by decide +kernel, by decide +kernel, by decide, x_mem 11 u1 rfl rfl, x_mem 212 u6 rfl rfl⟩
theorem okX10_start : x_ok fX10_start 1 := ⟨by decide +kernel, by decide +kernel, by decide +kernel, by decide, x_mem 11 u1 rfl rfl, x_mem 187 u6 rfl rfl⟩
theorem okX10_sums : x_ok fX10_sums 0 := ⟨by decide +kernel, by decide +kernel, by decide +kernel, by decide, x_mem 11 u1 rfl rfl, x_mem 48 u6 rfl rfl⟩
theorem okX10_taken : x_ok fX10_taken 2 := ⟨by decide +kernel, by decide +kernel, by decide +kernel, by decide, x_mem 11 u1 rfl rfl, x_mem 98 u7 rfl rfl⟩
theorem okX10_takes : x_ok fX10_takes 1 := ⟨by decide +kernel, by decide +kernel, by decide +kernel, by decide, x_mem 11 u1 rfl rfl, x_mem 68 u6 rfl rfl⟩
theorem okX10_tellsAs : x_ok fX10_tellsAs 2 := ⟨by decide +kernel, by decide +kernel, by decide +kernel, by decide, x_mem 11 u1 rfl rfl, x_mem 63 u7 rfl rfl⟩
theorem okX10_then : x_ok fX10_then 3 := ⟨by decide +kernel, by decide +kernel, by decide +kernel, by decide, x_mem 11 u1 rfl rfl, x_mem 137 u6 rfl rfl⟩
theorem okX10_tickGoes : x_ok fX10_tickGoes 1 := ⟨by decide +kernel, by decide +kernel, by decide +kernel, by decide, x_mem 11 u1 rfl rfl, x_mem 95 u6 rfl rfl⟩
theorem okX10_till : x_ok fX10_till 2 := ⟨by decide +kernel, by decide +kernel, by decide +kernel, by decide, x_mem 11 u1 rfl rfl, x_mem 23 u7 rfl rfl⟩
theorem okX10_toOf : x_ok fX10_toOf 1 := ⟨by decide +kernel, by decide +kernel, by decide +kernel, by decide, x_mem 11 u1 rfl rfl, x_mem 103 u6 rfl rfl⟩
theorem okX10_trace : x_ok fX10_trace 1 := ⟨by decide +kernel, by decide +kernel, by decide +kernel, by decide, x_mem 11 u1 rfl rfl, x_mem 67 u7 rfl rfl⟩
theorem okX10_turns : x_ok fX10_turns 1 := ⟨by decide +kernel, by decide +kernel, by decide +kernel, by decide, x_mem 11 u1 rfl rfl, x_mem 122 u6 rfl rfl⟩
theorem okX10_turnsAs : x_ok fX10_turnsAs 2 := ⟨by decide +kernel, by decide +kernel, by decide +kernel, by decide, x_mem 11 u1 rfl rfl, x_mem 55 u7 rfl rfl⟩
theorem okX10_undo : x_ok fX10_undo 0 := ⟨by decide +kernel, by decide +kernel, by decide +kernel, by decide, x_mem 11 u1 rfl rfl, x_mem 196 u5 rfl rfl⟩
theorem okX10_upNow : x_ok fX10_upNow 0 := ⟨by decide +kernel, by decide +kernel, by decide +kernel, by decide, x_mem 11 u1 rfl rfl, x_mem 80 u6 rfl rfl⟩
theorem okX10_within : x_ok fX10_within 3 := ⟨by decide +kernel, by decide +kernel, by decide +kernel, by decide, x_mem 11 u1 rfl rfl, x_mem 205 u5 rfl rfl⟩
theorem okX10_workOut : x_ok fX10_workOut 2 := ⟨by decide +kernel, by decide +kernel, by decide +kernel, by decide, x_mem 11 u1 rfl rfl, x_mem 32 u6 rfl rfl⟩
theorem okX10_wrong : x_ok fX10_wrong 0 := ⟨by decide +kernel, by decide +kernel, by decide +kernel, by decide, x_mem 11 u1 rfl rfl, x_mem 64 u6 rfl rfl⟩
theorem okX2_become : x_ok fX2_become 2 := ⟨by decide +kernel, by decide +kernel, by decide +kernel, by decide, x_mem 5 u1 rfl rfl, x_mem 202 u2 rfl rfl⟩
theorem okX2_copy : x_ok fX2_copy 1 := ⟨by decide +kernel, by decide +kernel, by decide +kernel, by decide, x_mem 5 u1 rfl rfl, x_mem 177 u3 rfl rfl⟩
theorem okX2_copyWay : x_ok fX2_copyWay 1 := ⟨by decide +kernel, by decide +kernel, by decide +kernel, by decide, x_mem 5 u1 rfl rfl, x_mem 181 u3 rfl rfl⟩
theorem okX2_drop : x_ok fX2_drop 0 := ⟨by decide +kernel, by decide +kernel, by decide +kernel, by decide, x_mem 5 u1 rfl rfl, x_mem 14 u4 rfl rfl⟩
theorem okX2_farFrom : x_ok fX2_farFrom 1 := ⟨by decide +kernel, by decide +kernel, by decide +kernel, by decide, x_mem 5 u1 rfl rfl, x_mem 79 u3 rfl rfl⟩
theorem okX2_init : x_ok fX2_init 0 := ⟨by decide +kernel, by decide +kernel, by decide +kernel, by decide, x_mem 5 u1 rfl rfl, x_mem 88 u1 rfl rfl⟩
theorem okX2_lies : x_ok fX2_lies 0 := ⟨by decide +kernel, by decide +kernel, by decide +kernel, by decide, x_mem 5 u1 rfl rfl, x_mem 169 u2 rfl rfl⟩
theorem okX2_move : x_ok fX2_move 0 := ⟨by decide +kernel, by decide +kernel, by decide +kernel, by decide, x_mem 5 u1 rfl rfl, x_mem 132 u3 rfl rfl⟩
theorem okX2_need : x_ok fX2_need 0 := ⟨by decide +kernel, by decide +kernel, by decide +kernel, by decide, x_mem 5 u1 rfl rfl, x_mem 189 u2 rfl rfl⟩
theorem okX2_quicken : x_ok fX2_quicken 1 := ⟨by decide +kernel, by decide +kernel, by decide +kernel, by decide, x_mem 5 u1 rfl rfl, x_mem 122 u3 rfl rfl⟩
theorem okX2_raise : x_ok fX2_raise 0 := ⟨by decide +kernel, by decide +kernel, by decide +kernel, by decide, x_mem 5 u1 rfl rfl, x_mem 124 u2 rfl rfl⟩
theorem okX2_sankToLie : x_ok fX2_sankToLie 0 := ⟨by decide +kernel, by decide +kernel, by decide +kernel, by decide, x_mem 5 u1 rfl rfl, x_mem 143 u3 rfl rfl⟩
theorem okX2_speed : x_ok fX2_speed 0 := ⟨by decide +kernel, by decide +kernel, by decide +kernel, by decide, x_mem 5 u1 rfl rfl, x_mem 92 u3 rfl rfl⟩
theorem okX2_told : x_ok fX2_told 1 := ⟨by decide +kernel, by decide +kernel, by decide +kernel, by decide, x_mem 5 u1 rfl rfl, x_mem 185 u2 rfl rfl⟩
theorem okX3_add : x_ok fX3_add 2 := ⟨by decide +kernel, by decide +kernel, by decide +kernel, by decide, x_mem 2 u1 rfl rfl, x_mem 24 u3 rfl rfl⟩
theorem okX3_copy : x_ok fX3_copy 1 := ⟨by decide +kernel, by decide +kernel, by decide +kernel, by decide, x_mem 2 u1 rfl rfl, x_mem 43 u3 rfl rfl⟩
theorem okX3_init : x_ok fX3_init 0 := ⟨by decide +kernel, by decide +kernel, by decide +kernel, by decide, x_mem 2 u1 rfl rfl, x_mem 27 u1 rfl rfl⟩
theorem okX3_joined : x_ok fX3_joined 3 := ⟨by decide +kernel, by decide +kernel, by decide +kernel, by decide, x_mem 2 u1 rfl rfl, x_mem 118 u3 rfl rfl⟩
theorem okX3_more : x_ok fX3_more 3 := ⟨by decide +kernel, by decide +kernel, by decide +kernel, by decide, x_mem 2 u1 rfl rfl, x_mem 75 u3 rfl rfl⟩
theorem okX3_pile : x_ok fX3_pile 1 := ⟨by decide +kernel, by decide +kernel, by decide +kernel, by decide, x_mem 2 u1 rfl rfl, x_mem 103 u3 rfl rfl⟩
theorem okX3_unpile : x_ok fX3_unpile 0 := ⟨by decide +kernel, by decide +kernel, by decide +kernel, by decide, x_mem 2 u1 rfl rfl, x_mem 114 u3 rfl rfl⟩
theorem okX3_withoutText : x_ok fX3_withoutText 2 := ⟨by decide +kernel, by decide +kernel, by decide +kernel, by decide, x_mem 2 u1 rfl rfl, x_mem 88 u3 rfl rfl⟩
theorem okX3_worth : x_ok fX3_worth 0 := ⟨by decide +kernel, by decide +kernel, by decide +kernel, by decide, x_mem 2 u1 rfl rfl, x_mem 99 u3 rfl rfl⟩
theorem okX4_init : x_ok fX4_init 0 := ⟨by decide +kernel, by decide +kernel, by decide +kernel, by decide, x_mem 3 u1 rfl rfl, x_mem 55 u1 rfl rfl⟩
theorem okX4_isDigit : x_ok fX4_isDigit 1 := ⟨by decide +kernel, by decide +kernel, by decide +kernel, by decide, x_mem 3 u1 rfl rfl, x_mem 16 u3 rfl rfl⟩
theorem okX4_isJoin : x_ok fX4_isJoin 1 := ⟨by decide +kernel, by decide +kernel, by decide +kernel, by decide, x_mem 3 u1 rfl rfl, x_mem 39 u3 rfl rfl⟩
theorem okX4_nameOf : x_ok fX4_nameOf 1 := ⟨by decide +kernel, by decide +kernel, by decide +kernel, by decide, x_mem 3 u1 rfl rfl, x_mem 27 u3 rfl rfl⟩
theorem okX4_next : x_ok fX4_next 0 := ⟨by decide +kernel, by decide +kernel, by decide +kernel, by decide, x_mem 3 u1 rfl rfl, x_mem 13 u3 rfl rfl⟩
theorem okX4_readChain : x_ok fX4_readChain 2 := ⟨by decide +kernel, by decide +kernel, by decide +kernel, by decide, x_mem 3 u1 rfl rfl, x_mem 5 u3 rfl rfl⟩
theorem okX4_readLine : x_ok fX4_readLine 0 := ⟨by decide +kernel, by decide +kernel, by decide +kernel, by decide, x_mem 3 u1 rfl rfl, x_mem 1 u3 rfl rfl⟩
theorem okX4_readNumber : x_ok fX4_readNumber 0 := ⟨by decide +kernel, by decide +kernel, by decide +kernel, by decide, x_mem 3 u1 rfl rfl, x_mem 20 u3 rfl rfl⟩
theorem okX4_readOpened : x_ok fX4_readOpened 2 := ⟨by decide +kernel, by decide +kernel, by decide +kernel, by decide, x_mem 3 u1 rfl rfl, x_mem 31 u3 rfl rfl⟩
theorem okX4_readOperand : x_ok fX4_readOperand 1 := ⟨by decide +kernel, by decide +kernel, by decide +kernel, by decide, x_mem 3 u1 rfl rfl, x_mem 9 u3 rfl rfl⟩
theorem okX4_readText : x_ok fX4_readText 0 := ⟨by decide +kernel, by decide +kernel, by decide +kernel, by decide, x_mem 3 u1 rfl rfl, x_mem 237 u2 rfl rfl⟩
theorem okX4_takeIn : x_ok fX4_takeIn 1 := ⟨by decide +kernel, by decide +kernel, by decide +kernel, by decide, x_mem 3 u1 rfl rfl, x_mem 229 u2 rfl rfl⟩
theorem okX4_takes : x_ok fX4_takes 1 := ⟨by decide +kernel, by decide +kernel, by decide +kernel, by decide, x_mem 3 u1 rfl rfl, x_mem 35 u3 rfl rfl⟩
theorem okX5_addHoop : x_ok fX5_addHoop 3 := ⟨by decide +kernel, by decide +kernel, by decide +kernel, by decide, x_mem 4 u1 rfl rfl, x_mem 119 u2 rfl rfl⟩
theorem okX5_allHighest : x_ok fX5_allHighest 0 := ⟨by decide +kernel, by decide +kernel, by decide +kernel, by decide, x_mem 4 u1 rfl rfl, x_mem 232 u3 rfl rfl⟩
theorem okX5_allUp : x_ok fX5_allUp 1 := ⟨by decide +kernel, by decide +kernel, by decide +kernel, by decide, x_mem 4 u1 rfl rfl, x_mem 6 u4 rfl rfl⟩
theorem okX5_areCrossed : x_ok fX5_areCrossed 2 := ⟨by decide +kernel, by decide +kernel, by decide +kernel, by decide, x_mem 4 u1 rfl rfl, x_mem 139 u3 rfl rfl⟩
theorem okX5_copy : x_ok fX5_copy 1 := ⟨by decide +kernel, by decide +kernel, by decide +kernel, by decide, x_mem 4 u1 rfl rfl, x_mem 173 u3 rfl rfl⟩
theorem okX5_cross : x_ok fX5_cross 0 := ⟨by decide +kernel, by decide +kernel, by decide +kernel, by decide, x_mem 4 u1 rfl rfl, x_mem 136 u3 rfl rfl⟩
theorem okX5_goalInTurn : x_ok fX5_goalInTurn 0 := ⟨by decide +kernel, by decide +kernel, by decide +kernel, by decide, x_mem 4 u1 rfl rfl, x_mem 63 u3 rfl rfl⟩
theorem okX5_has : x_ok fX5_has 1 := ⟨by decide +kernel, by decide +kernel, by decide +kernel, by decide, x_mem 4 u1 rfl rfl, x_mem 162 u2 rfl rfl⟩
theorem okX5_init : x_ok fX5_init 1 := ⟨by decide +kernel, by decide +kernel, by decide +kernel, by decide, x_mem 4 u1 rfl rfl, x_mem 81 u1 rfl rfl⟩
theorem okX5_isFull : x_ok fX5_isFull 0 := ⟨by decide +kernel, by decide +kernel, by decide +kernel, by decide, x_mem 4 u1 rfl rfl, x_mem 115 u2 rfl rfl⟩
theorem okX5_isPushDue : x_ok fX5_isPushDue 0 := ⟨by decide +kernel, by decide +kernel, by decide +kernel, by decide, x_mem 4 u1 rfl rfl, x_mem 56 u3 rfl rfl⟩
theorem okX5_layAllBut : x_ok fX5_layAllBut 1 := ⟨by decide +kernel, by decide +kernel, by decide +kernel, by decide, x_mem 4 u1 rfl rfl, x_mem 10 u4 rfl rfl⟩
theorem okX5_layBack : x_ok fX5_layBack 1 := ⟨by decide +kernel, by decide +kernel, by decide +kernel, by decide, x_mem 4 u1 rfl rfl, x_mem 156 u4 rfl rfl⟩
theorem okX5_push : x_ok fX5_push 2 := ⟨by decide +kernel, by decide +kernel, by decide +kernel, by decide, x_mem 4 u1 rfl rfl, x_mem 70 u3 rfl rfl⟩
theorem okX5_settle : x_ok fX5_settle 0 := ⟨by decide +kernel, by decide +kernel, by decide +kernel, by decide, x_mem 4 u1 rfl rfl, x_mem 128 u3 rfl rfl⟩
theorem okX5_tick : x_ok fX5_tick 0 := ⟨by decide +kernel, by decide +kernel, by decide +kernel, by decide, x_mem 4 u1 rfl rfl, x_mem 52 u3 rfl rfl⟩
theorem okX5_upright : x_ok fX5_upright 0 := ⟨by decide +kernel, by decide +kernel, by decide +kernel, by decide, x_mem 4 u1 rfl rfl, x_mem 148 u3 rfl rfl⟩
theorem okX6_bytesRefusal : x_ok fX6_bytesRefusal 0 := ⟨by decide +kernel, by decide +kernel, by decide +kernel, by decide, x_mem 10 u1 rfl rfl, x_mem 38 u4 rfl rfl⟩
theorem okX6_gapAt : x_ok fX6_gapAt 1 := ⟨by decide +kernel, by decide +kernel, by decide +kernel, by decide, x_mem 10 u1 rfl rfl, x_mem 48 u4 rfl rfl⟩
theorem okX6_hasBytes : x_ok fX6_hasBytes 0 := ⟨by decide +kernel, by decide +kernel, by decide +kernel, by decide, x_mem 10 u1 rfl rfl, x_mem 139 u2 rfl rfl⟩
theorem okX6_hasStretch : x_ok fX6_hasStretch 2 := ⟨by decide +kernel, by decide +kernel, by decide +kernel, by decide, x_mem 10 u1 rfl rfl, x_mem 31 u5 rfl rfl⟩
theorem okX6_holdNothing : x_ok fX6_holdNothing 0 := ⟨by decide +kernel, by decide +kernel, by decide +kernel, by decide, x_mem 10 u1 rfl rfl, x_mem 231 u4 rfl rfl⟩
theorem okX6_holdRow : x_ok fX6_holdRow 2 := ⟨by decide +kernel, by decide +kernel, by decide +kernel, by decide, x_mem 10 u1 rfl rfl, x_mem 6 u5 rfl rfl⟩
theorem okX6_holdTurn : x_ok fX6_holdTurn 1 := ⟨by decide +kernel, by decide +kernel, by decide +kernel, by decide, x_mem 10 u1 rfl rfl, x_mem 235 u4 rfl rfl⟩
theorem okX6_init : x_ok fX6_init 0 := ⟨by decide +kernel, by decide +kernel, by decide +kernel, by decide, x_mem 10 u1 rfl rfl, x_mem 49 u2 rfl rfl⟩
theorem okX6_isEmpty : x_ok fX6_isEmpty 0 := ⟨by decide +kernel, by decide +kernel, by decide +kernel, by decide, x_mem 10 u1 rfl rfl, x_mem 135 u2 rfl rfl⟩
theorem okX6_isRow : x_ok fX6_isRow 0 := ⟨by decide +kernel, by decide +kernel, by decide +kernel, by decide, x_mem 10 u1 rfl rfl, x_mem 143 u2 rfl rfl⟩
theorem okX6_isSort : x_ok fX6_isSort 1 := ⟨by decide +kernel, by decide +kernel, by decide +kernel, by decide, x_mem 10 u1 rfl rfl, x_mem 2 u5 rfl rfl⟩
theorem okX6_isTurn : x_ok fX6_isTurn 0 := ⟨by decide +kernel, by decide +kernel, by decide +kernel, by decide, x_mem 10 u1 rfl rfl, x_mem 40 u5 rfl rfl⟩
theorem okX6_lay : x_ok fX6_lay 2 := ⟨by decide +kernel, by decide +kernel, by decide +kernel, by decide, x_mem 10 u1 rfl rfl, x_mem 18 u5 rfl rfl⟩
theorem okX6_placeRefusal : x_ok fX6_placeRefusal 1 := ⟨by decide +kernel, by decide +kernel, by decide +kernel, by decide, x_mem 10 u1 rfl rfl, x_mem 14 u5 rfl rfl⟩
theorem okX7_addPush : x_ok fX7_addPush 3 := ⟨by decide +kernel, by decide +kernel, by decide +kernel, by decide, x_mem 6 u1 rfl rfl, x_mem 22 u4 rfl rfl⟩
theorem okX7_begin : x_ok fX7_begin 0 := ⟨by decide +kernel, by decide +kernel, by decide +kernel, by decide, x_mem 6 u1 rfl rfl, x_mem 169 u3 rfl rfl⟩
theorem okX7_behind : x_ok fX7_behind 2 := ⟨by decide +kernel, by decide +kernel, by decide +kernel, by decide, x_mem 6 u1 rfl rfl, x_mem 165 u3 rfl rfl⟩
theorem okX7_caughtAgain : x_ok fX7_caughtAgain 0 := ⟨by decide +kernel, by decide +kernel, by decide +kernel, by decide, x_mem 6 u1 rfl rfl, x_mem 228 u3 rfl rfl⟩
theorem okX7_fallOf : x_ok fX7_fallOf 1 := ⟨by decide +kernel, by decide +kernel, by decide +kernel, by decide, x_mem 6 u1 rfl rfl, x_mem 198 u3 rfl rfl⟩
theorem okX7_firstUnlike : x_ok fX7_firstUnlike 2 := ⟨by decide +kernel, by decide +kernel, by decide +kernel, by decide, x_mem 6 u1 rfl rfl, x_mem 57 u4 rfl rfl⟩
theorem okX7_init : x_ok fX7_init 2 := ⟨by decide +kernel, by decide +kernel, by decide +kernel, by decide, x_mem 6 u1 rfl rfl, x_mem 164 u1 rfl rfl⟩
theorem okX7_isUpBehind : x_ok fX7_isUpBehind 2 := ⟨by decide +kernel, by decide +kernel, by decide +kernel, by decide, x_mem 6 u1 rfl rfl, x_mem 26 u4 rfl rfl⟩
theorem okX7_lasting : x_ok fX7_lasting 0 := ⟨by decide +kernel, by decide +kernel, by decide +kernel, by decide, x_mem 6 u1 rfl rfl, x_mem 207 u3 rfl rfl⟩
theorem okX7_lastingBy : x_ok fX7_lastingBy 1 := ⟨by decide +kernel, by decide +kernel, by decide +kernel, by decide, x_mem 6 u1 rfl rfl, x_mem 44 u4 rfl rfl⟩
theorem okX7_leaveOut : x_ok fX7_leaveOut 1 := ⟨by decide +kernel, by decide +kernel, by decide +kernel, by decide, x_mem 6 u1 rfl rfl, x_mem 224 u3 rfl rfl⟩
theorem okX7_step : x_ok fX7_step 0 := ⟨by decide +kernel, by decide +kernel, by decide +kernel, by decide, x_mem 6 u1 rfl rfl, x_mem 185 u3 rfl rfl⟩
theorem okX8_above : x_ok fX8_above 4 := ⟨by decide +kernel, by decide +kernel, by decide +kernel, by decide, x_mem 9 u1 rfl rfl, x_mem 217 u4 rfl rfl⟩
theorem okX8_addBody : x_ok fX8_addBody 1 := ⟨by decide +kernel, by decide +kernel, by decide +kernel, by decide, x_mem 9 u1 rfl rfl, x_mem 180 u4 rfl rfl⟩
theorem okX8_has : x_ok fX8_has 1 := ⟨by decide +kernel, by decide +kernel, by decide +kernel, by decide, x_mem 9 u1 rfl rfl, x_mem 189 u4 rfl rfl⟩
theorem okX8_init : x_ok fX8_init 0 := ⟨by decide +kernel, by decide +kernel, by decide +kernel, by decide, x_mem 9 u1 rfl rfl, x_mem 22 u2 rfl rfl⟩
theorem okX8_isFull : x_ok fX8_isFull 0 := ⟨by decide +kernel, by decide +kernel, by decide +kernel, by decide, x_mem 9 u1 rfl rfl, x_mem 176 u4 rfl rfl⟩
theorem okX8_isUnder : x_ok fX8_isUnder 2 := ⟨by decide +kernel, by decide +kernel, by decide +kernel, by decide, x_mem 9 u1 rfl rfl, x_mem 43 u5 rfl rfl⟩
theorem okX8_note : x_ok fX8_note 1 := ⟨by decide +kernel, by decide +kernel, by decide +kernel, by decide, x_mem 9 u1 rfl rfl, x_mem 213 u4 rfl rfl⟩
theorem okX8_own : x_ok fX8_own 3 := ⟨by decide +kernel, by decide +kernel, by decide +kernel, by decide, x_mem 9 u1 rfl rfl, x_mem 197 u4 rfl rfl⟩
theorem okX8_perform : x_ok fX8_perform 3 := ⟨by decide +kernel, by decide +kernel, by decide +kernel, by decide, x_mem 9 u1 rfl rfl, x_mem 193 u4 rfl rfl⟩
theorem okX8_run : x_ok fX8_run 4 := ⟨by decide +kernel, by decide +kernel, by decide +kernel, by decide, x_mem 9 u1 rfl rfl, x_mem 209 u4 rfl rfl⟩
theorem okX8_runFrom : x_ok fX8_runFrom 4 := ⟨by decide +kernel, by decide +kernel, by decide +kernel, by decide, x_mem 9 u1 rfl rfl, x_mem 202 u4 rfl rfl⟩
theorem okX9_act : x_ok fX9_act 3 := ⟨by decide +kernel, by decide +kernel, by decide +kernel, by decide, x_mem 1 u1 rfl rfl, x_mem 185 u4 rfl rfl⟩
theorem okX9_alone : x_ok fX9_alone 3 := ⟨by decide +kernel, by decide +kernel, by decide +kernel, by decide, x_mem 1 u1 rfl rfl, x_mem 120 u4 rfl rfl⟩
theorem okX9_back : x_ok fX9_back 0 := ⟨by decide +kernel, by decide +kernel, by decide +kernel, by decide, x_mem 1 u1 rfl rfl, x_mem 152 u4 rfl rfl⟩
theorem okX9_beatFor : x_ok fX9_beatFor 1 := ⟨by decide +kernel, by decide +kernel, by decide +kernel, by decide, x_mem 1 u1 rfl rfl, x_mem 212 u3 rfl rfl⟩
theorem okX9_begun : x_ok fX9_begun 3 := ⟨by decide +kernel, by decide +kernel, by decide +kernel, by decide, x_mem 1 u1 rfl rfl, x_mem 61 u4 rfl rfl⟩
theorem okX9_body : x_ok fX9_body 1 := ⟨by decide +kernel, by decide +kernel, by decide +kernel, by decide, x_mem 1 u1 rfl rfl, x_mem 169 u4 rfl rfl⟩
theorem okX9_canBecome : x_ok fX9_canBecome 3 := ⟨by decide +kernel, by decide +kernel, by decide +kernel, by decide, x_mem 1 u1 rfl rfl, x_mem 158 u2 rfl rfl⟩
theorem okX9_count : x_ok fX9_count 1 := ⟨by decide +kernel, by decide +kernel, by decide +kernel, by decide, x_mem 1 u1 rfl rfl, x_mem 47 u5 rfl rfl⟩
theorem okX9_element : x_ok fX9_element 2 := ⟨by decide +kernel, by decide +kernel, by decide +kernel, by decide, x_mem 1 u1 rfl rfl, x_mem 22 u5 rfl rfl⟩
theorem okX9_falls : x_ok fX9_falls 1 := ⟨by decide +kernel, by decide +kernel, by decide +kernel, by decide, x_mem 1 u1 rfl rfl, x_mem 193 u3 rfl rfl⟩
theorem okX9_feed : x_ok fX9_feed 1 := ⟨by decide +kernel, by decide +kernel, by decide +kernel, by decide, x_mem 1 u1 rfl rfl, x_mem 225 u2 rfl rfl⟩
theorem okX9_go : x_ok fX9_go 1 := ⟨by decide +kernel, by decide +kernel, by decide +kernel, by decide, x_mem 1 u1 rfl rfl, x_mem 48 u3 rfl rfl⟩
theorem okX9_goalOf : x_ok fX9_goalOf 1 := ⟨by decide +kernel, by decide +kernel, by decide +kernel, by decide, x_mem 1 u1 rfl rfl, x_mem 66 u3 rfl rfl⟩
theorem okX9_greatestDivisor : x_ok fX9_greatestDivisor 2 := ⟨by decide +kernel, by decide +kernel, by decide +kernel, by decide, x_mem 1 u1 rfl rfl, x_mem 124 u4 rfl rfl⟩
theorem okX9_held : x_ok fX9_held 1 := ⟨by decide +kernel, by decide +kernel, by decide +kernel, by decide, x_mem 1 u1 rfl rfl, x_mem 236 u3 rfl rfl⟩
theorem okX9_hoop : x_ok fX9_hoop 1 := ⟨by decide +kernel, by decide +kernel, by decide +kernel, by decide, x_mem 1 u1 rfl rfl, x_mem 108 u2 rfl rfl⟩
theorem okX9_hoopCame : x_ok fX9_hoopCame 2 := ⟨by decide +kernel, by decide +kernel, by decide +kernel, by decide, x_mem 1 u1 rfl rfl, x_mem 147 u2 rfl rfl⟩
theorem okX9_hoopCanBecome : x_ok fX9_hoopCanBecome 3 := ⟨by decide +kernel, by decide +kernel, by decide +kernel, by decide, x_mem 1 u1 rfl rfl, x_mem 165 u2 rfl rfl⟩
theorem okX9_hoops : x_ok fX9_hoops 3 := ⟨by decide +kernel, by decide +kernel, by decide +kernel, by decide, x_mem 1 u1 rfl rfl, x_mem 128 u2 rfl rfl⟩
theorem okX9_image : x_ok fX9_image 0 := ⟨by decide +kernel, by decide +kernel, by decide +kernel, by decide, x_mem 1 u1 rfl rfl, x_mem 147 u4 rfl rfl⟩
theorem okX9_init : x_ok fX9_init 0 := ⟨by decide +kernel, by decide +kernel, by decide +kernel, by decide, x_mem 1 u1 rfl rfl, x_mem 19 u1 rfl rfl⟩
theorem okX9_isGirl : x_ok fX9_isGirl 1 := ⟨by decide +kernel, by decide +kernel, by decide +kernel, by decide, x_mem 1 u1 rfl rfl, x_mem 221 u2 rfl rfl⟩
theorem okX9_isKind : x_ok fX9_isKind 1 := ⟨by decide +kernel, by decide +kernel, by decide +kernel, by decide, x_mem 1 u1 rfl rfl, x_mem 172 u4 rfl rfl⟩
theorem okX9_isMinutes : x_ok fX9_isMinutes 1 := ⟨by decide +kernel, by decide +kernel, by decide +kernel, by decide, x_mem 1 u1 rfl rfl, x_mem 76 u4 rfl rfl⟩
theorem okX9_isPace : x_ok fX9_isPace 1 := ⟨by decide +kernel, by decide +kernel, by decide +kernel, by decide, x_mem 1 u1 rfl rfl, x_mem 150 u2 rfl rfl⟩
theorem okX9_isShelf : x_ok fX9_isShelf 1 := ⟨by decide +kernel, by decide +kernel, by decide +kernel, by decide, x_mem 1 u1 rfl rfl, x_mem 131 u2 rfl rfl⟩
theorem okX9_isSkill : x_ok fX9_isSkill 1 := ⟨by decide +kernel, by decide +kernel, by decide +kernel, by decide, x_mem 1 u1 rfl rfl, x_mem 176 u2 rfl rfl⟩
theorem okX9_isWeight : x_ok fX9_isWeight 1 := ⟨by decide +kernel, by decide +kernel, by decide +kernel, by decide, x_mem 1 u1 rfl rfl, x_mem 111 u2 rfl rfl⟩
theorem okX9_judge : x_ok fX9_judge 2 := ⟨by decide +kernel, by decide +kernel, by decide +kernel, by decide, x_mem 1 u1 rfl rfl, x_mem 53 u4 rfl rfl⟩
theorem okX9_keep : x_ok fX9_keep 2 := ⟨by decide +kernel, by decide +kernel, by decide +kernel, by decide, x_mem 1 u1 rfl rfl, x_mem 227 u4 rfl rfl⟩
theorem okX9_knocked : x_ok fX9_knocked 3 := ⟨by decide +kernel, by decide +kernel, by decide +kernel, by decide, x_mem 1 u1 rfl rfl, x_mem 108 u4 rfl rfl⟩
theorem okX9_last : x_ok fX9_last 2 := ⟨by decide +kernel, by decide +kernel, by decide +kernel, by decide, x_mem 1 u1 rfl rfl, x_mem 112 u4 rfl rfl⟩
theorem okX9_lasts : x_ok fX9_lasts 0 := ⟨by decide +kernel, by decide +kernel, by decide +kernel, by decide, x_mem 1 u1 rfl rfl, x_mem 203 u3 rfl rfl⟩
theorem okX9_law : x_ok fX9_law 0 := ⟨by decide +kernel, by decide +kernel, by decide +kernel, by decide, x_mem 1 u1 rfl rfl, x_mem 233 u2 rfl rfl⟩
theorem okX9_lay : x_ok fX9_lay 3 := ⟨by decide +kernel, by decide +kernel, by decide +kernel, by decide, x_mem 1 u1 rfl rfl, x_mem 198 u2 rfl rfl⟩
theorem okX9_learn : x_ok fX9_learn 2 := ⟨by decide +kernel, by decide +kernel, by decide +kernel, by decide, x_mem 1 u1 rfl rfl, x_mem 129 u4 rfl rfl⟩
theorem okX9_leastPush : x_ok fX9_leastPush 1 := ⟨by decide +kernel, by decide +kernel, by decide +kernel, by decide, x_mem 1 u1 rfl rfl, x_mem 216 u3 rfl rfl⟩
theorem okX9_led : x_ok fX9_led 1 := ⟨by decide +kernel, by decide +kernel, by decide +kernel, by decide, x_mem 1 u1 rfl rfl, x_mem 157 u3 rfl rfl⟩
theorem okX9_left : x_ok fX9_left 3 := ⟨by decide +kernel, by decide +kernel, by decide +kernel, by decide, x_mem 1 u1 rfl rfl, x_mem 73 u4 rfl rfl⟩
theorem okX9_lift : x_ok fX9_lift 1 := ⟨by decide +kernel, by decide +kernel, by decide +kernel, by decide, x_mem 1 u1 rfl rfl, x_mem 152 u3 rfl rfl⟩
theorem okX9_mend : x_ok fX9_mend 3 := ⟨by decide +kernel, by decide +kernel, by decide +kernel, by decide, x_mem 1 u1 rfl rfl, x_mem 154 u2 rfl rfl⟩
theorem okX9_mistake : x_ok fX9_mistake 2 := ⟨by decide +kernel, by decide +kernel, by decide +kernel, by decide, x_mem 1 u1 rfl rfl, x_mem 220 u3 rfl rfl⟩
theorem okX9_music : x_ok fX9_music 1 := ⟨by decide +kernel, by decide +kernel, by decide +kernel, by decide, x_mem 1 u1 rfl rfl, x_mem 34 u4 rfl rfl⟩
theorem okX9_of : x_ok fX9_of 2 := ⟨by decide +kernel, by decide +kernel, by decide +kernel, by decide, x_mem 1 u1 rfl rfl, x_mem 218 u2 rfl rfl⟩
theorem okX9_put : x_ok fX9_put 3 := ⟨by decide +kernel, by decide +kernel, by decide +kernel, by decide, x_mem 1 u1 rfl rfl, x_mem 10 u5 rfl rfl⟩
theorem okX9_redo : x_ok fX9_redo 0 := ⟨by decide +kernel, by decide +kernel, by decide +kernel, by decide, x_mem 1 u1 rfl rfl, x_mem 165 u4 rfl rfl⟩
theorem okX9_rescue : x_ok fX9_rescue 2 := ⟨by decide +kernel, by decide +kernel, by decide +kernel, by decide, x_mem 1 u1 rfl rfl, x_mem 18 u4 rfl rfl⟩
theorem okX9_rest : x_ok fX9_rest 2 := ⟨by decide +kernel, by decide +kernel, by decide +kernel, by decide, x_mem 1 u1 rfl rfl, x_mem 59 u3 rfl rfl⟩
theorem okX9_row : x_ok fX9_row 3 := ⟨by decide +kernel, by decide +kernel, by decide +kernel, by decide, x_mem 1 u1 rfl rfl, x_mem 239 u4 rfl rfl⟩
theorem okX9_settingCanBecome : x_ok fX9_settingCanBecome 2 := ⟨by decide +kernel, by decide +kernel, by decide +kernel, by decide, x_mem 1 u1 rfl rfl, x_mem 173 u2 rfl rfl⟩
theorem okX9_settingOf : x_ok fX9_settingOf 1 := ⟨by decide +kernel, by decide +kernel, by decide +kernel, by decide, x_mem 1 u1 rfl rfl, x_mem 194 u2 rfl rfl⟩
theorem okX9_shift : x_ok fX9_shift 5 := ⟨by decide +kernel, by decide +kernel, by decide +kernel, by decide, x_mem 1 u1 rfl rfl, x_mem 26 u5 rfl rfl⟩
theorem okX9_skill : x_ok fX9_skill 2 := ⟨by decide +kernel, by decide +kernel, by decide +kernel, by decide, x_mem 1 u1 rfl rfl, x_mem 65 u4 rfl rfl⟩
theorem okX9_start : x_ok fX9_start 1 := ⟨by decide +kernel, by decide +kernel, by decide +kernel, by decide, x_mem 1 u1 rfl rfl, x_mem 30 u4 rfl rfl⟩
theorem okX9_taken : x_ok fX9_taken 2 := ⟨by decide +kernel, by decide +kernel, by decide +kernel, by decide, x_mem 1 u1 rfl rfl, x_mem 36 u5 rfl rfl⟩
theorem okX9_then : x_ok fX9_then 3 := ⟨by decide +kernel, by decide +kernel, by decide +kernel, by decide, x_mem 1 u1 rfl rfl, x_mem 161 u3 rfl rfl⟩
theorem okX9_till : x_ok fX9_till 2 := ⟨by decide +kernel, by decide +kernel, by decide +kernel, by decide, x_mem 1 u1 rfl rfl, x_mem 142 u4 rfl rfl⟩
theorem okX9_trace : x_ok fX9_trace 1 := ⟨by decide +kernel, by decide +kernel, by decide +kernel, by decide, x_mem 1 u1 rfl rfl, x_mem 223 u4 rfl rfl⟩
theorem okX9_undo : x_ok fX9_undo 0 := ⟨by decide +kernel, by decide +kernel, by decide +kernel, by decide, x_mem 1 u1 rfl rfl, x_mem 161 u4 rfl rfl⟩
theorem okX9_valueOf : x_ok fX9_valueOf 2 := ⟨by decide +kernel, by decide +kernel, by decide +kernel, by decide, x_mem 1 u1 rfl rfl, x_mem 181 u2 rfl rfl⟩
theorem okX9_within : x_ok fX9_within 3 := ⟨by decide +kernel, by decide +kernel, by decide +kernel, by decide, x_mem 1 u1 rfl rfl, x_mem 106 u3 rfl rfl⟩
theorem flX9_10 : x_FL RX9 10 9 0 := ⟨RX9, TX9, 10, rfl, by decide, uw9, x_mem 74 u2 rfl rfl⟩
theorem fpX9_10 : x_FP RX9 10 9 0 true (.object "HoopWaist$Law") := ⟨RX9, TX9, 10, tyX9, rfl, by decide, uw9, x_mem 74 u2 rfl rfl, tyX9_ok, nmX9, rfl, by decide +kernel, fun _ => rfl⟩
theorem flX9_19 : x_FL RX9 19 9 1 := ⟨RX9, TX9, 10, rfl, by decide, uw9, x_mem 75 u2 rfl rfl⟩
theorem fpX9_19 : x_FP RX9 19 9 1 true (.object "HoopWaist$Reader") := ⟨RX9, TX9, 10, tyX9, rfl, by decide, uw9, x_mem 75 u2 rfl rfl, tyX9_ok, nmX9, rfl, by decide +kernel, fun _ => rfl⟩
theorem flX9_28 : x_FL RX9 28 9 2 := ⟨RX9, TX9, 10, rfl, by decide, uw9, x_mem 76 u2 rfl rfl⟩
theorem fpX9_28 : x_FP RX9 28 9 2 true (.object "HoopWaist$Ring") := ⟨RX9, TX9, 10, tyX9, rfl, by decide, uw9, x_mem 76 u2 rfl rfl, tyX9_ok, nmX9, rfl, by decide +kernel, fun _ => rfl⟩
theorem flX9_32 : x_FL RX9 32 9 3 := ⟨RX9, TX9, 10, rfl, by decide, uw9, x_mem 77 u2 rfl rfl⟩
theorem fpX9_32 : x_FP RX9 32 9 3 true (.object "HoopWaist$Ring") := ⟨RX9, TX9, 10, tyX9, rfl, by decide, uw9, x_mem 77 u2 rfl rfl, tyX9_ok, nmX9, rfl, by decide +kernel, fun _ => rfl⟩
theorem flX9_40 : x_FL RX9 40 9 4 := ⟨RX9, TX9, 10, rfl, by decide, uw9, x_mem 78 u2 rfl rfl⟩
theorem fpX9_40 : x_FP RX9 40 9 4 true (.object "HoopWaist$Thought") := ⟨RX9, TX9, 10, tyX9, rfl, by decide, uw9, x_mem 78 u2 rfl rfl, tyX9_ok, nmX9, rfl, by decide +kernel, fun _ => rfl⟩
theorem flX9_47 : x_FL RX9 47 9 5 := ⟨RX9, TX9, 10, rfl, by decide, uw9, x_mem 79 u2 rfl rfl⟩
theorem fpX9_47 : x_FP RX9 47 9 5 true (.object "HoopWaist$Field") := ⟨RX9, TX9, 10, tyX9, rfl, by decide, uw9, x_mem 79 u2 rfl rfl, tyX9_ok, nmX9, rfl, by decide +kernel, fun _ => rfl⟩
theorem flX9_54 : x_FL RX9 54 9 6 := ⟨RX9, TX9, 10, rfl, by decide, uw9, x_mem 80 u2 rfl rfl⟩
theorem fpX9_54 : x_FP RX9 54 9 6 true (.object "HoopWaist$Changes") := ⟨RX9, TX9, 10, tyX9, rfl, by decide, uw9, x_mem 80 u2 rfl rfl, tyX9_ok, nmX9, rfl, by decide +kernel, fun _ => rfl⟩
theorem flX9_61 : x_FL RX9 61 9 7 := ⟨RX9, TX9, 10, rfl, by decide, uw9, x_mem 81 u2 rfl rfl⟩
theorem fpX9_61 : x_FP RX9 61 9 7 true (.object "HoopWaist$Turns") := ⟨RX9, TX9, 10, tyX9, rfl, by decide, uw9, x_mem 81 u2 rfl rfl, tyX9_ok, nmX9, rfl, by decide +kernel, fun _ => rfl⟩
theorem flX9_67 : x_FL RX9 67 9 8 := ⟨RX9, TX9, 10, rfl, by decide, uw9, x_mem 82 u2 rfl rfl⟩
theorem fpX9_67 : x_FP RX9 67 9 8 true (.array (.object "HoopWaist$Shelf")) := ⟨RX9, TX9, 10, tyX9, rfl, by decide, uw9, x_mem 82 u2 rfl rfl, tyX9_ok, nmX9, rfl, by decide +kernel, fun _ => rfl⟩
theorem flX9_72 : x_FL RX9 72 9 9 := ⟨RX9, TX9, 10, rfl, by decide, uw9, x_mem 83 u2 rfl rfl⟩
theorem fpX9_72 : x_FP RX9 72 9 9 false .boolean := ⟨RX9, TX9, 10, tyX9, rfl, by decide, uw9, x_mem 83 u2 rfl rfl, tyX9_ok, nmX9, rfl, by decide +kernel, fun h => by cases h⟩
theorem flX9_121 : x_FL RX9 121 5 1 := ⟨RX5, TX5, 10, rfl, by decide, uw5, x_mem 120 u1 rfl rfl⟩
theorem flX9_137 : x_FL RX9 137 1 0 := ⟨RX1, TX1, 7, rfl, by decide, uw1, x_mem 199 u1 rfl rfl⟩
theorem flX9_141 : x_FL RX9 141 1 1 := ⟨RX1, TX1, 7, rfl, by decide, uw1, x_mem 201 u1 rfl rfl⟩
theorem flX9_147 : x_FL RX9 147 4 2 := ⟨RX4, TX4, 5, rfl, by decide, uw4, x_mem 63 u1 rfl rfl⟩
theorem fpX9_147 : x_FP RX9 147 4 2 false .int := ⟨RX4, TX4, 5, tyX4, rfl, by decide, uw4, x_mem 63 u1 rfl rfl, tyX4_ok, nmX4, rfl, by decide +kernel, fun h => by cases h⟩
theorem flX9_155 : x_FL RX9 155 4 1 := ⟨RX4, TX4, 5, rfl, by decide, uw4, x_mem 61 u1 rfl rfl⟩
theorem flX9_173 : x_FL RX9 173 5 8 := ⟨RX5, TX5, 10, rfl, by decide, uw5, x_mem 136 u1 rfl rfl⟩
theorem fpX9_173 : x_FP RX9 173 5 8 false .int := ⟨RX5, TX5, 10, tyX5, rfl, by decide, uw5, x_mem 136 u1 rfl rfl, tyX5_ok, nmX5, rfl, by decide +kernel, fun h => by cases h⟩
theorem flX9_176 : x_FL RX9 176 5 9 := ⟨RX5, TX5, 10, rfl, by decide, uw5, x_mem 138 u1 rfl rfl⟩
theorem fpX9_176 : x_FP RX9 176 5 9 false .int := ⟨RX5, TX5, 10, tyX5, rfl, by decide, uw5, x_mem 138 u1 rfl rfl, tyX5_ok, nmX5, rfl, by decide +kernel, fun h => by cases h⟩
theorem flX9_183 : x_FL RX9 183 2 2 := ⟨RX2, TX2, 5, rfl, by decide, uw2, x_mem 97 u1 rfl rfl⟩
theorem fpX9_183 : x_FP RX9 183 2 2 false .int := ⟨RX2, TX2, 5, tyX2, rfl, by decide, uw2, x_mem 97 u1 rfl rfl, tyX2_ok, nmX2, rfl, by decide +kernel, fun h => by cases h⟩
theorem flX9_186 : x_FL RX9 186 2 3 := ⟨RX2, TX2, 5, rfl, by decide, uw2, x_mem 102 u1 rfl rfl⟩
theorem fpX9_186 : x_FP RX9 186 2 3 false .int := ⟨RX2, TX2, 5, tyX2, rfl, by decide, uw2, x_mem 102 u1 rfl rfl, tyX2_ok, nmX2, rfl, by decide +kernel, fun h => by cases h⟩
theorem flX9_189 : x_FL RX9 189 2 4 := ⟨RX2, TX2, 5, rfl, by decide, uw2, x_mem 106 u1 rfl rfl⟩
theorem fpX9_189 : x_FP RX9 189 2 4 false .int := ⟨RX2, TX2, 5, tyX2, rfl, by decide, uw2, x_mem 106 u1 rfl rfl, tyX2_ok, nmX2, rfl, by decide +kernel, fun h => by cases h⟩
theorem flX9_201 : x_FL RX9 201 7 1 := ⟨RX7, TX7, 8, rfl, by decide, uw7, x_mem 168 u1 rfl rfl⟩
theorem flX9_202 : x_FL RX9 202 5 5 := ⟨RX5, TX5, 10, rfl, by decide, uw5, x_mem 129 u1 rfl rfl⟩
theorem fpX9_202 : x_FP RX9 202 5 5 false .int := ⟨RX5, TX5, 10, tyX5, rfl, by decide, uw5, x_mem 129 u1 rfl rfl, tyX5_ok, nmX5, rfl, by decide +kernel, fun h => by cases h⟩
theorem flX9_205 : x_FL RX9 205 5 6 := ⟨RX5, TX5, 10, rfl, by decide, uw5, x_mem 131 u1 rfl rfl⟩
theorem fpX9_205 : x_FP RX9 205 5 6 false .int := ⟨RX5, TX5, 10, tyX5, rfl, by decide, uw5, x_mem 131 u1 rfl rfl, tyX5_ok, nmX5, rfl, by decide +kernel, fun h => by cases h⟩
theorem flX9_208 : x_FL RX9 208 5 7 := ⟨RX5, TX5, 10, rfl, by decide, uw5, x_mem 134 u1 rfl rfl⟩
theorem fpX9_208 : x_FP RX9 208 5 7 false .int := ⟨RX5, TX5, 10, tyX5, rfl, by decide, uw5, x_mem 134 u1 rfl rfl, tyX5_ok, nmX5, rfl, by decide +kernel, fun h => by cases h⟩
theorem flX9_218 : x_FL RX9 218 5 2 := ⟨RX5, TX5, 10, rfl, by decide, uw5, x_mem 123 u1 rfl rfl⟩
theorem fpX9_218 : x_FP RX9 218 5 2 false .int := ⟨RX5, TX5, 10, tyX5, rfl, by decide, uw5, x_mem 123 u1 rfl rfl, tyX5_ok, nmX5, rfl, by decide +kernel, fun h => by cases h⟩
theorem flX9_271 : x_FL RX9 271 1 2 := ⟨RX1, TX1, 7, rfl, by decide, uw1, x_mem 203 u1 rfl rfl⟩
theorem flX9_275 : x_FL RX9 275 1 3 := ⟨RX1, TX1, 7, rfl, by decide, uw1, x_mem 205 u1 rfl rfl⟩
theorem flX9_281 : x_FL RX9 281 1 4 := ⟨RX1, TX1, 7, rfl, by decide, uw1, x_mem 207 u1 rfl rfl⟩
theorem flX9_303 : x_FL RX9 303 5 3 := ⟨RX5, TX5, 10, rfl, by decide, uw5, x_mem 125 u1 rfl rfl⟩
theorem fpX9_303 : x_FP RX9 303 5 3 false .int := ⟨RX5, TX5, 10, tyX5, rfl, by decide, uw5, x_mem 125 u1 rfl rfl, tyX5_ok, nmX5, rfl, by decide +kernel, fun h => by cases h⟩
theorem flX9_309 : x_FL RX9 309 0 4 := ⟨RX0, TX0, 6, rfl, by decide, uw0, x_mem 2 u2 rfl rfl⟩
theorem fpX9_309 : x_FP RX9 309 0 4 false .int := ⟨RX0, TX0, 6, tyX0, rfl, by decide, uw0, x_mem 2 u2 rfl rfl, tyX0_ok, nmX0, rfl, by decide +kernel, fun h => by cases h⟩
theorem flX9_312 : x_FL RX9 312 0 0 := ⟨RX0, TX0, 6, rfl, by decide, uw0, x_mem 234 u1 rfl rfl⟩
theorem flX9_315 : x_FL RX9 315 0 1 := ⟨RX0, TX0, 6, rfl, by decide, uw0, x_mem 236 u1 rfl rfl⟩
theorem flX9_318 : x_FL RX9 318 0 2 := ⟨RX0, TX0, 6, rfl, by decide, uw0, x_mem 238 u1 rfl rfl⟩
theorem flX9_321 : x_FL RX9 321 0 5 := ⟨RX0, TX0, 6, rfl, by decide, uw0, x_mem 4 u2 rfl rfl⟩
theorem fpX9_321 : x_FP RX9 321 0 5 false .int := ⟨RX0, TX0, 6, tyX0, rfl, by decide, uw0, x_mem 4 u2 rfl rfl, tyX0_ok, nmX0, rfl, by decide +kernel, fun h => by cases h⟩
theorem flX9_324 : x_FL RX9 324 0 3 := ⟨RX0, TX0, 6, rfl, by decide, uw0, x_mem 0 u2 rfl rfl⟩
theorem flX9_334 : x_FL RX9 334 8 3 := ⟨RX8, TX8, 5, rfl, by decide, uw8, x_mem 31 u2 rfl rfl⟩
theorem fpX9_334 : x_FP RX9 334 8 3 false .int := ⟨RX8, TX8, 5, tyX8, rfl, by decide, uw8, x_mem 31 u2 rfl rfl, tyX8_ok, nmX8, rfl, by decide +kernel, fun h => by cases h⟩
theorem flX9_341 : x_FL RX9 341 8 1 := ⟨RX8, TX8, 5, rfl, by decide, uw8, x_mem 27 u2 rfl rfl⟩
theorem flX9_362 : x_FL RX9 362 6 4 := ⟨RX6, TX6, 5, rfl, by decide, uw6, x_mem 61 u2 rfl rfl⟩
theorem flX9_369 : x_FL RX9 369 6 2 := ⟨RX6, TX6, 5, rfl, by decide, uw6, x_mem 55 u2 rfl rfl⟩
theorem fpX9_369 : x_FP RX9 369 6 2 false .int := ⟨RX6, TX6, 5, tyX6, rfl, by decide, uw6, x_mem 55 u2 rfl rfl, tyX6_ok, nmX6, rfl, by decide +kernel, fun h => by cases h⟩
theorem flX9_384 : x_FL RX9 384 6 1 := ⟨RX6, TX6, 5, rfl, by decide, uw6, x_mem 53 u2 rfl rfl⟩
theorem fpX9_384 : x_FP RX9 384 6 1 false .int := ⟨RX6, TX6, 5, tyX6, rfl, by decide, uw6, x_mem 53 u2 rfl rfl, tyX6_ok, nmX6, rfl, by decide +kernel, fun h => by cases h⟩
theorem flX9_387 : x_FL RX9 387 8 0 := ⟨RX8, TX8, 5, rfl, by decide, uw8, x_mem 25 u2 rfl rfl⟩
theorem flX9_393 : x_FL RX9 393 8 2 := ⟨RX8, TX8, 5, rfl, by decide, uw8, x_mem 29 u2 rfl rfl⟩
theorem fpX9_393 : x_FP RX9 393 8 2 false .int := ⟨RX8, TX8, 5, tyX8, rfl, by decide, uw8, x_mem 29 u2 rfl rfl, tyX8_ok, nmX8, rfl, by decide +kernel, fun h => by cases h⟩
theorem flX9_399 : x_FL RX9 399 6 3 := ⟨RX6, TX6, 5, rfl, by decide, uw6, x_mem 58 u2 rfl rfl⟩
theorem fpX9_399 : x_FP RX9 399 6 3 false .int := ⟨RX6, TX6, 5, tyX6, rfl, by decide, uw6, x_mem 58 u2 rfl rfl, tyX6_ok, nmX6, rfl, by decide +kernel, fun h => by cases h⟩
theorem flX9_410 : x_FL RX9 410 5 4 := ⟨RX5, TX5, 10, rfl, by decide, uw5, x_mem 127 u1 rfl rfl⟩
theorem fpX9_410 : x_FP RX9 410 5 4 false .int := ⟨RX5, TX5, 10, tyX5, rfl, by decide, uw5, x_mem 127 u1 rfl rfl, tyX5_ok, nmX5, rfl, by decide +kernel, fun h => by cases h⟩
theorem flX9_413 : x_FL RX9 413 1 5 := ⟨RX1, TX1, 7, rfl, by decide, uw1, x_mem 209 u1 rfl rfl⟩
theorem fpX9_413 : x_FP RX9 413 1 5 false .int := ⟨RX1, TX1, 7, tyX1, rfl, by decide, uw1, x_mem 209 u1 rfl rfl, tyX1_ok, nmX1, rfl, by decide +kernel, fun h => by cases h⟩
theorem flX0_9 : x_FL RX0 9 0 0 := ⟨RX0, TX0, 6, rfl, by decide, uw0, x_mem 233 u1 rfl rfl⟩
theorem fpX0_9 : x_FP RX0 9 0 0 true (.array .int) := ⟨RX0, TX0, 6, tyX0, rfl, by decide, uw0, x_mem 233 u1 rfl rfl, tyX0_ok, nmX0, rfl, by decide +kernel, fun _ => rfl⟩
theorem flX0_13 : x_FL RX0 13 0 1 := ⟨RX0, TX0, 6, rfl, by decide, uw0, x_mem 235 u1 rfl rfl⟩
theorem fpX0_13 : x_FP RX0 13 0 1 true (.array .int) := ⟨RX0, TX0, 6, tyX0, rfl, by decide, uw0, x_mem 235 u1 rfl rfl, tyX0_ok, nmX0, rfl, by decide +kernel, fun _ => rfl⟩
theorem flX0_16 : x_FL RX0 16 0 2 := ⟨RX0, TX0, 6, rfl, by decide, uw0, x_mem 237 u1 rfl rfl⟩
theorem fpX0_16 : x_FP RX0 16 0 2 true (.array .int) := ⟨RX0, TX0, 6, tyX0, rfl, by decide, uw0, x_mem 237 u1 rfl rfl, tyX0_ok, nmX0, rfl, by decide +kernel, fun _ => rfl⟩
theorem flX0_19 : x_FL RX0 19 0 3 := ⟨RX0, TX0, 6, rfl, by decide, uw0, x_mem 239 u1 rfl rfl⟩
theorem fpX0_19 : x_FP RX0 19 0 3 true (.array .int) := ⟨RX0, TX0, 6, tyX0, rfl, by decide, uw0, x_mem 239 u1 rfl rfl, tyX0_ok, nmX0, rfl, by decide +kernel, fun _ => rfl⟩
theorem flX0_22 : x_FL RX0 22 0 4 := ⟨RX0, TX0, 6, rfl, by decide, uw0, x_mem 1 u2 rfl rfl⟩
theorem fpX0_22 : x_FP RX0 22 0 4 false .int := ⟨RX0, TX0, 6, tyX0, rfl, by decide, uw0, x_mem 1 u2 rfl rfl, tyX0_ok, nmX0, rfl, by decide +kernel, fun h => by cases h⟩
theorem flX0_29 : x_FL RX0 29 0 5 := ⟨RX0, TX0, 6, rfl, by decide, uw0, x_mem 3 u2 rfl rfl⟩
theorem fpX0_29 : x_FP RX0 29 0 5 false .int := ⟨RX0, TX0, 6, tyX0, rfl, by decide, uw0, x_mem 3 u2 rfl rfl, tyX0_ok, nmX0, rfl, by decide +kernel, fun h => by cases h⟩
theorem flX1_9 : x_FL RX1 9 1 0 := ⟨RX1, TX1, 7, rfl, by decide, uw1, x_mem 198 u1 rfl rfl⟩
theorem fpX1_9 : x_FP RX1 9 1 0 true (.array .int) := ⟨RX1, TX1, 7, tyX1, rfl, by decide, uw1, x_mem 198 u1 rfl rfl, tyX1_ok, nmX1, rfl, by decide +kernel, fun _ => rfl⟩
theorem flX1_15 : x_FL RX1 15 1 1 := ⟨RX1, TX1, 7, rfl, by decide, uw1, x_mem 200 u1 rfl rfl⟩
theorem fpX1_15 : x_FP RX1 15 1 1 true (.array .int) := ⟨RX1, TX1, 7, tyX1, rfl, by decide, uw1, x_mem 200 u1 rfl rfl, tyX1_ok, nmX1, rfl, by decide +kernel, fun _ => rfl⟩
theorem flX1_18 : x_FL RX1 18 1 2 := ⟨RX1, TX1, 7, rfl, by decide, uw1, x_mem 202 u1 rfl rfl⟩
theorem fpX1_18 : x_FP RX1 18 1 2 true (.array .boolean) := ⟨RX1, TX1, 7, tyX1, rfl, by decide, uw1, x_mem 202 u1 rfl rfl, tyX1_ok, nmX1, rfl, by decide +kernel, fun _ => rfl⟩
theorem flX1_22 : x_FL RX1 22 1 3 := ⟨RX1, TX1, 7, rfl, by decide, uw1, x_mem 204 u1 rfl rfl⟩
theorem fpX1_22 : x_FP RX1 22 1 3 true (.array .int) := ⟨RX1, TX1, 7, tyX1, rfl, by decide, uw1, x_mem 204 u1 rfl rfl, tyX1_ok, nmX1, rfl, by decide +kernel, fun _ => rfl⟩
theorem flX1_25 : x_FL RX1 25 1 4 := ⟨RX1, TX1, 7, rfl, by decide, uw1, x_mem 206 u1 rfl rfl⟩
theorem fpX1_25 : x_FP RX1 25 1 4 true (.array .int) := ⟨RX1, TX1, 7, tyX1, rfl, by decide, uw1, x_mem 206 u1 rfl rfl, tyX1_ok, nmX1, rfl, by decide +kernel, fun _ => rfl⟩
theorem flX1_28 : x_FL RX1 28 1 5 := ⟨RX1, TX1, 7, rfl, by decide, uw1, x_mem 208 u1 rfl rfl⟩
theorem fpX1_28 : x_FP RX1 28 1 5 false .int := ⟨RX1, TX1, 7, tyX1, rfl, by decide, uw1, x_mem 208 u1 rfl rfl, tyX1_ok, nmX1, rfl, by decide +kernel, fun h => by cases h⟩
theorem flX1_46 : x_FL RX1 46 1 6 := ⟨RX1, TX1, 7, rfl, by decide, uw1, x_mem 210 u1 rfl rfl⟩
theorem fpX1_46 : x_FP RX1 46 1 6 false .int := ⟨RX1, TX1, 7, tyX1, rfl, by decide, uw1, x_mem 210 u1 rfl rfl, tyX1_ok, nmX1, rfl, by decide +kernel, fun h => by cases h⟩
theorem flX2_9 : x_FL RX2 9 2 0 := ⟨RX2, TX2, 5, rfl, by decide, uw2, x_mem 90 u1 rfl rfl⟩
theorem fpX2_9 : x_FP RX2 9 2 0 false .int := ⟨RX2, TX2, 5, tyX2, rfl, by decide, uw2, x_mem 90 u1 rfl rfl, tyX2_ok, nmX2, rfl, by decide +kernel, fun h => by cases h⟩
theorem flX2_15 : x_FL RX2 15 2 1 := ⟨RX2, TX2, 5, rfl, by decide, uw2, x_mem 93 u1 rfl rfl⟩
theorem fpX2_15 : x_FP RX2 15 2 1 false .int := ⟨RX2, TX2, 5, tyX2, rfl, by decide, uw2, x_mem 93 u1 rfl rfl, tyX2_ok, nmX2, rfl, by decide +kernel, fun h => by cases h⟩
theorem flX2_22 : x_FL RX2 22 2 2 := ⟨RX2, TX2, 5, rfl, by decide, uw2, x_mem 96 u1 rfl rfl⟩
theorem fpX2_22 : x_FP RX2 22 2 2 false .int := ⟨RX2, TX2, 5, tyX2, rfl, by decide, uw2, x_mem 96 u1 rfl rfl, tyX2_ok, nmX2, rfl, by decide +kernel, fun h => by cases h⟩
theorem flX2_25 : x_FL RX2 25 2 3 := ⟨RX2, TX2, 5, rfl, by decide, uw2, x_mem 100 u1 rfl rfl⟩
theorem fpX2_25 : x_FP RX2 25 2 3 false .int := ⟨RX2, TX2, 5, tyX2, rfl, by decide, uw2, x_mem 100 u1 rfl rfl, tyX2_ok, nmX2, rfl, by decide +kernel, fun h => by cases h⟩
theorem flX2_28 : x_FL RX2 28 2 4 := ⟨RX2, TX2, 5, rfl, by decide, uw2, x_mem 103 u1 rfl rfl⟩
theorem fpX2_28 : x_FP RX2 28 2 4 false .int := ⟨RX2, TX2, 5, tyX2, rfl, by decide, uw2, x_mem 103 u1 rfl rfl, tyX2_ok, nmX2, rfl, by decide +kernel, fun h => by cases h⟩
theorem flX3_11 : x_FL RX3 11 3 0 := ⟨RX3, TX3, 6, rfl, by decide, uw3, x_mem 29 u1 rfl rfl⟩
theorem fpX3_11 : x_FP RX3 11 3 0 true (.array .int) := ⟨RX3, TX3, 6, tyX3, rfl, by decide, uw3, x_mem 29 u1 rfl rfl, tyX3_ok, nmX3, rfl, by decide +kernel, fun _ => rfl⟩
theorem flX3_15 : x_FL RX3 15 3 1 := ⟨RX3, TX3, 6, rfl, by decide, uw3, x_mem 30 u1 rfl rfl⟩
theorem fpX3_15 : x_FP RX3 15 3 1 true (.array .int) := ⟨RX3, TX3, 6, tyX3, rfl, by decide, uw3, x_mem 30 u1 rfl rfl, tyX3_ok, nmX3, rfl, by decide +kernel, fun _ => rfl⟩
theorem flX3_18 : x_FL RX3 18 3 2 := ⟨RX3, TX3, 6, rfl, by decide, uw3, x_mem 32 u1 rfl rfl⟩
theorem fpX3_18 : x_FP RX3 18 3 2 true (.array .int) := ⟨RX3, TX3, 6, tyX3, rfl, by decide, uw3, x_mem 32 u1 rfl rfl, tyX3_ok, nmX3, rfl, by decide +kernel, fun _ => rfl⟩
theorem flX3_21 : x_FL RX3 21 3 3 := ⟨RX3, TX3, 6, rfl, by decide, uw3, x_mem 33 u1 rfl rfl⟩
theorem fpX3_21 : x_FP RX3 21 3 3 true (.array .int) := ⟨RX3, TX3, 6, tyX3, rfl, by decide, uw3, x_mem 33 u1 rfl rfl, tyX3_ok, nmX3, rfl, by decide +kernel, fun _ => rfl⟩
theorem flX3_24 : x_FL RX3 24 3 4 := ⟨RX3, TX3, 6, rfl, by decide, uw3, x_mem 34 u1 rfl rfl⟩
theorem fpX3_24 : x_FP RX3 24 3 4 false .int := ⟨RX3, TX3, 6, tyX3, rfl, by decide, uw3, x_mem 34 u1 rfl rfl, tyX3_ok, nmX3, rfl, by decide +kernel, fun h => by cases h⟩
theorem flX3_48 : x_FL RX3 48 2 0 := ⟨RX2, TX2, 5, rfl, by decide, uw2, x_mem 91 u1 rfl rfl⟩
theorem fpX3_48 : x_FP RX3 48 2 0 false .int := ⟨RX2, TX2, 5, tyX2, rfl, by decide, uw2, x_mem 91 u1 rfl rfl, tyX2_ok, nmX2, rfl, by decide +kernel, fun h => by cases h⟩
theorem flX3_51 : x_FL RX3 51 2 1 := ⟨RX2, TX2, 5, rfl, by decide, uw2, x_mem 94 u1 rfl rfl⟩
theorem fpX3_51 : x_FP RX3 51 2 1 false .int := ⟨RX2, TX2, 5, tyX2, rfl, by decide, uw2, x_mem 94 u1 rfl rfl, tyX2_ok, nmX2, rfl, by decide +kernel, fun h => by cases h⟩
theorem flX3_54 : x_FL RX3 54 2 4 := ⟨RX2, TX2, 5, rfl, by decide, uw2, x_mem 104 u1 rfl rfl⟩
theorem fpX3_54 : x_FP RX3 54 2 4 false .int := ⟨RX2, TX2, 5, tyX2, rfl, by decide, uw2, x_mem 104 u1 rfl rfl, tyX2_ok, nmX2, rfl, by decide +kernel, fun h => by cases h⟩
theorem flX3_64 : x_FL RX3 64 3 5 := ⟨RX3, TX3, 6, rfl, by decide, uw3, x_mem 36 u1 rfl rfl⟩
theorem fpX3_64 : x_FP RX3 64 3 5 false .int := ⟨RX3, TX3, 6, tyX3, rfl, by decide, uw3, x_mem 36 u1 rfl rfl, tyX3_ok, nmX3, rfl, by decide +kernel, fun h => by cases h⟩
theorem flX4_9 : x_FL RX4 9 4 0 := ⟨RX4, TX4, 5, rfl, by decide, uw4, x_mem 59 u1 rfl rfl⟩
theorem fpX4_9 : x_FP RX4 9 4 0 true (.array .int) := ⟨RX4, TX4, 5, tyX4, rfl, by decide, uw4, x_mem 59 u1 rfl rfl, tyX4_ok, nmX4, rfl, by decide +kernel, fun _ => rfl⟩
theorem flX4_16 : x_FL RX4 16 4 1 := ⟨RX4, TX4, 5, rfl, by decide, uw4, x_mem 60 u1 rfl rfl⟩
theorem fpX4_16 : x_FP RX4 16 4 1 true (.object "HoopWaist$Law") := ⟨RX4, TX4, 5, tyX4, rfl, by decide, uw4, x_mem 60 u1 rfl rfl, tyX4_ok, nmX4, rfl, by decide +kernel, fun _ => rfl⟩
theorem flX4_20 : x_FL RX4 20 4 2 := ⟨RX4, TX4, 5, rfl, by decide, uw4, x_mem 62 u1 rfl rfl⟩
theorem fpX4_20 : x_FP RX4 20 4 2 false .int := ⟨RX4, TX4, 5, tyX4, rfl, by decide, uw4, x_mem 62 u1 rfl rfl, tyX4_ok, nmX4, rfl, by decide +kernel, fun h => by cases h⟩
theorem flX4_24 : x_FL RX4 24 4 3 := ⟨RX4, TX4, 5, rfl, by decide, uw4, x_mem 64 u1 rfl rfl⟩
theorem fpX4_24 : x_FP RX4 24 4 3 false .int := ⟨RX4, TX4, 5, tyX4, rfl, by decide, uw4, x_mem 64 u1 rfl rfl, tyX4_ok, nmX4, rfl, by decide +kernel, fun h => by cases h⟩
theorem flX4_27 : x_FL RX4 27 4 4 := ⟨RX4, TX4, 5, rfl, by decide, uw4, x_mem 65 u1 rfl rfl⟩
theorem fpX4_27 : x_FP RX4 27 4 4 false .boolean := ⟨RX4, TX4, 5, tyX4, rfl, by decide, uw4, x_mem 65 u1 rfl rfl, tyX4_ok, nmX4, rfl, by decide +kernel, fun h => by cases h⟩
theorem flX4_31 : x_FL RX4 31 3 4 := ⟨RX3, TX3, 6, rfl, by decide, uw3, x_mem 35 u1 rfl rfl⟩
theorem fpX4_31 : x_FP RX4 31 3 4 false .int := ⟨RX3, TX3, 6, tyX3, rfl, by decide, uw3, x_mem 35 u1 rfl rfl, tyX3_ok, nmX3, rfl, by decide +kernel, fun h => by cases h⟩
theorem flX4_47 : x_FL RX4 47 3 1 := ⟨RX3, TX3, 6, rfl, by decide, uw3, x_mem 31 u1 rfl rfl⟩
theorem flX5_9 : x_FL RX5 9 5 0 := ⟨RX5, TX5, 10, rfl, by decide, uw5, x_mem 118 u1 rfl rfl⟩
theorem fpX5_9 : x_FP RX5 9 5 0 true (.object "HoopWaist$Law") := ⟨RX5, TX5, 10, tyX5, rfl, by decide, uw5, x_mem 118 u1 rfl rfl, tyX5_ok, nmX5, rfl, by decide +kernel, fun _ => rfl⟩
theorem flX5_17 : x_FL RX5 17 5 1 := ⟨RX5, TX5, 10, rfl, by decide, uw5, x_mem 119 u1 rfl rfl⟩
theorem fpX5_17 : x_FP RX5 17 5 1 true (.array (.object "HoopWaist$Hoop")) := ⟨RX5, TX5, 10, tyX5, rfl, by decide, uw5, x_mem 119 u1 rfl rfl, tyX5_ok, nmX5, rfl, by decide +kernel, fun _ => rfl⟩
theorem flX5_22 : x_FL RX5 22 5 4 := ⟨RX5, TX5, 10, rfl, by decide, uw5, x_mem 126 u1 rfl rfl⟩
theorem fpX5_22 : x_FP RX5 22 5 4 false .int := ⟨RX5, TX5, 10, tyX5, rfl, by decide, uw5, x_mem 126 u1 rfl rfl, tyX5_ok, nmX5, rfl, by decide +kernel, fun h => by cases h⟩
theorem flX5_26 : x_FL RX5 26 5 5 := ⟨RX5, TX5, 10, rfl, by decide, uw5, x_mem 128 u1 rfl rfl⟩
theorem fpX5_26 : x_FP RX5 26 5 5 false .int := ⟨RX5, TX5, 10, tyX5, rfl, by decide, uw5, x_mem 128 u1 rfl rfl, tyX5_ok, nmX5, rfl, by decide +kernel, fun h => by cases h⟩
theorem flX5_29 : x_FL RX5 29 5 7 := ⟨RX5, TX5, 10, rfl, by decide, uw5, x_mem 132 u1 rfl rfl⟩
theorem fpX5_29 : x_FP RX5 29 5 7 false .int := ⟨RX5, TX5, 10, tyX5, rfl, by decide, uw5, x_mem 132 u1 rfl rfl, tyX5_ok, nmX5, rfl, by decide +kernel, fun h => by cases h⟩
theorem flX5_32 : x_FL RX5 32 5 9 := ⟨RX5, TX5, 10, rfl, by decide, uw5, x_mem 137 u1 rfl rfl⟩
theorem fpX5_32 : x_FP RX5 32 5 9 false .int := ⟨RX5, TX5, 10, tyX5, rfl, by decide, uw5, x_mem 137 u1 rfl rfl, tyX5_ok, nmX5, rfl, by decide +kernel, fun h => by cases h⟩
theorem flX5_35 : x_FL RX5 35 5 2 := ⟨RX5, TX5, 10, rfl, by decide, uw5, x_mem 122 u1 rfl rfl⟩
theorem fpX5_35 : x_FP RX5 35 5 2 false .int := ⟨RX5, TX5, 10, tyX5, rfl, by decide, uw5, x_mem 122 u1 rfl rfl, tyX5_ok, nmX5, rfl, by decide +kernel, fun h => by cases h⟩
theorem flX5_42 : x_FL RX5 42 5 3 := ⟨RX5, TX5, 10, rfl, by decide, uw5, x_mem 124 u1 rfl rfl⟩
theorem fpX5_42 : x_FP RX5 42 5 3 false .int := ⟨RX5, TX5, 10, tyX5, rfl, by decide, uw5, x_mem 124 u1 rfl rfl, tyX5_ok, nmX5, rfl, by decide +kernel, fun h => by cases h⟩
theorem flX5_45 : x_FL RX5 45 5 6 := ⟨RX5, TX5, 10, rfl, by decide, uw5, x_mem 130 u1 rfl rfl⟩
theorem fpX5_45 : x_FP RX5 45 5 6 false .int := ⟨RX5, TX5, 10, tyX5, rfl, by decide, uw5, x_mem 130 u1 rfl rfl, tyX5_ok, nmX5, rfl, by decide +kernel, fun h => by cases h⟩
theorem flX5_48 : x_FL RX5 48 5 8 := ⟨RX5, TX5, 10, rfl, by decide, uw5, x_mem 135 u1 rfl rfl⟩
theorem fpX5_48 : x_FP RX5 48 5 8 false .int := ⟨RX5, TX5, 10, tyX5, rfl, by decide, uw5, x_mem 135 u1 rfl rfl, tyX5_ok, nmX5, rfl, by decide +kernel, fun h => by cases h⟩
theorem flX5_58 : x_FL RX5 58 2 0 := ⟨RX2, TX2, 5, rfl, by decide, uw2, x_mem 92 u1 rfl rfl⟩
theorem fpX5_58 : x_FP RX5 58 2 0 false .int := ⟨RX2, TX2, 5, tyX2, rfl, by decide, uw2, x_mem 92 u1 rfl rfl, tyX2_ok, nmX2, rfl, by decide +kernel, fun h => by cases h⟩
theorem flX5_61 : x_FL RX5 61 2 1 := ⟨RX2, TX2, 5, rfl, by decide, uw2, x_mem 95 u1 rfl rfl⟩
theorem fpX5_61 : x_FP RX5 61 2 1 false .int := ⟨RX2, TX2, 5, tyX2, rfl, by decide, uw2, x_mem 95 u1 rfl rfl, tyX2_ok, nmX2, rfl, by decide +kernel, fun h => by cases h⟩
theorem flX5_67 : x_FL RX5 67 2 3 := ⟨RX2, TX2, 5, rfl, by decide, uw2, x_mem 101 u1 rfl rfl⟩
theorem fpX5_67 : x_FP RX5 67 2 3 false .int := ⟨RX2, TX2, 5, tyX2, rfl, by decide, uw2, x_mem 101 u1 rfl rfl, tyX2_ok, nmX2, rfl, by decide +kernel, fun h => by cases h⟩
theorem flX5_73 : x_FL RX5 73 2 4 := ⟨RX2, TX2, 5, rfl, by decide, uw2, x_mem 105 u1 rfl rfl⟩
theorem fpX5_73 : x_FP RX5 73 2 4 false .int := ⟨RX2, TX2, 5, tyX2, rfl, by decide, uw2, x_mem 105 u1 rfl rfl, tyX2_ok, nmX2, rfl, by decide +kernel, fun h => by cases h⟩
theorem flX5_124 : x_FL RX5 124 2 2 := ⟨RX2, TX2, 5, rfl, by decide, uw2, x_mem 99 u1 rfl rfl⟩
theorem fpX5_124 : x_FP RX5 124 2 2 false .int := ⟨RX2, TX2, 5, tyX2, rfl, by decide, uw2, x_mem 99 u1 rfl rfl, tyX2_ok, nmX2, rfl, by decide +kernel, fun h => by cases h⟩
theorem flX6_9 : x_FL RX6 9 6 4 := ⟨RX6, TX6, 5, rfl, by decide, uw6, x_mem 59 u2 rfl rfl⟩
theorem fpX6_9 : x_FP RX6 9 6 4 true (.array .long) := ⟨RX6, TX6, 5, tyX6, rfl, by decide, uw6, x_mem 59 u2 rfl rfl, tyX6_ok, nmX6, rfl, by decide +kernel, fun _ => rfl⟩
theorem flX6_15 : x_FL RX6 15 6 0 := ⟨RX6, TX6, 5, rfl, by decide, uw6, x_mem 51 u2 rfl rfl⟩
theorem fpX6_15 : x_FP RX6 15 6 0 false .int := ⟨RX6, TX6, 5, tyX6, rfl, by decide, uw6, x_mem 51 u2 rfl rfl, tyX6_ok, nmX6, rfl, by decide +kernel, fun h => by cases h⟩
theorem flX6_23 : x_FL RX6 23 6 2 := ⟨RX6, TX6, 5, rfl, by decide, uw6, x_mem 54 u2 rfl rfl⟩
theorem fpX6_23 : x_FP RX6 23 6 2 false .int := ⟨RX6, TX6, 5, tyX6, rfl, by decide, uw6, x_mem 54 u2 rfl rfl, tyX6_ok, nmX6, rfl, by decide +kernel, fun h => by cases h⟩
theorem flX6_26 : x_FL RX6 26 6 3 := ⟨RX6, TX6, 5, rfl, by decide, uw6, x_mem 56 u2 rfl rfl⟩
theorem fpX6_26 : x_FP RX6 26 6 3 false .int := ⟨RX6, TX6, 5, tyX6, rfl, by decide, uw6, x_mem 56 u2 rfl rfl, tyX6_ok, nmX6, rfl, by decide +kernel, fun h => by cases h⟩
theorem flX6_29 : x_FL RX6 29 6 1 := ⟨RX6, TX6, 5, rfl, by decide, uw6, x_mem 52 u2 rfl rfl⟩
theorem fpX6_29 : x_FP RX6 29 6 1 false .int := ⟨RX6, TX6, 5, tyX6, rfl, by decide, uw6, x_mem 52 u2 rfl rfl, tyX6_ok, nmX6, rfl, by decide +kernel, fun h => by cases h⟩
theorem flX7_9 : x_FL RX7 9 7 0 := ⟨RX7, TX7, 8, rfl, by decide, uw7, x_mem 166 u1 rfl rfl⟩
theorem fpX7_9 : x_FP RX7 9 7 0 true (.object "HoopWaist$Ring") := ⟨RX7, TX7, 8, tyX7, rfl, by decide, uw7, x_mem 166 u1 rfl rfl, tyX7_ok, nmX7, rfl, by decide +kernel, fun _ => rfl⟩
theorem flX7_15 : x_FL RX7 15 7 1 := ⟨RX7, TX7, 8, rfl, by decide, uw7, x_mem 167 u1 rfl rfl⟩
theorem fpX7_15 : x_FP RX7 15 7 1 true (.object "HoopWaist$Ring") := ⟨RX7, TX7, 8, tyX7, rfl, by decide, uw7, x_mem 167 u1 rfl rfl, tyX7_ok, nmX7, rfl, by decide +kernel, fun _ => rfl⟩
theorem flX7_24 : x_FL RX7 24 7 2 := ⟨RX7, TX7, 8, rfl, by decide, uw7, x_mem 169 u1 rfl rfl⟩
theorem fpX7_24 : x_FP RX7 24 7 2 false .int := ⟨RX7, TX7, 8, tyX7, rfl, by decide, uw7, x_mem 169 u1 rfl rfl, tyX7_ok, nmX7, rfl, by decide +kernel, fun h => by cases h⟩
theorem flX7_28 : x_FL RX7 28 7 3 := ⟨RX7, TX7, 8, rfl, by decide, uw7, x_mem 170 u1 rfl rfl⟩
theorem fpX7_28 : x_FP RX7 28 7 3 false .int := ⟨RX7, TX7, 8, tyX7, rfl, by decide, uw7, x_mem 170 u1 rfl rfl, tyX7_ok, nmX7, rfl, by decide +kernel, fun h => by cases h⟩
theorem flX7_31 : x_FL RX7 31 7 4 := ⟨RX7, TX7, 8, rfl, by decide, uw7, x_mem 171 u1 rfl rfl⟩
theorem fpX7_31 : x_FP RX7 31 7 4 false .int := ⟨RX7, TX7, 8, tyX7, rfl, by decide, uw7, x_mem 171 u1 rfl rfl, tyX7_ok, nmX7, rfl, by decide +kernel, fun h => by cases h⟩
theorem flX7_34 : x_FL RX7 34 7 5 := ⟨RX7, TX7, 8, rfl, by decide, uw7, x_mem 172 u1 rfl rfl⟩
theorem fpX7_34 : x_FP RX7 34 7 5 false .int := ⟨RX7, TX7, 8, tyX7, rfl, by decide, uw7, x_mem 172 u1 rfl rfl, tyX7_ok, nmX7, rfl, by decide +kernel, fun h => by cases h⟩
theorem flX7_37 : x_FL RX7 37 7 6 := ⟨RX7, TX7, 8, rfl, by decide, uw7, x_mem 173 u1 rfl rfl⟩
theorem fpX7_37 : x_FP RX7 37 7 6 false .int := ⟨RX7, TX7, 8, tyX7, rfl, by decide, uw7, x_mem 173 u1 rfl rfl, tyX7_ok, nmX7, rfl, by decide +kernel, fun h => by cases h⟩
theorem flX7_40 : x_FL RX7 40 7 7 := ⟨RX7, TX7, 8, rfl, by decide, uw7, x_mem 174 u1 rfl rfl⟩
theorem fpX7_40 : x_FP RX7 40 7 7 false .int := ⟨RX7, TX7, 8, tyX7, rfl, by decide, uw7, x_mem 174 u1 rfl rfl, tyX7_ok, nmX7, rfl, by decide +kernel, fun h => by cases h⟩
theorem flX7_47 : x_FL RX7 47 5 7 := ⟨RX5, TX5, 10, rfl, by decide, uw5, x_mem 133 u1 rfl rfl⟩
theorem fpX7_47 : x_FP RX7 47 5 7 false .int := ⟨RX5, TX5, 10, tyX5, rfl, by decide, uw5, x_mem 133 u1 rfl rfl, tyX5_ok, nmX5, rfl, by decide +kernel, fun h => by cases h⟩
theorem flX7_67 : x_FL RX7 67 5 1 := ⟨RX5, TX5, 10, rfl, by decide, uw5, x_mem 121 u1 rfl rfl⟩
theorem flX7_91 : x_FL RX7 91 6 3 := ⟨RX6, TX6, 5, rfl, by decide, uw6, x_mem 57 u2 rfl rfl⟩
theorem fpX7_91 : x_FP RX7 91 6 3 false .int := ⟨RX6, TX6, 5, tyX6, rfl, by decide, uw6, x_mem 57 u2 rfl rfl, tyX6_ok, nmX6, rfl, by decide +kernel, fun h => by cases h⟩
theorem flX7_94 : x_FL RX7 94 2 2 := ⟨RX2, TX2, 5, rfl, by decide, uw2, x_mem 98 u1 rfl rfl⟩
theorem fpX7_94 : x_FP RX7 94 2 2 false .int := ⟨RX2, TX2, 5, tyX2, rfl, by decide, uw2, x_mem 98 u1 rfl rfl, tyX2_ok, nmX2, rfl, by decide +kernel, fun h => by cases h⟩
theorem flX7_97 : x_FL RX7 97 6 4 := ⟨RX6, TX6, 5, rfl, by decide, uw6, x_mem 60 u2 rfl rfl⟩
theorem flX8_9 : x_FL RX8 9 8 0 := ⟨RX8, TX8, 5, rfl, by decide, uw8, x_mem 24 u2 rfl rfl⟩
theorem fpX8_9 : x_FP RX8 9 8 0 true (.array .int) := ⟨RX8, TX8, 5, tyX8, rfl, by decide, uw8, x_mem 24 u2 rfl rfl, tyX8_ok, nmX8, rfl, by decide +kernel, fun _ => rfl⟩
theorem flX8_15 : x_FL RX8 15 8 1 := ⟨RX8, TX8, 5, rfl, by decide, uw8, x_mem 26 u2 rfl rfl⟩
theorem fpX8_15 : x_FP RX8 15 8 1 true (.array .int) := ⟨RX8, TX8, 5, tyX8, rfl, by decide, uw8, x_mem 26 u2 rfl rfl, tyX8_ok, nmX8, rfl, by decide +kernel, fun _ => rfl⟩
theorem flX8_18 : x_FL RX8 18 8 2 := ⟨RX8, TX8, 5, rfl, by decide, uw8, x_mem 28 u2 rfl rfl⟩
theorem fpX8_18 : x_FP RX8 18 8 2 false .int := ⟨RX8, TX8, 5, tyX8, rfl, by decide, uw8, x_mem 28 u2 rfl rfl, tyX8_ok, nmX8, rfl, by decide +kernel, fun h => by cases h⟩
theorem slX8_30 : Cond.fieldLink RX8 30 RX8 "ABOVE" "[I" ∈ xU := x_mem 218 u4 rfl rfl
theorem flX8_33 : x_FL RX8 33 8 3 := ⟨RX8, TX8, 5, rfl, by decide, uw8, x_mem 30 u2 rfl rfl⟩
theorem fpX8_33 : x_FP RX8 33 8 3 false .int := ⟨RX8, TX8, 5, tyX8, rfl, by decide, uw8, x_mem 30 u2 rfl rfl, tyX8_ok, nmX8, rfl, by decide +kernel, fun h => by cases h⟩
theorem flX8_36 : x_FL RX8 36 8 4 := ⟨RX8, TX8, 5, rfl, by decide, uw8, x_mem 32 u2 rfl rfl⟩
theorem fpX8_36 : x_FP RX8 36 8 4 false .int := ⟨RX8, TX8, 5, tyX8, rfl, by decide, uw8, x_mem 32 u2 rfl rfl, tyX8_ok, nmX8, rfl, by decide +kernel, fun h => by cases h⟩
theorem slX8_50 : Cond.fieldLink RX8 50 RX8 "OWN" "[I" ∈ xU := x_mem 204 u4 rfl rfl
theorem flX10_9 : x_FL RX10 9 10 0 := ⟨RX10, TX10, 46, rfl, by decide, uw10, x_mem 54 u5 rfl rfl⟩
theorem fpX10_9 : x_FP RX10 9 10 0 true (.array .int) := ⟨RX10, TX10, 46, tyX10, rfl, by decide, uw10, x_mem 54 u5 rfl rfl, tyX10_ok, nmX10, rfl, by decide +kernel, fun _ => rfl⟩
theorem flX10_13 : x_FL RX10 13 10 1 := ⟨RX10, TX10, 46, rfl, by decide, uw10, x_mem 55 u5 rfl rfl⟩
theorem fpX10_13 : x_FP RX10 13 10 1 true (.array .int) := ⟨RX10, TX10, 46, tyX10, rfl, by decide, uw10, x_mem 55 u5 rfl rfl, tyX10_ok, nmX10, rfl, by decide +kernel, fun _ => rfl⟩
theorem flX10_16 : x_FL RX10 16 10 2 := ⟨RX10, TX10, 46, rfl, by decide, uw10, x_mem 56 u5 rfl rfl⟩
theorem fpX10_16 : x_FP RX10 16 10 2 true (.array .int) := ⟨RX10, TX10, 46, tyX10, rfl, by decide, uw10, x_mem 56 u5 rfl rfl, tyX10_ok, nmX10, rfl, by decide +kernel, fun _ => rfl⟩
theorem flX10_19 : x_FL RX10 19 10 3 := ⟨RX10, TX10, 46, rfl, by decide, uw10, x_mem 57 u5 rfl rfl⟩
theorem fpX10_19 : x_FP RX10 19 10 3 true (.array .int) := ⟨RX10, TX10, 46, tyX10, rfl, by decide, uw10, x_mem 57 u5 rfl rfl, tyX10_ok, nmX10, rfl, by decide +kernel, fun _ => rfl⟩
theorem flX10_22 : x_FL RX10 22 10 7 := ⟨RX10, TX10, 46, rfl, by decide, uw10, x_mem 61 u5 rfl rfl⟩
theorem fpX10_22 : x_FP RX10 22 10 7 true (.array .int) := ⟨RX10, TX10, 46, tyX10, rfl, by decide, uw10, x_mem 61 u5 rfl rfl, tyX10_ok, nmX10, rfl, by decide +kernel, fun _ => rfl⟩
theorem flX10_25 : x_FL RX10 25 10 8 := ⟨RX10, TX10, 46, rfl, by decide, uw10, x_mem 62 u5 rfl rfl⟩
theorem fpX10_25 : x_FP RX10 25 10 8 true (.array .int) := ⟨RX10, TX10, 46, tyX10, rfl, by decide, uw10, x_mem 62 u5 rfl rfl, tyX10_ok, nmX10, rfl, by decide +kernel, fun _ => rfl⟩
theorem flX10_28 : x_FL RX10 28 10 10 := ⟨RX10, TX10, 46, rfl, by decide, uw10, x_mem 64 u5 rfl rfl⟩
theorem fpX10_28 : x_FP RX10 28 10 10 true (.array .int) := ⟨RX10, TX10, 46, tyX10, rfl, by decide, uw10, x_mem 64 u5 rfl rfl, tyX10_ok, nmX10, rfl, by decide +kernel, fun _ => rfl⟩
theorem flX10_31 : x_FL RX10 31 10 12 := ⟨RX10, TX10, 46, rfl, by decide, uw10, x_mem 66 u5 rfl rfl⟩
theorem fpX10_31 : x_FP RX10 31 10 12 true (.array .int) := ⟨RX10, TX10, 46, tyX10, rfl, by decide, uw10, x_mem 66 u5 rfl rfl, tyX10_ok, nmX10, rfl, by decide +kernel, fun _ => rfl⟩
theorem flX10_34 : x_FL RX10 34 10 19 := ⟨RX10, TX10, 46, rfl, by decide, uw10, x_mem 73 u5 rfl rfl⟩
theorem fpX10_34 : x_FP RX10 34 10 19 true (.array .int) := ⟨RX10, TX10, 46, tyX10, rfl, by decide, uw10, x_mem 73 u5 rfl rfl, tyX10_ok, nmX10, rfl, by decide +kernel, fun _ => rfl⟩
theorem flX10_37 : x_FL RX10 37 10 20 := ⟨RX10, TX10, 46, rfl, by decide, uw10, x_mem 74 u5 rfl rfl⟩
theorem fpX10_37 : x_FP RX10 37 10 20 true (.array .int) := ⟨RX10, TX10, 46, tyX10, rfl, by decide, uw10, x_mem 74 u5 rfl rfl, tyX10_ok, nmX10, rfl, by decide +kernel, fun _ => rfl⟩
theorem flX10_40 : x_FL RX10 40 10 21 := ⟨RX10, TX10, 46, rfl, by decide, uw10, x_mem 75 u5 rfl rfl⟩
theorem fpX10_40 : x_FP RX10 40 10 21 true (.array .int) := ⟨RX10, TX10, 46, tyX10, rfl, by decide, uw10, x_mem 75 u5 rfl rfl, tyX10_ok, nmX10, rfl, by decide +kernel, fun _ => rfl⟩
theorem flX10_43 : x_FL RX10 43 10 22 := ⟨RX10, TX10, 46, rfl, by decide, uw10, x_mem 76 u5 rfl rfl⟩
theorem fpX10_43 : x_FP RX10 43 10 22 true (.array .int) := ⟨RX10, TX10, 46, tyX10, rfl, by decide, uw10, x_mem 76 u5 rfl rfl, tyX10_ok, nmX10, rfl, by decide +kernel, fun _ => rfl⟩
theorem flX10_46 : x_FL RX10 46 10 25 := ⟨RX10, TX10, 46, rfl, by decide, uw10, x_mem 79 u5 rfl rfl⟩
theorem fpX10_46 : x_FP RX10 46 10 25 false .int := ⟨RX10, TX10, 46, tyX10, rfl, by decide, uw10, x_mem 79 u5 rfl rfl, tyX10_ok, nmX10, rfl, by decide +kernel, fun h => by cases h⟩
theorem flX10_50 : x_FL RX10 50 10 27 := ⟨RX10, TX10, 46, rfl, by decide, uw10, x_mem 81 u5 rfl rfl⟩
theorem fpX10_50 : x_FP RX10 50 10 27 true (.array .int) := ⟨RX10, TX10, 46, tyX10, rfl, by decide, uw10, x_mem 81 u5 rfl rfl, tyX10_ok, nmX10, rfl, by decide +kernel, fun _ => rfl⟩
theorem flX10_53 : x_FL RX10 53 10 28 := ⟨RX10, TX10, 46, rfl, by decide, uw10, x_mem 82 u5 rfl rfl⟩
theorem fpX10_53 : x_FP RX10 53 10 28 true (.array .int) := ⟨RX10, TX10, 46, tyX10, rfl, by decide, uw10, x_mem 82 u5 rfl rfl, tyX10_ok, nmX10, rfl, by decide +kernel, fun _ => rfl⟩
theorem flX10_56 : x_FL RX10 56 10 29 := ⟨RX10, TX10, 46, rfl, by decide, uw10, x_mem 83 u5 rfl rfl⟩
theorem fpX10_56 : x_FP RX10 56 10 29 true (.array .boolean) := ⟨RX10, TX10, 46, tyX10, rfl, by decide, uw10, x_mem 83 u5 rfl rfl, tyX10_ok, nmX10, rfl, by decide +kernel, fun _ => rfl⟩
theorem flX10_60 : x_FL RX10 60 10 30 := ⟨RX10, TX10, 46, rfl, by decide, uw10, x_mem 84 u5 rfl rfl⟩
theorem fpX10_60 : x_FP RX10 60 10 30 true (.array .int) := ⟨RX10, TX10, 46, tyX10, rfl, by decide, uw10, x_mem 84 u5 rfl rfl, tyX10_ok, nmX10, rfl, by decide +kernel, fun _ => rfl⟩
theorem flX10_63 : x_FL RX10 63 10 31 := ⟨RX10, TX10, 46, rfl, by decide, uw10, x_mem 85 u5 rfl rfl⟩
theorem fpX10_63 : x_FP RX10 63 10 31 true (.array .int) := ⟨RX10, TX10, 46, tyX10, rfl, by decide, uw10, x_mem 85 u5 rfl rfl, tyX10_ok, nmX10, rfl, by decide +kernel, fun _ => rfl⟩
theorem flX10_66 : x_FL RX10 66 10 35 := ⟨RX10, TX10, 46, rfl, by decide, uw10, x_mem 89 u5 rfl rfl⟩
theorem fpX10_66 : x_FP RX10 66 10 35 true (.array .int) := ⟨RX10, TX10, 46, tyX10, rfl, by decide, uw10, x_mem 89 u5 rfl rfl, tyX10_ok, nmX10, rfl, by decide +kernel, fun _ => rfl⟩
theorem flX10_69 : x_FL RX10 69 10 37 := ⟨RX10, TX10, 46, rfl, by decide, uw10, x_mem 91 u5 rfl rfl⟩
theorem fpX10_69 : x_FP RX10 69 10 37 true (.array .int) := ⟨RX10, TX10, 46, tyX10, rfl, by decide, uw10, x_mem 91 u5 rfl rfl, tyX10_ok, nmX10, rfl, by decide +kernel, fun _ => rfl⟩
theorem flX10_72 : x_FL RX10 72 10 38 := ⟨RX10, TX10, 46, rfl, by decide, uw10, x_mem 92 u5 rfl rfl⟩
theorem fpX10_72 : x_FP RX10 72 10 38 true (.array .int) := ⟨RX10, TX10, 46, tyX10, rfl, by decide, uw10, x_mem 92 u5 rfl rfl, tyX10_ok, nmX10, rfl, by decide +kernel, fun _ => rfl⟩
theorem flX10_75 : x_FL RX10 75 10 42 := ⟨RX10, TX10, 46, rfl, by decide, uw10, x_mem 96 u5 rfl rfl⟩
theorem fpX10_75 : x_FP RX10 75 10 42 true (.array .int) := ⟨RX10, TX10, 46, tyX10, rfl, by decide, uw10, x_mem 96 u5 rfl rfl, tyX10_ok, nmX10, rfl, by decide +kernel, fun _ => rfl⟩
theorem flX10_78 : x_FL RX10 78 10 43 := ⟨RX10, TX10, 46, rfl, by decide, uw10, x_mem 97 u5 rfl rfl⟩
theorem fpX10_78 : x_FP RX10 78 10 43 true (.array .int) := ⟨RX10, TX10, 46, tyX10, rfl, by decide, uw10, x_mem 97 u5 rfl rfl, tyX10_ok, nmX10, rfl, by decide +kernel, fun _ => rfl⟩
theorem flX10_81 : x_FL RX10 81 10 44 := ⟨RX10, TX10, 46, rfl, by decide, uw10, x_mem 98 u5 rfl rfl⟩
theorem fpX10_81 : x_FP RX10 81 10 44 true (.array .long) := ⟨RX10, TX10, 46, tyX10, rfl, by decide, uw10, x_mem 98 u5 rfl rfl, tyX10_ok, nmX10, rfl, by decide +kernel, fun _ => rfl⟩
theorem flX10_85 : x_FL RX10 85 10 45 := ⟨RX10, TX10, 46, rfl, by decide, uw10, x_mem 99 u5 rfl rfl⟩
theorem fpX10_85 : x_FP RX10 85 10 45 true (.array .long) := ⟨RX10, TX10, 46, tyX10, rfl, by decide, uw10, x_mem 99 u5 rfl rfl, tyX10_ok, nmX10, rfl, by decide +kernel, fun _ => rfl⟩
theorem flX10_88 : x_FL RX10 88 10 13 := ⟨RX10, TX10, 46, rfl, by decide, uw10, x_mem 67 u5 rfl rfl⟩
theorem fpX10_88 : x_FP RX10 88 10 13 false .int := ⟨RX10, TX10, 46, tyX10, rfl, by decide, uw10, x_mem 67 u5 rfl rfl, tyX10_ok, nmX10, rfl, by decide +kernel, fun h => by cases h⟩
theorem flX10_91 : x_FL RX10 91 10 5 := ⟨RX10, TX10, 46, rfl, by decide, uw10, x_mem 59 u5 rfl rfl⟩
theorem fpX10_91 : x_FP RX10 91 10 5 false .int := ⟨RX10, TX10, 46, tyX10, rfl, by decide, uw10, x_mem 59 u5 rfl rfl, tyX10_ok, nmX10, rfl, by decide +kernel, fun h => by cases h⟩
theorem flX10_94 : x_FL RX10 94 10 4 := ⟨RX10, TX10, 46, rfl, by decide, uw10, x_mem 58 u5 rfl rfl⟩
theorem fpX10_94 : x_FP RX10 94 10 4 false .int := ⟨RX10, TX10, 46, tyX10, rfl, by decide, uw10, x_mem 58 u5 rfl rfl, tyX10_ok, nmX10, rfl, by decide +kernel, fun h => by cases h⟩
theorem flX10_109 : x_FL RX10 109 10 6 := ⟨RX10, TX10, 46, rfl, by decide, uw10, x_mem 60 u5 rfl rfl⟩
theorem fpX10_109 : x_FP RX10 109 10 6 false .int := ⟨RX10, TX10, 46, tyX10, rfl, by decide, uw10, x_mem 60 u5 rfl rfl, tyX10_ok, nmX10, rfl, by decide +kernel, fun h => by cases h⟩
theorem flX10_151 : x_FL RX10 151 10 9 := ⟨RX10, TX10, 46, rfl, by decide, uw10, x_mem 63 u5 rfl rfl⟩
theorem fpX10_151 : x_FP RX10 151 10 9 false .int := ⟨RX10, TX10, 46, tyX10, rfl, by decide, uw10, x_mem 63 u5 rfl rfl, tyX10_ok, nmX10, rfl, by decide +kernel, fun h => by cases h⟩
theorem flX10_162 : x_FL RX10 162 10 11 := ⟨RX10, TX10, 46, rfl, by decide, uw10, x_mem 65 u5 rfl rfl⟩
theorem fpX10_162 : x_FP RX10 162 10 11 false .int := ⟨RX10, TX10, 46, tyX10, rfl, by decide, uw10, x_mem 65 u5 rfl rfl, tyX10_ok, nmX10, rfl, by decide +kernel, fun h => by cases h⟩
theorem flX10_165 : x_FL RX10 165 10 15 := ⟨RX10, TX10, 46, rfl, by decide, uw10, x_mem 69 u5 rfl rfl⟩
theorem fpX10_165 : x_FP RX10 165 10 15 false .int := ⟨RX10, TX10, 46, tyX10, rfl, by decide, uw10, x_mem 69 u5 rfl rfl, tyX10_ok, nmX10, rfl, by decide +kernel, fun h => by cases h⟩
theorem flX10_168 : x_FL RX10 168 10 16 := ⟨RX10, TX10, 46, rfl, by decide, uw10, x_mem 70 u5 rfl rfl⟩
theorem fpX10_168 : x_FP RX10 168 10 16 false .int := ⟨RX10, TX10, 46, tyX10, rfl, by decide, uw10, x_mem 70 u5 rfl rfl, tyX10_ok, nmX10, rfl, by decide +kernel, fun h => by cases h⟩
theorem flX10_171 : x_FL RX10 171 10 14 := ⟨RX10, TX10, 46, rfl, by decide, uw10, x_mem 68 u5 rfl rfl⟩
theorem fpX10_171 : x_FP RX10 171 10 14 false .int := ⟨RX10, TX10, 46, tyX10, rfl, by decide, uw10, x_mem 68 u5 rfl rfl, tyX10_ok, nmX10, rfl, by decide +kernel, fun h => by cases h⟩
theorem flX10_174 : x_FL RX10 174 10 17 := ⟨RX10, TX10, 46, rfl, by decide, uw10, x_mem 71 u5 rfl rfl⟩
theorem fpX10_174 : x_FP RX10 174 10 17 false .int := ⟨RX10, TX10, 46, tyX10, rfl, by decide, uw10, x_mem 71 u5 rfl rfl, tyX10_ok, nmX10, rfl, by decide +kernel, fun h => by cases h⟩
theorem flX10_199 : x_FL RX10 199 10 18 := ⟨RX10, TX10, 46, rfl, by decide, uw10, x_mem 72 u5 rfl rfl⟩
theorem fpX10_199 : x_FP RX10 199 10 18 false .int := ⟨RX10, TX10, 46, tyX10, rfl, by decide, uw10, x_mem 72 u5 rfl rfl, tyX10_ok, nmX10, rfl, by decide +kernel, fun h => by cases h⟩
theorem flX10_237 : x_FL RX10 237 10 23 := ⟨RX10, TX10, 46, rfl, by decide, uw10, x_mem 77 u5 rfl rfl⟩
theorem fpX10_237 : x_FP RX10 237 10 23 false .int := ⟨RX10, TX10, 46, tyX10, rfl, by decide, uw10, x_mem 77 u5 rfl rfl, tyX10_ok, nmX10, rfl, by decide +kernel, fun h => by cases h⟩
theorem flX10_258 : x_FL RX10 258 10 24 := ⟨RX10, TX10, 46, rfl, by decide, uw10, x_mem 78 u5 rfl rfl⟩
theorem fpX10_258 : x_FP RX10 258 10 24 false .int := ⟨RX10, TX10, 46, tyX10, rfl, by decide, uw10, x_mem 78 u5 rfl rfl, tyX10_ok, nmX10, rfl, by decide +kernel, fun h => by cases h⟩
theorem flX10_273 : x_FL RX10 273 10 26 := ⟨RX10, TX10, 46, rfl, by decide, uw10, x_mem 80 u5 rfl rfl⟩
theorem fpX10_273 : x_FP RX10 273 10 26 false .int := ⟨RX10, TX10, 46, tyX10, rfl, by decide, uw10, x_mem 80 u5 rfl rfl, tyX10_ok, nmX10, rfl, by decide +kernel, fun h => by cases h⟩
theorem flX10_298 : x_FL RX10 298 10 32 := ⟨RX10, TX10, 46, rfl, by decide, uw10, x_mem 86 u5 rfl rfl⟩
theorem fpX10_298 : x_FP RX10 298 10 32 false .int := ⟨RX10, TX10, 46, tyX10, rfl, by decide, uw10, x_mem 86 u5 rfl rfl, tyX10_ok, nmX10, rfl, by decide +kernel, fun h => by cases h⟩
theorem flX10_327 : x_FL RX10 327 10 33 := ⟨RX10, TX10, 46, rfl, by decide, uw10, x_mem 87 u5 rfl rfl⟩
theorem fpX10_327 : x_FP RX10 327 10 33 false .boolean := ⟨RX10, TX10, 46, tyX10, rfl, by decide, uw10, x_mem 87 u5 rfl rfl, tyX10_ok, nmX10, rfl, by decide +kernel, fun h => by cases h⟩
theorem flX10_331 : x_FL RX10 331 10 34 := ⟨RX10, TX10, 46, rfl, by decide, uw10, x_mem 88 u5 rfl rfl⟩
theorem fpX10_331 : x_FP RX10 331 10 34 false .int := ⟨RX10, TX10, 46, tyX10, rfl, by decide, uw10, x_mem 88 u5 rfl rfl, tyX10_ok, nmX10, rfl, by decide +kernel, fun h => by cases h⟩
theorem flX10_334 : x_FL RX10 334 10 36 := ⟨RX10, TX10, 46, rfl, by decide, uw10, x_mem 90 u5 rfl rfl⟩
theorem fpX10_334 : x_FP RX10 334 10 36 false .int := ⟨RX10, TX10, 46, tyX10, rfl, by decide, uw10, x_mem 90 u5 rfl rfl, tyX10_ok, nmX10, rfl, by decide +kernel, fun h => by cases h⟩
theorem flX10_337 : x_FL RX10 337 10 39 := ⟨RX10, TX10, 46, rfl, by decide, uw10, x_mem 93 u5 rfl rfl⟩
theorem fpX10_337 : x_FP RX10 337 10 39 false .int := ⟨RX10, TX10, 46, tyX10, rfl, by decide, uw10, x_mem 93 u5 rfl rfl, tyX10_ok, nmX10, rfl, by decide +kernel, fun h => by cases h⟩
theorem flX10_346 : x_FL RX10 346 10 41 := ⟨RX10, TX10, 46, rfl, by decide, uw10, x_mem 95 u5 rfl rfl⟩
theorem fpX10_346 : x_FP RX10 346 10 41 false .int := ⟨RX10, TX10, 46, tyX10, rfl, by decide, uw10, x_mem 95 u5 rfl rfl, tyX10_ok, nmX10, rfl, by decide +kernel, fun h => by cases h⟩
theorem flX10_352 : x_FL RX10 352 10 40 := ⟨RX10, TX10, 46, rfl, by decide, uw10, x_mem 94 u5 rfl rfl⟩
theorem fpX10_352 : x_FP RX10 352 10 40 false .int := ⟨RX10, TX10, 46, tyX10, rfl, by decide, uw10, x_mem 94 u5 rfl rfl, tyX10_ok, nmX10, rfl, by decide +kernel, fun h => by cases h⟩
theorem obX9_1 : Cond.methodLink RX9 1 objectInit ∈ xU := x_mem 20 u1 rfl rfl
theorem mlX9_9 : x_MI RX9 9 fX3_init 0 := ⟨okX3_init, x_mem 25 u1 rfl rfl, x_mem 26 u1 rfl rfl, rfl, rfl⟩
theorem mlX9_18 : x_MI RX9 18 fX4_init 0 := ⟨okX4_init, x_mem 53 u1 rfl rfl, x_mem 54 u1 rfl rfl, rfl, rfl⟩
theorem mlX9_25 : x_MI RX9 25 fX5_init 1 := ⟨okX5_init, x_mem 79 u1 rfl rfl, x_mem 80 u1 rfl rfl, rfl, rfl⟩
theorem mlX9_37 : x_MI RX9 37 fX7_init 2 := ⟨okX7_init, x_mem 162 u1 rfl rfl, x_mem 163 u1 rfl rfl, rfl, rfl⟩
theorem mlX9_46 : x_MI RX9 46 fX1_init 0 := ⟨okX1_init, x_mem 194 u1 rfl rfl, x_mem 195 u1 rfl rfl, rfl, rfl⟩
theorem mlX9_53 : x_MI RX9 53 fX0_init 0 := ⟨okX0_init, x_mem 229 u1 rfl rfl, x_mem 230 u1 rfl rfl, rfl, rfl⟩
theorem mlX9_60 : x_MI RX9 60 fX8_init 0 := ⟨okX8_init, x_mem 20 u2 rfl rfl, x_mem 21 u2 rfl rfl, rfl, rfl⟩
theorem mlX9_71 : x_MI RX9 71 fX6_init 0 := ⟨okX6_init, x_mem 47 u2 rfl rfl, x_mem 48 u2 rfl rfl, rfl, rfl⟩
theorem mlX9_76 : x_MS RX9 76 fX9_isWeight 1 := ⟨okX9_isWeight, x_mem 109 u2 rfl rfl, x_mem 110 u2 rfl rfl⟩
theorem mlX9_80 : x_MV RX9 80 5 fX5_isFull 0 := ⟨okX5_isFull, ⟨TX5, 10, rfl⟩, x_mem 112 u2 rfl rfl, x_mem 113 u2 rfl rfl, x_mem 114 u2 rfl rfl⟩
theorem mlX9_84 : x_MV RX9 84 5 fX5_addHoop 3 := ⟨okX5_addHoop, ⟨TX5, 10, rfl⟩, x_mem 116 u2 rfl rfl, x_mem 117 u2 rfl rfl, x_mem 118 u2 rfl rfl⟩
theorem mlX9_88 : x_MS RX9 88 fX9_isShelf 1 := ⟨okX9_isShelf, x_mem 129 u2 rfl rfl, x_mem 130 u2 rfl rfl⟩
theorem mlX9_91 : x_MV RX9 91 6 fX6_isEmpty 0 := ⟨okX6_isEmpty, ⟨TX6, 5, rfl⟩, x_mem 132 u2 rfl rfl, x_mem 133 u2 rfl rfl, x_mem 134 u2 rfl rfl⟩
theorem mlX9_94 : x_MV RX9 94 6 fX6_hasBytes 0 := ⟨okX6_hasBytes, ⟨TX6, 5, rfl⟩, x_mem 136 u2 rfl rfl, x_mem 137 u2 rfl rfl, x_mem 138 u2 rfl rfl⟩
theorem mlX9_97 : x_MV RX9 97 9 fX9_hoopCame 2 := ⟨okX9_hoopCame, ⟨TX9, 10, rfl⟩, x_mem 144 u2 rfl rfl, x_mem 146 u2 rfl rfl, x_mem 0 uS rfl rfl⟩
theorem mlX9_101 : x_MV RX9 101 9 fX9_canBecome 3 := ⟨okX9_canBecome, ⟨TX9, 10, rfl⟩, x_mem 155 u2 rfl rfl, x_mem 157 u2 rfl rfl, x_mem 1 uS rfl rfl⟩
theorem mlX9_106 : x_MV RX9 106 9 fX9_valueOf 2 := ⟨okX9_valueOf, ⟨TX9, 10, rfl⟩, x_mem 178 u2 rfl rfl, x_mem 180 u2 rfl rfl, x_mem 3 uS rfl rfl⟩
theorem mlX9_110 : x_MV RX9 110 9 fX9_lay 3 := ⟨okX9_lay, ⟨TX9, 10, rfl⟩, x_mem 195 u2 rfl rfl, x_mem 197 u2 rfl rfl, x_mem 5 uS rfl rfl⟩
theorem mlX9_114 : x_MV RX9 114 0 fX0_note 4 := ⟨okX0_note, ⟨TX0, 6, rfl⟩, x_mem 204 u2 rfl rfl, x_mem 205 u2 rfl rfl, x_mem 206 u2 rfl rfl⟩
theorem mlX9_118 : x_MV RX9 118 5 fX5_has 1 := ⟨okX5_has, ⟨TX5, 10, rfl⟩, x_mem 159 u2 rfl rfl, x_mem 160 u2 rfl rfl, x_mem 161 u2 rfl rfl⟩
theorem mlX9_125 : x_MV RX9 125 2 fX2_told 1 := ⟨okX2_told, ⟨TX2, 5, rfl⟩, x_mem 182 u2 rfl rfl, x_mem 183 u2 rfl rfl, x_mem 184 u2 rfl rfl⟩
theorem mlX9_131 : x_MV RX9 131 9 fX9_settingOf 1 := ⟨okX9_settingOf, ⟨TX9, 10, rfl⟩, x_mem 191 u2 rfl rfl, x_mem 193 u2 rfl rfl, x_mem 4 uS rfl rfl⟩
theorem mlX9_134 : x_MS RX9 134 fX9_isGirl 1 := ⟨okX9_isGirl, x_mem 219 u2 rfl rfl, x_mem 220 u2 rfl rfl⟩
theorem mlX9_144 : x_MV RX9 144 4 fX4_takeIn 1 := ⟨okX4_takeIn, ⟨TX4, 5, rfl⟩, x_mem 226 u2 rfl rfl, x_mem 227 u2 rfl rfl, x_mem 228 u2 rfl rfl⟩
theorem mlX9_151 : x_MV RX9 151 4 fX4_readText 0 := ⟨okX4_readText, ⟨TX4, 5, rfl⟩, x_mem 234 u2 rfl rfl, x_mem 235 u2 rfl rfl, x_mem 236 u2 rfl rfl⟩
theorem mlX9_158 : x_MV RX9 158 3 fX3_copy 1 := ⟨okX3_copy, ⟨TX3, 6, rfl⟩, x_mem 40 u3 rfl rfl, x_mem 41 u3 rfl rfl, x_mem 42 u3 rfl rfl⟩
theorem mlX9_161 : x_MV RX9 161 5 fX5_tick 0 := ⟨okX5_tick, ⟨TX5, 10, rfl⟩, x_mem 49 u3 rfl rfl, x_mem 50 u3 rfl rfl, x_mem 51 u3 rfl rfl⟩
theorem mlX9_164 : x_MV RX9 164 5 fX5_upright 0 := ⟨okX5_upright, ⟨TX5, 10, rfl⟩, x_mem 145 u3 rfl rfl, x_mem 146 u3 rfl rfl, x_mem 147 u3 rfl rfl⟩
theorem mlX9_167 : x_MV RX9 167 2 fX2_lies 0 := ⟨okX2_lies, ⟨TX2, 5, rfl⟩, x_mem 166 u2 rfl rfl, x_mem 167 u2 rfl rfl, x_mem 168 u2 rfl rfl⟩
theorem mlX9_170 : x_MV RX9 170 2 fX2_raise 0 := ⟨okX2_raise, ⟨TX2, 5, rfl⟩, x_mem 153 u3 rfl rfl, x_mem 122 u2 rfl rfl, x_mem 123 u2 rfl rfl⟩
theorem mlX9_179 : x_MV RX9 179 7 fX7_behind 2 := ⟨okX7_behind, ⟨TX7, 8, rfl⟩, x_mem 162 u3 rfl rfl, x_mem 163 u3 rfl rfl, x_mem 164 u3 rfl rfl⟩
theorem mlX9_192 : x_MV RX9 192 7 fX7_begin 0 := ⟨okX7_begin, ⟨TX7, 8, rfl⟩, x_mem 194 u3 rfl rfl, x_mem 167 u3 rfl rfl, x_mem 168 u3 rfl rfl⟩
theorem mlX9_195 : x_MV RX9 195 7 fX7_fallOf 1 := ⟨okX7_fallOf, ⟨TX7, 8, rfl⟩, x_mem 195 u3 rfl rfl, x_mem 196 u3 rfl rfl, x_mem 197 u3 rfl rfl⟩
theorem mlX9_198 : x_MV RX9 198 7 fX7_lasting 0 := ⟨okX7_lasting, ⟨TX7, 8, rfl⟩, x_mem 204 u3 rfl rfl, x_mem 205 u3 rfl rfl, x_mem 206 u3 rfl rfl⟩
theorem mlX9_211 : x_MV RX9 211 7 fX7_leaveOut 1 := ⟨okX7_leaveOut, ⟨TX7, 8, rfl⟩, x_mem 221 u3 rfl rfl, x_mem 222 u3 rfl rfl, x_mem 223 u3 rfl rfl⟩
theorem mlX9_215 : x_MV RX9 215 7 fX7_caughtAgain 0 := ⟨okX7_caughtAgain, ⟨TX7, 8, rfl⟩, x_mem 225 u3 rfl rfl, x_mem 226 u3 rfl rfl, x_mem 227 u3 rfl rfl⟩
theorem mlX9_221 : x_MS RX9 221 fJ6_bitCount_0f7a4 1 := ⟨okJ6_bitCount_0f7a4, x_mem 237 u3 rfl rfl, x_mem 238 u3 rfl rfl⟩
theorem mlX9_226 : x_MV RX9 226 5 fX5_allUp 1 := ⟨okX5_allUp, ⟨TX5, 10, rfl⟩, x_mem 3 u4 rfl rfl, x_mem 4 u4 rfl rfl, x_mem 5 u4 rfl rfl⟩
theorem mlX9_229 : x_MV RX9 229 5 fX5_layAllBut 1 := ⟨okX5_layAllBut, ⟨TX5, 10, rfl⟩, x_mem 7 u4 rfl rfl, x_mem 8 u4 rfl rfl, x_mem 9 u4 rfl rfl⟩
theorem mmX9_232 : Cond.methodLink RX9 232 Lib.Math.min.name ∈ xU := x_mem 107 u3 rfl rfl
theorem mlX9_237 : x_MV RX9 237 7 fX7_addPush 3 := ⟨okX7_addPush, ⟨TX7, 8, rfl⟩, x_mem 19 u4 rfl rfl, x_mem 20 u4 rfl rfl, x_mem 21 u4 rfl rfl⟩
theorem mlX9_240 : x_MV RX9 240 7 fX7_isUpBehind 2 := ⟨okX7_isUpBehind, ⟨TX7, 8, rfl⟩, x_mem 23 u4 rfl rfl, x_mem 24 u4 rfl rfl, x_mem 25 u4 rfl rfl⟩
theorem mlX9_244 : x_MV RX9 244 6 fX6_bytesRefusal 0 := ⟨okX6_bytesRefusal, ⟨TX6, 5, rfl⟩, x_mem 35 u4 rfl rfl, x_mem 36 u4 rfl rfl, x_mem 37 u4 rfl rfl⟩
theorem mlX9_247 : x_MV RX9 247 7 fX7_lastingBy 1 := ⟨okX7_lastingBy, ⟨TX7, 8, rfl⟩, x_mem 41 u4 rfl rfl, x_mem 42 u4 rfl rfl, x_mem 43 u4 rfl rfl⟩
theorem mlX9_251 : x_MV RX9 251 7 fX7_firstUnlike 2 := ⟨okX7_firstUnlike, ⟨TX7, 8, rfl⟩, x_mem 54 u4 rfl rfl, x_mem 55 u4 rfl rfl, x_mem 56 u4 rfl rfl⟩
theorem mlX9_255 : x_MS RX9 255 fX9_isSkill 1 := ⟨okX9_isSkill, x_mem 174 u2 rfl rfl, x_mem 175 u2 rfl rfl⟩
theorem mlX9_258 : x_MV RX9 258 1 fX1_becomes 2 := ⟨okX1_becomes, ⟨TX1, 7, rfl⟩, x_mem 66 u4 rfl rfl, x_mem 67 u4 rfl rfl, x_mem 68 u4 rfl rfl⟩
theorem mlX9_262 : x_MS RX9 262 fX9_isMinutes 1 := ⟨okX9_isMinutes, x_mem 74 u4 rfl rfl, x_mem 75 u4 rfl rfl⟩
theorem mlX9_265 : x_MV RX9 265 1 fX1_play 2 := ⟨okX1_play, ⟨TX1, 7, rfl⟩, x_mem 77 u4 rfl rfl, x_mem 78 u4 rfl rfl, x_mem 79 u4 rfl rfl⟩
theorem mlX9_268 : x_MV RX9 268 1 fX1_howManyUp 0 := ⟨okX1_howManyUp, ⟨TX1, 7, rfl⟩, x_mem 101 u4 rfl rfl, x_mem 102 u4 rfl rfl, x_mem 103 u4 rfl rfl⟩
theorem mlX9_278 : x_MV RX9 278 1 fX1_longest 0 := ⟨okX1_longest, ⟨TX1, 7, rfl⟩, x_mem 113 u4 rfl rfl, x_mem 114 u4 rfl rfl, x_mem 115 u4 rfl rfl⟩
theorem mlX9_288 : x_MS RX9 288 fX9_greatestDivisor 2 := ⟨okX9_greatestDivisor, x_mem 122 u4 rfl rfl, x_mem 123 u4 rfl rfl⟩
theorem mmX9_291 : Cond.methodLink RX9 291 Lib.Math.max.name ∈ xU := x_mem 108 u3 rfl rfl
theorem mlX9_294 : x_MV RX9 294 1 fX1_learnMinute 1 := ⟨okX1_learnMinute, ⟨TX1, 7, rfl⟩, x_mem 130 u4 rfl rfl, x_mem 131 u4 rfl rfl, x_mem 132 u4 rfl rfl⟩
theorem mlX9_297 : x_MS RX9 297 fX1_minutesAt 1 := ⟨okX1_minutesAt, x_mem 143 u4 rfl rfl, x_mem 135 u4 rfl rfl⟩
theorem mlX9_300 : x_MV RX9 300 5 fX5_copy 1 := ⟨okX5_copy, ⟨TX5, 10, rfl⟩, x_mem 148 u4 rfl rfl, x_mem 171 u3 rfl rfl, x_mem 172 u3 rfl rfl⟩
theorem mlX9_306 : x_MV RX9 306 5 fX5_layBack 1 := ⟨okX5_layBack, ⟨TX5, 10, rfl⟩, x_mem 153 u4 rfl rfl, x_mem 154 u4 rfl rfl, x_mem 155 u4 rfl rfl⟩
theorem mlX9_327 : x_MS RX9 327 fX9_isKind 1 := ⟨okX9_isKind, x_mem 170 u4 rfl rfl, x_mem 171 u4 rfl rfl⟩
theorem mlX9_330 : x_MV RX9 330 8 fX8_isFull 0 := ⟨okX8_isFull, ⟨TX8, 5, rfl⟩, x_mem 173 u4 rfl rfl, x_mem 174 u4 rfl rfl, x_mem 175 u4 rfl rfl⟩
theorem mlX9_331 : x_MV RX9 331 8 fX8_addBody 1 := ⟨okX8_addBody, ⟨TX8, 5, rfl⟩, x_mem 177 u4 rfl rfl, x_mem 178 u4 rfl rfl, x_mem 179 u4 rfl rfl⟩
theorem mlX9_337 : x_MV RX9 337 8 fX8_has 1 := ⟨okX8_has, ⟨TX8, 5, rfl⟩, x_mem 186 u4 rfl rfl, x_mem 187 u4 rfl rfl, x_mem 188 u4 rfl rfl⟩
theorem mlX9_338 : x_MV RX9 338 8 fX8_perform 3 := ⟨okX8_perform, ⟨TX8, 5, rfl⟩, x_mem 190 u4 rfl rfl, x_mem 191 u4 rfl rfl, x_mem 192 u4 rfl rfl⟩
theorem mlX9_344 : x_MV RX9 344 6 fX6_holdNothing 0 := ⟨okX6_holdNothing, ⟨TX6, 5, rfl⟩, x_mem 228 u4 rfl rfl, x_mem 229 u4 rfl rfl, x_mem 230 u4 rfl rfl⟩
theorem mlX9_347 : x_MV RX9 347 6 fX6_holdTurn 1 := ⟨okX6_holdTurn, ⟨TX6, 5, rfl⟩, x_mem 232 u4 rfl rfl, x_mem 233 u4 rfl rfl, x_mem 234 u4 rfl rfl⟩
theorem mlX9_350 : x_MS RX9 350 fX6_isSort 1 := ⟨okX6_isSort, x_mem 0 u5 rfl rfl, x_mem 1 u5 rfl rfl⟩
theorem mlX9_353 : x_MV RX9 353 6 fX6_holdRow 2 := ⟨okX6_holdRow, ⟨TX6, 5, rfl⟩, x_mem 3 u5 rfl rfl, x_mem 4 u5 rfl rfl, x_mem 5 u5 rfl rfl⟩
theorem mlX9_356 : x_MV RX9 356 6 fX6_placeRefusal 1 := ⟨okX6_placeRefusal, ⟨TX6, 5, rfl⟩, x_mem 11 u5 rfl rfl, x_mem 12 u5 rfl rfl, x_mem 13 u5 rfl rfl⟩
theorem mlX9_359 : x_MV RX9 359 6 fX6_lay 2 := ⟨okX6_lay, ⟨TX6, 5, rfl⟩, x_mem 15 u5 rfl rfl, x_mem 16 u5 rfl rfl, x_mem 17 u5 rfl rfl⟩
theorem mlX9_366 : x_MV RX9 366 6 fX6_isRow 0 := ⟨okX6_isRow, ⟨TX6, 5, rfl⟩, x_mem 27 u5 rfl rfl, x_mem 141 u2 rfl rfl, x_mem 142 u2 rfl rfl⟩
theorem mlX9_372 : x_MV RX9 372 6 fX6_hasStretch 2 := ⟨okX6_hasStretch, ⟨TX6, 5, rfl⟩, x_mem 28 u5 rfl rfl, x_mem 29 u5 rfl rfl, x_mem 30 u5 rfl rfl⟩
theorem acX9_375 : Cond.methodLink RX9 375 arraycopyName ∈ xU := x_mem 32 u5 rfl rfl
theorem mlX9_381 : x_MV RX9 381 6 fX6_isTurn 0 := ⟨okX6_isTurn, ⟨TX6, 5, rfl⟩, x_mem 37 u5 rfl rfl, x_mem 38 u5 rfl rfl, x_mem 39 u5 rfl rfl⟩
theorem mlX9_390 : x_MS RX9 390 fX8_isUnder 2 := ⟨okX8_isUnder, x_mem 41 u5 rfl rfl, x_mem 42 u5 rfl rfl⟩
theorem mlX9_396 : x_MS RX9 396 fX9_rest 2 := ⟨okX9_rest, x_mem 125 u4 rfl rfl, x_mem 58 u3 rfl rfl⟩
theorem mlX9_400 : x_MS RX9 400 fX9_isPace 1 := ⟨okX9_isPace, x_mem 148 u2 rfl rfl, x_mem 149 u2 rfl rfl⟩
theorem mlX9_403 : x_MS RX9 403 fX9_hoopCanBecome 3 := ⟨okX9_hoopCanBecome, x_mem 163 u2 rfl rfl, x_mem 164 u2 rfl rfl⟩
theorem mlX9_407 : x_MV RX9 407 9 fX9_settingCanBecome 2 := ⟨okX9_settingCanBecome, ⟨TX9, 10, rfl⟩, x_mem 170 u2 rfl rfl, x_mem 172 u2 rfl rfl, x_mem 2 uS rfl rfl⟩
theorem mlX9_416 : x_MV RX9 416 2 fX2_become 2 := ⟨okX2_become, ⟨TX2, 5, rfl⟩, x_mem 199 u2 rfl rfl, x_mem 200 u2 rfl rfl, x_mem 201 u2 rfl rfl⟩
theorem obX0_1 : Cond.methodLink RX0 1 objectInit ∈ xU := x_mem 232 u1 rfl rfl
theorem mlX0_26 : x_MV RX0 26 0 fX0_forgetOldest 0 := ⟨okX0_forgetOldest, ⟨TX0, 6, rfl⟩, x_mem 208 u2 rfl rfl, x_mem 210 u2 rfl rfl, x_mem 6 uS rfl rfl⟩
theorem acX0_32 : Cond.methodLink RX0 32 arraycopyName ∈ xU := x_mem 212 u2 rfl rfl
theorem obX1_3 : Cond.methodLink RX1 3 objectInit ∈ xU := x_mem 197 u1 rfl rfl
theorem mmX1_32 : Cond.methodLink RX1 32 Lib.Math.max.name ∈ xU := x_mem 137 u4 rfl rfl
theorem mlX1_38 : x_MS RX1 38 fX1_minutesAt 1 := ⟨okX1_minutesAt, x_mem 134 u4 rfl rfl, x_mem 135 u4 rfl rfl⟩
theorem mlX1_42 : x_MV RX1 42 1 fX1_becomes 2 := ⟨okX1_becomes, ⟨TX1, 7, rfl⟩, x_mem 138 u4 rfl rfl, x_mem 67 u4 rfl rfl, x_mem 68 u4 rfl rfl⟩
theorem mlX1_49 : x_MV RX1 49 1 fX1_playMinute 1 := ⟨okX1_playMinute, ⟨TX1, 7, rfl⟩, x_mem 81 u4 rfl rfl, x_mem 83 u4 rfl rfl, x_mem 20 uS rfl rfl⟩
theorem mlX1_53 : x_MV RX1 53 1 fX1_draw 0 := ⟨okX1_draw, ⟨TX1, 7, rfl⟩, x_mem 85 u4 rfl rfl, x_mem 87 u4 rfl rfl, x_mem 21 uS rfl rfl⟩
theorem mlX1_57 : x_MV RX1 57 1 fX1_drop 3 := ⟨okX1_drop, ⟨TX1, 7, rfl⟩, x_mem 90 u4 rfl rfl, x_mem 92 u4 rfl rfl, x_mem 22 uS rfl rfl⟩
theorem mlX1_61 : x_MV RX1 61 1 fX1_knockFrom 2 := ⟨okX1_knockFrom, ⟨TX1, 7, rfl⟩, x_mem 94 u4 rfl rfl, x_mem 96 u4 rfl rfl, x_mem 23 uS rfl rfl⟩
theorem mlX1_64 : x_MS RX1 64 fX1_beside 2 := ⟨okX1_beside, x_mem 98 u4 rfl rfl, x_mem 99 u4 rfl rfl⟩
theorem obX2_3 : Cond.methodLink RX2 3 objectInit ∈ xU := x_mem 89 u1 rfl rfl
theorem mlX2_18 : x_MV RX2 18 2 fX2_copyWay 1 := ⟨okX2_copyWay, ⟨TX2, 5, rfl⟩, x_mem 178 u3 rfl rfl, x_mem 179 u3 rfl rfl, x_mem 180 u3 rfl rfl⟩
theorem mmX2_31 : Cond.methodLink RX2 31 Lib.Math.abs.name ∈ xU := x_mem 93 u3 rfl rfl
theorem mlX2_37 : x_MV RX2 37 2 fX2_need 0 := ⟨okX2_need, ⟨TX2, 5, rfl⟩, x_mem 186 u2 rfl rfl, x_mem 187 u2 rfl rfl, x_mem 188 u2 rfl rfl⟩
theorem mlX2_42 : x_MV RX2 42 2 fX2_lies 0 := ⟨okX2_lies, ⟨TX2, 5, rfl⟩, x_mem 203 u2 rfl rfl, x_mem 167 u2 rfl rfl, x_mem 168 u2 rfl rfl⟩
theorem mlX2_46 : x_MS RX2 46 fJ9_floorMod_7cf53 2 := ⟨okJ9_floorMod_7cf53, x_mem 80 u3 rfl rfl, x_mem 81 u3 rfl rfl⟩
theorem mmX2_50 : Cond.methodLink RX2 50 Lib.Math.min.name ∈ xU := x_mem 83 u3 rfl rfl
theorem mlX2_53 : x_MV RX2 53 2 fX2_speed 0 := ⟨okX2_speed, ⟨TX2, 5, rfl⟩, x_mem 123 u3 rfl rfl, x_mem 90 u3 rfl rfl, x_mem 91 u3 rfl rfl⟩
theorem mmX2_60 : Cond.methodLink RX2 60 Lib.Math.max.name ∈ xU := x_mem 144 u3 rfl rfl
theorem obX3_3 : Cond.methodLink RX3 3 objectInit ∈ xU := x_mem 28 u1 rfl rfl
theorem acX3_28 : Cond.methodLink RX3 28 arraycopyName ∈ xU := x_mem 44 u3 rfl rfl
theorem mlX3_34 : x_MV RX3 34 2 fX2_farFrom 1 := ⟨okX2_farFrom, ⟨TX2, 5, rfl⟩, x_mem 76 u3 rfl rfl, x_mem 77 u3 rfl rfl, x_mem 78 u3 rfl rfl⟩
theorem mlX3_40 : x_MS RX3 40 fX3_withoutText 2 := ⟨okX3_withoutText, x_mem 86 u3 rfl rfl, x_mem 87 u3 rfl rfl⟩
theorem mlX3_44 : x_MV RX3 44 2 fX2_speed 0 := ⟨okX2_speed, ⟨TX2, 5, rfl⟩, x_mem 89 u3 rfl rfl, x_mem 90 u3 rfl rfl, x_mem 91 u3 rfl rfl⟩
theorem mlX3_57 : x_MV RX3 57 3 fX3_worth 0 := ⟨okX3_worth, ⟨TX3, 6, rfl⟩, x_mem 96 u3 rfl rfl, x_mem 98 u3 rfl rfl, x_mem 15 uS rfl rfl⟩
theorem mlX3_67 : x_MV RX3 67 3 fX3_pile 1 := ⟨okX3_pile, ⟨TX3, 6, rfl⟩, x_mem 100 u3 rfl rfl, x_mem 102 u3 rfl rfl, x_mem 16 uS rfl rfl⟩
theorem mlX3_71 : x_MV RX3 71 3 fX3_unpile 0 := ⟨okX3_unpile, ⟨TX3, 6, rfl⟩, x_mem 111 u3 rfl rfl, x_mem 113 u3 rfl rfl, x_mem 17 uS rfl rfl⟩
theorem mmX3_74 : Cond.methodLink RX3 74 Lib.Math.max.name ∈ xU := x_mem 115 u3 rfl rfl
theorem mlX3_79 : x_MS RX3 79 fX3_joined 3 := ⟨okX3_joined, x_mem 116 u3 rfl rfl, x_mem 117 u3 rfl rfl⟩
theorem obX4_1 : Cond.methodLink RX4 1 objectInit ∈ xU := x_mem 56 u1 rfl rfl
theorem mlX4_15 : x_MI RX4 15 fX3_init 0 := ⟨okX3_init, x_mem 58 u1 rfl rfl, x_mem 26 u1 rfl rfl, rfl, rfl⟩
theorem mlX4_32 : x_MV RX4 32 4 fX4_readLine 0 := ⟨okX4_readLine, ⟨TX4, 5, rfl⟩, x_mem 238 u2 rfl rfl, x_mem 0 u3 rfl rfl, x_mem 7 uS rfl rfl⟩
theorem mlX4_35 : x_MV RX4 35 4 fX4_takes 1 := ⟨okX4_takes, ⟨TX4, 5, rfl⟩, x_mem 32 u3 rfl rfl, x_mem 34 u3 rfl rfl, x_mem 13 uS rfl rfl⟩
theorem mlX4_39 : x_MV RX4 39 4 fX4_readChain 2 := ⟨okX4_readChain, ⟨TX4, 5, rfl⟩, x_mem 2 u3 rfl rfl, x_mem 4 u3 rfl rfl, x_mem 8 uS rfl rfl⟩
theorem mlX4_43 : x_MV RX4 43 3 fX3_add 2 := ⟨okX3_add, ⟨TX3, 6, rfl⟩, x_mem 21 u3 rfl rfl, x_mem 22 u3 rfl rfl, x_mem 23 u3 rfl rfl⟩
theorem mlX4_50 : x_MV RX4 50 4 fX4_readOperand 1 := ⟨okX4_readOperand, ⟨TX4, 5, rfl⟩, x_mem 6 u3 rfl rfl, x_mem 8 u3 rfl rfl, x_mem 9 uS rfl rfl⟩
theorem mlX4_54 : x_MV RX4 54 4 fX4_isJoin 1 := ⟨okX4_isJoin, ⟨TX4, 5, rfl⟩, x_mem 36 u3 rfl rfl, x_mem 38 u3 rfl rfl, x_mem 14 uS rfl rfl⟩
theorem mlX4_57 : x_MV RX4 57 4 fX4_next 0 := ⟨okX4_next, ⟨TX4, 5, rfl⟩, x_mem 10 u3 rfl rfl, x_mem 12 u3 rfl rfl, x_mem 10 uS rfl rfl⟩
theorem mlX4_61 : x_MS RX4 61 fX4_isDigit 1 := ⟨okX4_isDigit, x_mem 14 u3 rfl rfl, x_mem 15 u3 rfl rfl⟩
theorem mlX4_64 : x_MV RX4 64 4 fX4_readNumber 0 := ⟨okX4_readNumber, ⟨TX4, 5, rfl⟩, x_mem 17 u3 rfl rfl, x_mem 19 u3 rfl rfl, x_mem 11 uS rfl rfl⟩
theorem mlX4_67 : x_MS RX4 67 fX4_nameOf 1 := ⟨okX4_nameOf, x_mem 25 u3 rfl rfl, x_mem 26 u3 rfl rfl⟩
theorem mlX4_71 : x_MV RX4 71 4 fX4_readOpened 2 := ⟨okX4_readOpened, ⟨TX4, 5, rfl⟩, x_mem 28 u3 rfl rfl, x_mem 30 u3 rfl rfl, x_mem 12 uS rfl rfl⟩
theorem obX5_3 : Cond.methodLink RX5 3 objectInit ∈ xU := x_mem 82 u1 rfl rfl
theorem mlX5_21 : x_MI RX5 21 fX2_init 0 := ⟨okX2_init, x_mem 86 u1 rfl rfl, x_mem 87 u1 rfl rfl, rfl, rfl⟩
theorem mlX5_38 : x_MV RX5 38 2 fX2_copy 1 := ⟨okX2_copy, ⟨TX2, 5, rfl⟩, x_mem 174 u3 rfl rfl, x_mem 175 u3 rfl rfl, x_mem 176 u3 rfl rfl⟩
theorem mlX5_51 : x_MV RX5 51 2 fX2_copyWay 1 := ⟨okX2_copyWay, ⟨TX2, 5, rfl⟩, x_mem 157 u4 rfl rfl, x_mem 179 u3 rfl rfl, x_mem 180 u3 rfl rfl⟩
theorem mlX5_54 : x_MV RX5 54 5 fX5_isFull 0 := ⟨okX5_isFull, ⟨TX5, 10, rfl⟩, x_mem 120 u2 rfl rfl, x_mem 113 u2 rfl rfl, x_mem 114 u2 rfl rfl⟩
theorem mlX5_64 : x_MV RX5 64 2 fX2_raise 0 := ⟨okX2_raise, ⟨TX2, 5, rfl⟩, x_mem 121 u2 rfl rfl, x_mem 122 u2 rfl rfl, x_mem 123 u2 rfl rfl⟩
theorem mlX5_70 : x_MV RX5 70 2 fX2_lies 0 := ⟨okX2_lies, ⟨TX2, 5, rfl⟩, x_mem 71 u3 rfl rfl, x_mem 167 u2 rfl rfl, x_mem 168 u2 rfl rfl⟩
theorem mlX5_76 : x_MV RX5 76 2 fX2_drop 0 := ⟨okX2_drop, ⟨TX2, 5, rfl⟩, x_mem 11 u4 rfl rfl, x_mem 12 u4 rfl rfl, x_mem 13 u4 rfl rfl⟩
theorem mlX5_87 : x_MV RX5 87 5 fX5_isPushDue 0 := ⟨okX5_isPushDue, ⟨TX5, 10, rfl⟩, x_mem 53 u3 rfl rfl, x_mem 54 u3 rfl rfl, x_mem 55 u3 rfl rfl⟩
theorem mlX5_90 : x_MV RX5 90 5 fX5_goalInTurn 0 := ⟨okX5_goalInTurn, ⟨TX5, 10, rfl⟩, x_mem 60 u3 rfl rfl, x_mem 61 u3 rfl rfl, x_mem 62 u3 rfl rfl⟩
theorem mlX5_94 : x_MV RX5 94 5 fX5_push 2 := ⟨okX5_push, ⟨TX5, 10, rfl⟩, x_mem 67 u3 rfl rfl, x_mem 68 u3 rfl rfl, x_mem 69 u3 rfl rfl⟩
theorem mlX5_98 : x_MV RX5 98 5 fX5_settle 0 := ⟨okX5_settle, ⟨TX5, 10, rfl⟩, x_mem 125 u3 rfl rfl, x_mem 126 u3 rfl rfl, x_mem 127 u3 rfl rfl⟩
theorem mlX5_101 : x_MV RX5 101 3 fX3_more 3 := ⟨okX3_more, ⟨TX3, 6, rfl⟩, x_mem 72 u3 rfl rfl, x_mem 73 u3 rfl rfl, x_mem 74 u3 rfl rfl⟩
theorem mlX5_107 : x_MV RX5 107 2 fX2_quicken 1 := ⟨okX2_quicken, ⟨TX2, 5, rfl⟩, x_mem 119 u3 rfl rfl, x_mem 120 u3 rfl rfl, x_mem 121 u3 rfl rfl⟩
theorem mlX5_111 : x_MV RX5 111 2 fX2_move 0 := ⟨okX2_move, ⟨TX2, 5, rfl⟩, x_mem 129 u3 rfl rfl, x_mem 130 u3 rfl rfl, x_mem 131 u3 rfl rfl⟩
theorem mlX5_114 : x_MV RX5 114 5 fX5_cross 0 := ⟨okX5_cross, ⟨TX5, 10, rfl⟩, x_mem 133 u3 rfl rfl, x_mem 135 u3 rfl rfl, x_mem 18 uS rfl rfl⟩
theorem mlX5_117 : x_MV RX5 117 2 fX2_sankToLie 0 := ⟨okX2_sankToLie, ⟨TX2, 5, rfl⟩, x_mem 140 u3 rfl rfl, x_mem 141 u3 rfl rfl, x_mem 142 u3 rfl rfl⟩
theorem mlX5_120 : x_MS RX5 120 fX5_areCrossed 2 := ⟨okX5_areCrossed, x_mem 137 u3 rfl rfl, x_mem 138 u3 rfl rfl⟩
theorem obX6_3 : Cond.methodLink RX6 3 objectInit ∈ xU := x_mem 50 u2 rfl rfl
theorem mlX6_19 : x_MV RX6 19 6 fX6_isRow 0 := ⟨okX6_isRow, ⟨TX6, 5, rfl⟩, x_mem 140 u2 rfl rfl, x_mem 141 u2 rfl rfl, x_mem 142 u2 rfl rfl⟩
theorem mlX6_32 : x_MV RX6 32 6 fX6_isEmpty 0 := ⟨okX6_isEmpty, ⟨TX6, 5, rfl⟩, x_mem 39 u4 rfl rfl, x_mem 133 u2 rfl rfl, x_mem 134 u2 rfl rfl⟩
theorem mlX6_35 : x_MV RX6 35 6 fX6_hasBytes 0 := ⟨okX6_hasBytes, ⟨TX6, 5, rfl⟩, x_mem 40 u4 rfl rfl, x_mem 137 u2 rfl rfl, x_mem 138 u2 rfl rfl⟩
theorem obX7_3 : Cond.methodLink RX7 3 objectInit ∈ xU := x_mem 165 u1 rfl rfl
theorem mlX7_18 : x_MV RX7 18 5 fX5_copy 1 := ⟨okX5_copy, ⟨TX5, 10, rfl⟩, x_mem 170 u3 rfl rfl, x_mem 171 u3 rfl rfl, x_mem 172 u3 rfl rfl⟩
theorem mlX7_43 : x_MV RX7 43 5 fX5_isPushDue 0 := ⟨okX5_isPushDue, ⟨TX5, 10, rfl⟩, x_mem 186 u3 rfl rfl, x_mem 54 u3 rfl rfl, x_mem 55 u3 rfl rfl⟩
theorem mlX7_50 : x_MV RX7 50 5 fX5_goalInTurn 0 := ⟨okX5_goalInTurn, ⟨TX5, 10, rfl⟩, x_mem 187 u3 rfl rfl, x_mem 61 u3 rfl rfl, x_mem 62 u3 rfl rfl⟩
theorem mlX7_54 : x_MV RX7 54 5 fX5_push 2 := ⟨okX5_push, ⟨TX5, 10, rfl⟩, x_mem 188 u3 rfl rfl, x_mem 68 u3 rfl rfl, x_mem 69 u3 rfl rfl⟩
theorem mlX7_58 : x_MV RX7 58 5 fX5_settle 0 := ⟨okX5_settle, ⟨TX5, 10, rfl⟩, x_mem 189 u3 rfl rfl, x_mem 126 u3 rfl rfl, x_mem 127 u3 rfl rfl⟩
theorem mlX7_61 : x_MV RX7 61 7 fX7_begin 0 := ⟨okX7_begin, ⟨TX7, 8, rfl⟩, x_mem 166 u3 rfl rfl, x_mem 167 u3 rfl rfl, x_mem 168 u3 rfl rfl⟩
theorem mlX7_64 : x_MV RX7 64 7 fX7_step 0 := ⟨okX7_step, ⟨TX7, 8, rfl⟩, x_mem 182 u3 rfl rfl, x_mem 184 u3 rfl rfl, x_mem 19 uS rfl rfl⟩
theorem mlX7_71 : x_MV RX7 71 2 fX2_lies 0 := ⟨okX2_lies, ⟨TX2, 5, rfl⟩, x_mem 199 u3 rfl rfl, x_mem 167 u2 rfl rfl, x_mem 168 u2 rfl rfl⟩
theorem mlX7_76 : x_MV RX7 76 5 fX5_upright 0 := ⟨okX5_upright, ⟨TX5, 10, rfl⟩, x_mem 208 u3 rfl rfl, x_mem 146 u3 rfl rfl, x_mem 147 u3 rfl rfl⟩
theorem mlX7_79 : x_MV RX7 79 5 fX5_allHighest 0 := ⟨okX5_allHighest, ⟨TX5, 10, rfl⟩, x_mem 229 u3 rfl rfl, x_mem 230 u3 rfl rfl, x_mem 231 u3 rfl rfl⟩
theorem mlX7_82 : x_MV RX7 82 6 fX6_gapAt 1 := ⟨okX6_gapAt, ⟨TX6, 5, rfl⟩, x_mem 45 u4 rfl rfl, x_mem 46 u4 rfl rfl, x_mem 47 u4 rfl rfl⟩
theorem obX8_3 : Cond.methodLink RX8 3 objectInit ∈ xU := x_mem 23 u2 rfl rfl
theorem mlX8_22 : x_MV RX8 22 8 fX8_isFull 0 := ⟨okX8_isFull, ⟨TX8, 5, rfl⟩, x_mem 181 u4 rfl rfl, x_mem 174 u4 rfl rfl, x_mem 175 u4 rfl rfl⟩
theorem mlX8_39 : x_MV RX8 39 8 fX8_own 3 := ⟨okX8_own, ⟨TX8, 5, rfl⟩, x_mem 194 u4 rfl rfl, x_mem 196 u4 rfl rfl, x_mem 24 uS rfl rfl⟩
theorem mlX8_43 : x_MV RX8 43 8 fX8_has 1 := ⟨okX8_has, ⟨TX8, 5, rfl⟩, x_mem 198 u4 rfl rfl, x_mem 187 u4 rfl rfl, x_mem 188 u4 rfl rfl⟩
theorem mlX8_46 : x_MV RX8 46 8 fX8_runFrom 4 := ⟨okX8_runFrom, ⟨TX8, 5, rfl⟩, x_mem 199 u4 rfl rfl, x_mem 201 u4 rfl rfl, x_mem 25 uS rfl rfl⟩
theorem mlX8_53 : x_MV RX8 53 8 fX8_run 4 := ⟨okX8_run, ⟨TX8, 5, rfl⟩, x_mem 206 u4 rfl rfl, x_mem 208 u4 rfl rfl, x_mem 26 uS rfl rfl⟩
theorem mlX8_56 : x_MV RX8 56 8 fX8_note 1 := ⟨okX8_note, ⟨TX8, 5, rfl⟩, x_mem 210 u4 rfl rfl, x_mem 212 u4 rfl rfl, x_mem 27 uS rfl rfl⟩
theorem mlX8_60 : x_MV RX8 60 8 fX8_above 4 := ⟨okX8_above, ⟨TX8, 5, rfl⟩, x_mem 214 u4 rfl rfl, x_mem 216 u4 rfl rfl, x_mem 28 uS rfl rfl⟩
theorem mlL_9 : x_MI RL 9 fX9_init 0 := ⟨okX9_init, x_mem 17 u1 rfl rfl, x_mem 18 u1 rfl rfl, rfl, rfl⟩
theorem mlL_12 : x_MI RL 12 fX10_init 0 := ⟨okX10_init, x_mem 50 u5 rfl rfl, x_mem 51 u5 rfl rfl, rfl, rfl⟩
theorem mlL_13 : x_MV RL 13 9 fX9_hoop 1 := ⟨okX9_hoop, ⟨TX9, 10, rfl⟩, x_mem 105 u2 rfl rfl, x_mem 106 u2 rfl rfl, x_mem 107 u2 rfl rfl⟩
theorem mlL_17 : x_MV RL 17 10 fX10_hoop 1 := ⟨okX10_hoop, ⟨TX10, 46, rfl⟩, x_mem 210 u5 rfl rfl, x_mem 211 u5 rfl rfl, x_mem 212 u5 rfl rfl⟩
theorem mlL_18 : x_MV RL 18 9 fX9_hoops 3 := ⟨okX9_hoops, ⟨TX9, 10, rfl⟩, x_mem 125 u2 rfl rfl, x_mem 126 u2 rfl rfl, x_mem 127 u2 rfl rfl⟩
theorem mlL_22 : x_MV RL 22 10 fX10_hoops 3 := ⟨okX10_hoops, ⟨TX10, 46, rfl⟩, x_mem 224 u5 rfl rfl, x_mem 225 u5 rfl rfl, x_mem 226 u5 rfl rfl⟩
theorem mlL_23 : x_MV RL 23 9 fX9_mend 3 := ⟨okX9_mend, ⟨TX9, 10, rfl⟩, x_mem 151 u2 rfl rfl, x_mem 152 u2 rfl rfl, x_mem 153 u2 rfl rfl⟩
theorem mlL_26 : x_MV RL 26 10 fX10_mend 3 := ⟨okX10_mend, ⟨TX10, 46, rfl⟩, x_mem 232 u5 rfl rfl, x_mem 233 u5 rfl rfl, x_mem 234 u5 rfl rfl⟩
theorem mlL_27 : x_MV RL 27 9 fX9_of 2 := ⟨okX9_of, ⟨TX9, 10, rfl⟩, x_mem 215 u2 rfl rfl, x_mem 216 u2 rfl rfl, x_mem 217 u2 rfl rfl⟩
theorem mlL_31 : x_MV RL 31 10 fX10_of 2 := ⟨okX10_of, ⟨TX10, 46, rfl⟩, x_mem 8 u6 rfl rfl, x_mem 9 u6 rfl rfl, x_mem 10 u6 rfl rfl⟩
theorem mlL_32 : x_MV RL 32 9 fX9_feed 1 := ⟨okX9_feed, ⟨TX9, 10, rfl⟩, x_mem 222 u2 rfl rfl, x_mem 223 u2 rfl rfl, x_mem 224 u2 rfl rfl⟩
theorem mlL_35 : x_MV RL 35 10 fX10_feed 1 := ⟨okX10_feed, ⟨TX10, 46, rfl⟩, x_mem 20 u6 rfl rfl, x_mem 21 u6 rfl rfl, x_mem 22 u6 rfl rfl⟩
theorem mlL_36 : x_MV RL 36 9 fX9_law 0 := ⟨okX9_law, ⟨TX9, 10, rfl⟩, x_mem 230 u2 rfl rfl, x_mem 231 u2 rfl rfl, x_mem 232 u2 rfl rfl⟩
theorem mlL_40 : x_MV RL 40 10 fX10_law 0 := ⟨okX10_law, ⟨TX10, 46, rfl⟩, x_mem 25 u6 rfl rfl, x_mem 26 u6 rfl rfl, x_mem 27 u6 rfl rfl⟩
theorem mlL_41 : x_MV RL 41 9 fX9_go 1 := ⟨okX9_go, ⟨TX9, 10, rfl⟩, x_mem 45 u3 rfl rfl, x_mem 46 u3 rfl rfl, x_mem 47 u3 rfl rfl⟩
theorem mlL_44 : x_MV RL 44 10 fX10_go 1 := ⟨okX10_go, ⟨TX10, 46, rfl⟩, x_mem 72 u6 rfl rfl, x_mem 73 u6 rfl rfl, x_mem 74 u6 rfl rfl⟩
theorem mlL_45 : x_MV RL 45 9 fX9_lift 1 := ⟨okX9_lift, ⟨TX9, 10, rfl⟩, x_mem 149 u3 rfl rfl, x_mem 150 u3 rfl rfl, x_mem 151 u3 rfl rfl⟩
theorem mlL_48 : x_MV RL 48 10 fX10_lift 1 := ⟨okX10_lift, ⟨TX10, 46, rfl⟩, x_mem 126 u6 rfl rfl, x_mem 127 u6 rfl rfl, x_mem 128 u6 rfl rfl⟩
theorem mlL_49 : x_MV RL 49 9 fX9_led 1 := ⟨okX9_led, ⟨TX9, 10, rfl⟩, x_mem 154 u3 rfl rfl, x_mem 155 u3 rfl rfl, x_mem 156 u3 rfl rfl⟩
theorem mlL_52 : x_MV RL 52 10 fX10_led 1 := ⟨okX10_led, ⟨TX10, 46, rfl⟩, x_mem 130 u6 rfl rfl, x_mem 131 u6 rfl rfl, x_mem 132 u6 rfl rfl⟩
theorem mlL_53 : x_MV RL 53 9 fX9_then 3 := ⟨okX9_then, ⟨TX9, 10, rfl⟩, x_mem 158 u3 rfl rfl, x_mem 159 u3 rfl rfl, x_mem 160 u3 rfl rfl⟩
theorem mlL_56 : x_MV RL 56 10 fX10_then 3 := ⟨okX10_then, ⟨TX10, 46, rfl⟩, x_mem 134 u6 rfl rfl, x_mem 135 u6 rfl rfl, x_mem 136 u6 rfl rfl⟩
theorem mlL_57 : x_MV RL 57 9 fX9_falls 1 := ⟨okX9_falls, ⟨TX9, 10, rfl⟩, x_mem 190 u3 rfl rfl, x_mem 191 u3 rfl rfl, x_mem 192 u3 rfl rfl⟩
theorem mlL_60 : x_MV RL 60 10 fX10_falls 1 := ⟨okX10_falls, ⟨TX10, 46, rfl⟩, x_mem 138 u6 rfl rfl, x_mem 139 u6 rfl rfl, x_mem 140 u6 rfl rfl⟩
theorem mlL_61 : x_MV RL 61 9 fX9_lasts 0 := ⟨okX9_lasts, ⟨TX9, 10, rfl⟩, x_mem 200 u3 rfl rfl, x_mem 201 u3 rfl rfl, x_mem 202 u3 rfl rfl⟩
theorem mlL_64 : x_MV RL 64 10 fX10_lasts 0 := ⟨okX10_lasts, ⟨TX10, 46, rfl⟩, x_mem 146 u6 rfl rfl, x_mem 147 u6 rfl rfl, x_mem 148 u6 rfl rfl⟩
theorem mlL_65 : x_MV RL 65 9 fX9_beatFor 1 := ⟨okX9_beatFor, ⟨TX9, 10, rfl⟩, x_mem 209 u3 rfl rfl, x_mem 210 u3 rfl rfl, x_mem 211 u3 rfl rfl⟩
theorem mlL_68 : x_MV RL 68 10 fX10_beatFor 1 := ⟨okX10_beatFor, ⟨TX10, 46, rfl⟩, x_mem 154 u6 rfl rfl, x_mem 155 u6 rfl rfl, x_mem 156 u6 rfl rfl⟩
theorem mlL_69 : x_MV RL 69 9 fX9_leastPush 1 := ⟨okX9_leastPush, ⟨TX9, 10, rfl⟩, x_mem 213 u3 rfl rfl, x_mem 214 u3 rfl rfl, x_mem 215 u3 rfl rfl⟩
theorem mlL_72 : x_MV RL 72 10 fX10_leastPush 1 := ⟨okX10_leastPush, ⟨TX10, 46, rfl⟩, x_mem 159 u6 rfl rfl, x_mem 160 u6 rfl rfl, x_mem 161 u6 rfl rfl⟩
theorem mlL_73 : x_MV RL 73 9 fX9_mistake 2 := ⟨okX9_mistake, ⟨TX9, 10, rfl⟩, x_mem 217 u3 rfl rfl, x_mem 218 u3 rfl rfl, x_mem 219 u3 rfl rfl⟩
theorem mlL_76 : x_MV RL 76 10 fX10_mistake 2 := ⟨okX10_mistake, ⟨TX10, 46, rfl⟩, x_mem 163 u6 rfl rfl, x_mem 164 u6 rfl rfl, x_mem 165 u6 rfl rfl⟩
theorem mlL_77 : x_MV RL 77 9 fX9_held 1 := ⟨okX9_held, ⟨TX9, 10, rfl⟩, x_mem 233 u3 rfl rfl, x_mem 234 u3 rfl rfl, x_mem 235 u3 rfl rfl⟩
theorem mlL_80 : x_MV RL 80 10 fX10_held 1 := ⟨okX10_held, ⟨TX10, 46, rfl⟩, x_mem 172 u6 rfl rfl, x_mem 173 u6 rfl rfl, x_mem 174 u6 rfl rfl⟩
theorem mlL_81 : x_MV RL 81 9 fX9_rescue 2 := ⟨okX9_rescue, ⟨TX9, 10, rfl⟩, x_mem 15 u4 rfl rfl, x_mem 16 u4 rfl rfl, x_mem 17 u4 rfl rfl⟩
theorem mlL_84 : x_MV RL 84 10 fX10_rescue 2 := ⟨okX10_rescue, ⟨TX10, 46, rfl⟩, x_mem 176 u6 rfl rfl, x_mem 177 u6 rfl rfl, x_mem 178 u6 rfl rfl⟩
theorem mlL_85 : x_MV RL 85 9 fX9_start 1 := ⟨okX9_start, ⟨TX9, 10, rfl⟩, x_mem 27 u4 rfl rfl, x_mem 28 u4 rfl rfl, x_mem 29 u4 rfl rfl⟩
theorem mlL_88 : x_MV RL 88 10 fX10_start 1 := ⟨okX10_start, ⟨TX10, 46, rfl⟩, x_mem 184 u6 rfl rfl, x_mem 185 u6 rfl rfl, x_mem 186 u6 rfl rfl⟩
theorem mlL_89 : x_MV RL 89 9 fX9_music 1 := ⟨okX9_music, ⟨TX9, 10, rfl⟩, x_mem 31 u4 rfl rfl, x_mem 32 u4 rfl rfl, x_mem 33 u4 rfl rfl⟩
theorem mlL_92 : x_MV RL 92 10 fX10_music 1 := ⟨okX10_music, ⟨TX10, 46, rfl⟩, x_mem 188 u6 rfl rfl, x_mem 189 u6 rfl rfl, x_mem 190 u6 rfl rfl⟩
theorem mlL_93 : x_MV RL 93 9 fX9_judge 2 := ⟨okX9_judge, ⟨TX9, 10, rfl⟩, x_mem 50 u4 rfl rfl, x_mem 51 u4 rfl rfl, x_mem 52 u4 rfl rfl⟩
theorem mlL_96 : x_MV RL 96 10 fX10_judge 2 := ⟨okX10_judge, ⟨TX10, 46, rfl⟩, x_mem 197 u6 rfl rfl, x_mem 198 u6 rfl rfl, x_mem 199 u6 rfl rfl⟩
theorem mlL_97 : x_MV RL 97 9 fX9_begun 3 := ⟨okX9_begun, ⟨TX9, 10, rfl⟩, x_mem 58 u4 rfl rfl, x_mem 59 u4 rfl rfl, x_mem 60 u4 rfl rfl⟩
theorem mlL_100 : x_MV RL 100 10 fX10_begun 3 := ⟨okX10_begun, ⟨TX10, 46, rfl⟩, x_mem 205 u6 rfl rfl, x_mem 206 u6 rfl rfl, x_mem 207 u6 rfl rfl⟩
theorem mlL_101 : x_MV RL 101 9 fX9_skill 2 := ⟨okX9_skill, ⟨TX9, 10, rfl⟩, x_mem 62 u4 rfl rfl, x_mem 63 u4 rfl rfl, x_mem 64 u4 rfl rfl⟩
theorem mlL_104 : x_MV RL 104 10 fX10_skill 2 := ⟨okX10_skill, ⟨TX10, 46, rfl⟩, x_mem 209 u6 rfl rfl, x_mem 210 u6 rfl rfl, x_mem 211 u6 rfl rfl⟩
theorem mlL_105 : x_MV RL 105 9 fX9_left 3 := ⟨okX9_left, ⟨TX9, 10, rfl⟩, x_mem 70 u4 rfl rfl, x_mem 71 u4 rfl rfl, x_mem 72 u4 rfl rfl⟩
theorem mlL_108 : x_MV RL 108 10 fX10_left 3 := ⟨okX10_left, ⟨TX10, 46, rfl⟩, x_mem 217 u6 rfl rfl, x_mem 218 u6 rfl rfl, x_mem 219 u6 rfl rfl⟩
theorem mlL_109 : x_MV RL 109 9 fX9_knocked 3 := ⟨okX9_knocked, ⟨TX9, 10, rfl⟩, x_mem 105 u4 rfl rfl, x_mem 106 u4 rfl rfl, x_mem 107 u4 rfl rfl⟩
theorem mlL_112 : x_MV RL 112 10 fX10_knocked 3 := ⟨okX10_knocked, ⟨TX10, 46, rfl⟩, x_mem 238 u6 rfl rfl, x_mem 239 u6 rfl rfl, x_mem 0 u7 rfl rfl⟩
theorem mlL_113 : x_MV RL 113 9 fX9_last 2 := ⟨okX9_last, ⟨TX9, 10, rfl⟩, x_mem 109 u4 rfl rfl, x_mem 110 u4 rfl rfl, x_mem 111 u4 rfl rfl⟩
theorem mlL_116 : x_MV RL 116 10 fX10_last 2 := ⟨okX10_last, ⟨TX10, 46, rfl⟩, x_mem 2 u7 rfl rfl, x_mem 3 u7 rfl rfl, x_mem 4 u7 rfl rfl⟩
theorem mlL_117 : x_MV RL 117 9 fX9_alone 3 := ⟨okX9_alone, ⟨TX9, 10, rfl⟩, x_mem 117 u4 rfl rfl, x_mem 118 u4 rfl rfl, x_mem 119 u4 rfl rfl⟩
theorem mlL_121 : x_MV RL 121 10 fX10_alone 3 := ⟨okX10_alone, ⟨TX10, 46, rfl⟩, x_mem 6 u7 rfl rfl, x_mem 7 u7 rfl rfl, x_mem 8 u7 rfl rfl⟩
theorem mlL_122 : x_MV RL 122 9 fX9_learn 2 := ⟨okX9_learn, ⟨TX9, 10, rfl⟩, x_mem 126 u4 rfl rfl, x_mem 127 u4 rfl rfl, x_mem 128 u4 rfl rfl⟩
theorem mlL_125 : x_MV RL 125 10 fX10_learn 2 := ⟨okX10_learn, ⟨TX10, 46, rfl⟩, x_mem 12 u7 rfl rfl, x_mem 13 u7 rfl rfl, x_mem 14 u7 rfl rfl⟩
theorem mlL_126 : x_MV RL 126 9 fX9_till 2 := ⟨okX9_till, ⟨TX9, 10, rfl⟩, x_mem 139 u4 rfl rfl, x_mem 140 u4 rfl rfl, x_mem 141 u4 rfl rfl⟩
theorem mlL_129 : x_MV RL 129 10 fX10_till 2 := ⟨okX10_till, ⟨TX10, 46, rfl⟩, x_mem 20 u7 rfl rfl, x_mem 21 u7 rfl rfl, x_mem 22 u7 rfl rfl⟩
theorem mlL_130 : x_MV RL 130 9 fX9_image 0 := ⟨okX9_image, ⟨TX9, 10, rfl⟩, x_mem 144 u4 rfl rfl, x_mem 145 u4 rfl rfl, x_mem 146 u4 rfl rfl⟩
theorem mlL_133 : x_MV RL 133 10 fX10_image 0 := ⟨okX10_image, ⟨TX10, 46, rfl⟩, x_mem 24 u7 rfl rfl, x_mem 25 u7 rfl rfl, x_mem 26 u7 rfl rfl⟩
theorem mlL_134 : x_MV RL 134 9 fX9_back 0 := ⟨okX9_back, ⟨TX9, 10, rfl⟩, x_mem 149 u4 rfl rfl, x_mem 150 u4 rfl rfl, x_mem 151 u4 rfl rfl⟩
theorem mlL_137 : x_MV RL 137 10 fX10_back 0 := ⟨okX10_back, ⟨TX10, 46, rfl⟩, x_mem 28 u7 rfl rfl, x_mem 29 u7 rfl rfl, x_mem 30 u7 rfl rfl⟩
theorem mlL_138 : x_MV RL 138 9 fX9_undo 0 := ⟨okX9_undo, ⟨TX9, 10, rfl⟩, x_mem 158 u4 rfl rfl, x_mem 159 u4 rfl rfl, x_mem 160 u4 rfl rfl⟩
theorem mlL_141 : x_MV RL 141 10 fX10_undo 0 := ⟨okX10_undo, ⟨TX10, 46, rfl⟩, x_mem 193 u5 rfl rfl, x_mem 194 u5 rfl rfl, x_mem 195 u5 rfl rfl⟩
theorem mlL_142 : x_MV RL 142 9 fX9_redo 0 := ⟨okX9_redo, ⟨TX9, 10, rfl⟩, x_mem 162 u4 rfl rfl, x_mem 163 u4 rfl rfl, x_mem 164 u4 rfl rfl⟩
theorem mlL_145 : x_MV RL 145 10 fX10_redo 0 := ⟨okX10_redo, ⟨TX10, 46, rfl⟩, x_mem 206 u5 rfl rfl, x_mem 207 u5 rfl rfl, x_mem 208 u5 rfl rfl⟩
theorem mlL_146 : x_MV RL 146 9 fX9_body 1 := ⟨okX9_body, ⟨TX9, 10, rfl⟩, x_mem 166 u4 rfl rfl, x_mem 167 u4 rfl rfl, x_mem 168 u4 rfl rfl⟩
theorem mlL_149 : x_MV RL 149 10 fX10_body 1 := ⟨okX10_body, ⟨TX10, 46, rfl⟩, x_mem 32 u7 rfl rfl, x_mem 33 u7 rfl rfl, x_mem 34 u7 rfl rfl⟩
theorem mlL_150 : x_MV RL 150 9 fX9_act 3 := ⟨okX9_act, ⟨TX9, 10, rfl⟩, x_mem 182 u4 rfl rfl, x_mem 183 u4 rfl rfl, x_mem 184 u4 rfl rfl⟩
theorem mlL_153 : x_MV RL 153 10 fX10_act 3 := ⟨okX10_act, ⟨TX10, 46, rfl⟩, x_mem 36 u7 rfl rfl, x_mem 37 u7 rfl rfl, x_mem 38 u7 rfl rfl⟩
theorem mlL_154 : x_MV RL 154 9 fX9_trace 1 := ⟨okX9_trace, ⟨TX9, 10, rfl⟩, x_mem 220 u4 rfl rfl, x_mem 221 u4 rfl rfl, x_mem 222 u4 rfl rfl⟩
theorem mlL_157 : x_MV RL 157 10 fX10_trace 1 := ⟨okX10_trace, ⟨TX10, 46, rfl⟩, x_mem 64 u7 rfl rfl, x_mem 65 u7 rfl rfl, x_mem 66 u7 rfl rfl⟩
theorem mlL_158 : x_MV RL 158 9 fX9_keep 2 := ⟨okX9_keep, ⟨TX9, 10, rfl⟩, x_mem 224 u4 rfl rfl, x_mem 225 u4 rfl rfl, x_mem 226 u4 rfl rfl⟩
theorem mlL_161 : x_MV RL 161 10 fX10_keep 2 := ⟨okX10_keep, ⟨TX10, 46, rfl⟩, x_mem 68 u7 rfl rfl, x_mem 69 u7 rfl rfl, x_mem 70 u7 rfl rfl⟩
theorem mlL_162 : x_MV RL 162 9 fX9_row 3 := ⟨okX9_row, ⟨TX9, 10, rfl⟩, x_mem 236 u4 rfl rfl, x_mem 237 u4 rfl rfl, x_mem 238 u4 rfl rfl⟩
theorem mlL_165 : x_MV RL 165 10 fX10_row 3 := ⟨okX10_row, ⟨TX10, 46, rfl⟩, x_mem 72 u7 rfl rfl, x_mem 73 u7 rfl rfl, x_mem 74 u7 rfl rfl⟩
theorem mlL_168 : x_MV RL 168 9 fX9_put 3 := ⟨okX9_put, ⟨TX9, 10, rfl⟩, x_mem 7 u5 rfl rfl, x_mem 8 u5 rfl rfl, x_mem 9 u5 rfl rfl⟩
theorem mlL_172 : x_MV RL 172 10 fX10_put 3 := ⟨okX10_put, ⟨TX10, 46, rfl⟩, x_mem 76 u7 rfl rfl, x_mem 77 u7 rfl rfl, x_mem 78 u7 rfl rfl⟩
theorem mlL_173 : x_MV RL 173 9 fX9_element 2 := ⟨okX9_element, ⟨TX9, 10, rfl⟩, x_mem 19 u5 rfl rfl, x_mem 20 u5 rfl rfl, x_mem 21 u5 rfl rfl⟩
theorem mlL_177 : x_MV RL 177 10 fX10_element 2 := ⟨okX10_element, ⟨TX10, 46, rfl⟩, x_mem 87 u7 rfl rfl, x_mem 88 u7 rfl rfl, x_mem 89 u7 rfl rfl⟩
theorem mlL_178 : x_MV RL 178 9 fX9_shift 5 := ⟨okX9_shift, ⟨TX9, 10, rfl⟩, x_mem 23 u5 rfl rfl, x_mem 24 u5 rfl rfl, x_mem 25 u5 rfl rfl⟩
theorem mlL_182 : x_MV RL 182 10 fX10_shift 5 := ⟨okX10_shift, ⟨TX10, 46, rfl⟩, x_mem 91 u7 rfl rfl, x_mem 92 u7 rfl rfl, x_mem 93 u7 rfl rfl⟩
theorem mlL_183 : x_MV RL 183 9 fX9_taken 2 := ⟨okX9_taken, ⟨TX9, 10, rfl⟩, x_mem 33 u5 rfl rfl, x_mem 34 u5 rfl rfl, x_mem 35 u5 rfl rfl⟩
theorem mlL_186 : x_MV RL 186 10 fX10_taken 2 := ⟨okX10_taken, ⟨TX10, 46, rfl⟩, x_mem 95 u7 rfl rfl, x_mem 96 u7 rfl rfl, x_mem 97 u7 rfl rfl⟩
theorem mlL_187 : x_MV RL 187 9 fX9_count 1 := ⟨okX9_count, ⟨TX9, 10, rfl⟩, x_mem 44 u5 rfl rfl, x_mem 45 u5 rfl rfl, x_mem 46 u5 rfl rfl⟩
theorem mlL_190 : x_MV RL 190 10 fX10_count 1 := ⟨okX10_count, ⟨TX10, 46, rfl⟩, x_mem 106 u7 rfl rfl, x_mem 107 u7 rfl rfl, x_mem 108 u7 rfl rfl⟩
theorem obX10_3 : Cond.methodLink RX10 3 objectInit ∈ xU := x_mem 53 u5 rfl rfl
theorem mlX10_101 : x_MS RX10 101 fX10_within 3 := ⟨okX10_within, x_mem 203 u5 rfl rfl, x_mem 204 u5 rfl rfl⟩
theorem mlX10_105 : x_MV RX10 105 10 fX10_lays 2 := ⟨okX10_lays, ⟨TX10, 46, rfl⟩, x_mem 197 u5 rfl rfl, x_mem 199 u5 rfl rfl, x_mem 29 uS rfl rfl⟩
theorem mlX10_118 : x_MS RX10 118 fX10_isOne 3 := ⟨okX10_isOne, x_mem 215 u5 rfl rfl, x_mem 216 u5 rfl rfl⟩
theorem mlX10_121 : x_MV RX10 121 10 fX10_adds 3 := ⟨okX10_adds, ⟨TX10, 46, rfl⟩, x_mem 220 u5 rfl rfl, x_mem 222 u5 rfl rfl, x_mem 30 uS rfl rfl⟩
theorem mlX10_125 : x_MS RX10 125 fX10_isShelf 1 := ⟨okX10_isShelf, x_mem 228 u5 rfl rfl, x_mem 229 u5 rfl rfl⟩
theorem mlX10_133 : x_MV RX10 133 10 fX10_isHoop 1 := ⟨okX10_isHoop, ⟨TX10, 46, rfl⟩, x_mem 237 u5 rfl rfl, x_mem 239 u5 rfl rfl, x_mem 31 uS rfl rfl⟩
theorem mlX10_136 : x_MV RX10 136 10 fX10_becomes 2 := ⟨okX10_becomes, ⟨TX10, 46, rfl⟩, x_mem 1 u6 rfl rfl, x_mem 3 u6 rfl rfl, x_mem 32 uS rfl rfl⟩
theorem mlX10_145 : x_MV RX10 145 10 fX10_needOf 1 := ⟨okX10_needOf, ⟨TX10, 46, rfl⟩, x_mem 12 u6 rfl rfl, x_mem 14 u6 rfl rfl, x_mem 33 uS rfl rfl⟩
theorem mlX10_177 : x_MV RX10 177 10 fX10_byteAt 0 := ⟨okX10_byteAt, ⟨TX10, 46, rfl⟩, x_mem 57 u6 rfl rfl, x_mem 59 u6 rfl rfl, x_mem 41 uS rfl rfl⟩
theorem mlX10_181 : x_MV RX10 181 10 fX10_both 0 := ⟨okX10_both, ⟨TX10, 46, rfl⟩, x_mem 37 u6 rfl rfl, x_mem 39 u6 rfl rfl, x_mem 36 uS rfl rfl⟩
theorem mlX10_184 : x_MV RX10 184 10 fX10_takes 1 := ⟨okX10_takes, ⟨TX10, 46, rfl⟩, x_mem 65 u6 rfl rfl, x_mem 67 u6 rfl rfl, x_mem 43 uS rfl rfl⟩
theorem mlX10_187 : x_MV RX10 187 10 fX10_compared 0 := ⟨okX10_compared, ⟨TX10, 46, rfl⟩, x_mem 41 u6 rfl rfl, x_mem 43 u6 rfl rfl, x_mem 37 uS rfl rfl⟩
theorem mlX10_190 : x_MV RX10 190 10 fX10_sums 0 := ⟨okX10_sums, ⟨TX10, 46, rfl⟩, x_mem 45 u6 rfl rfl, x_mem 47 u6 rfl rfl, x_mem 38 uS rfl rfl⟩
theorem mlX10_193 : x_MV RX10 193 10 fX10_product 0 := ⟨okX10_product, ⟨TX10, 46, rfl⟩, x_mem 49 u6 rfl rfl, x_mem 51 u6 rfl rfl, x_mem 39 uS rfl rfl⟩
theorem mlX10_196 : x_MV RX10 196 10 fX10_one 0 := ⟨okX10_one, ⟨TX10, 46, rfl⟩, x_mem 53 u6 rfl rfl, x_mem 55 u6 rfl rfl, x_mem 40 uS rfl rfl⟩
theorem mlX10_202 : x_MV RX10 202 10 fX10_wrong 0 := ⟨okX10_wrong, ⟨TX10, 46, rfl⟩, x_mem 61 u6 rfl rfl, x_mem 63 u6 rfl rfl, x_mem 42 uS rfl rfl⟩
theorem mlX10_205 : x_MV RX10 205 10 fX10_either 0 := ⟨okX10_either, ⟨TX10, 46, rfl⟩, x_mem 33 u6 rfl rfl, x_mem 35 u6 rfl rfl, x_mem 35 uS rfl rfl⟩
theorem mlX10_208 : x_MS RX10 208 fX10_nameOf 1 := ⟨okX10_nameOf, x_mem 69 u6 rfl rfl, x_mem 70 u6 rfl rfl⟩
theorem mlX10_211 : x_MV RX10 211 10 fX10_workOut 2 := ⟨okX10_workOut, ⟨TX10, 46, rfl⟩, x_mem 29 u6 rfl rfl, x_mem 31 u6 rfl rfl, x_mem 34 uS rfl rfl⟩
theorem mlX10_214 : x_MS RX10 214 fX10_isIn 2 := ⟨okX10_isIn, x_mem 85 u6 rfl rfl, x_mem 86 u6 rfl rfl⟩
theorem mlX10_218 : x_MS RX10 218 fX10_sizeOf 1 := ⟨okX10_sizeOf, x_mem 108 u6 rfl rfl, x_mem 109 u6 rfl rfl⟩
theorem mlX10_221 : x_MV RX10 221 10 fX10_gained 3 := ⟨okX10_gained, ⟨TX10, 46, rfl⟩, x_mem 111 u6 rfl rfl, x_mem 113 u6 rfl rfl, x_mem 51 uS rfl rfl⟩
theorem mlX10_225 : x_MV RX10 225 10 fX10_becomesPace 2 := ⟨okX10_becomesPace, ⟨TX10, 46, rfl⟩, x_mem 115 u6 rfl rfl, x_mem 117 u6 rfl rfl, x_mem 52 uS rfl rfl⟩
theorem mlX10_228 : x_MV RX10 228 10 fX10_isPush 1 := ⟨okX10_isPush, ⟨TX10, 46, rfl⟩, x_mem 96 u6 rfl rfl, x_mem 98 u6 rfl rfl, x_mem 48 uS rfl rfl⟩
theorem mlX10_231 : x_MV RX10 231 10 fX10_toOf 1 := ⟨okX10_toOf, ⟨TX10, 46, rfl⟩, x_mem 100 u6 rfl rfl, x_mem 102 u6 rfl rfl, x_mem 49 uS rfl rfl⟩
theorem mlX10_234 : x_MV RX10 234 10 fX10_pushes 2 := ⟨okX10_pushes, ⟨TX10, 46, rfl⟩, x_mem 104 u6 rfl rfl, x_mem 106 u6 rfl rfl, x_mem 50 uS rfl rfl⟩
theorem mlX10_240 : x_MV RX10 240 10 fX10_turns 1 := ⟨okX10_turns, ⟨TX10, 46, rfl⟩, x_mem 119 u6 rfl rfl, x_mem 121 u6 rfl rfl, x_mem 53 uS rfl rfl⟩
theorem mlX10_246 : x_MV RX10 246 10 fX10_upNow 0 := ⟨okX10_upNow, ⟨TX10, 46, rfl⟩, x_mem 77 u6 rfl rfl, x_mem 79 u6 rfl rfl, x_mem 44 uS rfl rfl⟩
theorem mlX10_249 : x_MV RX10 249 10 fX10_begins1 1 := ⟨okX10_begins1, ⟨TX10, 46, rfl⟩, x_mem 81 u6 rfl rfl, x_mem 83 u6 rfl rfl, x_mem 45 uS rfl rfl⟩
theorem mlX10_252 : x_MV RX10 252 10 fX10_lyingOf 1 := ⟨okX10_lyingOf, ⟨TX10, 46, rfl⟩, x_mem 88 u6 rfl rfl, x_mem 90 u6 rfl rfl, x_mem 46 uS rfl rfl⟩
theorem mlX10_255 : x_MV RX10 255 10 fX10_tickGoes 1 := ⟨okX10_tickGoes, ⟨TX10, 46, rfl⟩, x_mem 92 u6 rfl rfl, x_mem 94 u6 rfl rfl, x_mem 47 uS rfl rfl⟩
theorem mlX10_261 : x_MS RX10 261 fX10_bitsOf 1 := ⟨okX10_bitsOf, x_mem 123 u6 rfl rfl, x_mem 124 u6 rfl rfl⟩
theorem mlX10_264 : x_MV RX10 264 10 fX10_fallOf 1 := ⟨okX10_fallOf, ⟨TX10, 46, rfl⟩, x_mem 142 u6 rfl rfl, x_mem 144 u6 rfl rfl, x_mem 54 uS rfl rfl⟩
theorem mlX10_267 : x_MV RX10 267 10 fX10_lastsOf 1 := ⟨okX10_lastsOf, ⟨TX10, 46, rfl⟩, x_mem 150 u6 rfl rfl, x_mem 152 u6 rfl rfl, x_mem 55 uS rfl rfl⟩
theorem mlX10_270 : x_MV RX10 270 10 fX10_lasts 0 := ⟨okX10_lasts, ⟨TX10, 46, rfl⟩, x_mem 158 u6 rfl rfl, x_mem 147 u6 rfl rfl, x_mem 148 u6 rfl rfl⟩
theorem mlX10_278 : x_MV RX10 278 10 fX10_mistaken 1 := ⟨okX10_mistaken, ⟨TX10, 46, rfl⟩, x_mem 168 u6 rfl rfl, x_mem 170 u6 rfl rfl, x_mem 56 uS rfl rfl⟩
theorem mlX10_281 : x_MV RX10 281 10 fX10_fallWith 4 := ⟨okX10_fallWith, ⟨TX10, 46, rfl⟩, x_mem 180 u6 rfl rfl, x_mem 182 u6 rfl rfl, x_mem 57 uS rfl rfl⟩
theorem mlX10_285 : x_MV RX10 285 10 fX10_rowIs 1 := ⟨okX10_rowIs, ⟨TX10, 46, rfl⟩, x_mem 192 u6 rfl rfl, x_mem 194 u6 rfl rfl, x_mem 58 uS rfl rfl⟩
theorem mlX10_290 : x_MV RX10 290 10 fX10_firstFalse 2 := ⟨okX10_firstFalse, ⟨TX10, 46, rfl⟩, x_mem 201 u6 rfl rfl, x_mem 203 u6 rfl rfl, x_mem 59 uS rfl rfl⟩
theorem mlX10_293 : x_MS RX10 293 fX10_isGirl 1 := ⟨okX10_isGirl, x_mem 213 u6 rfl rfl, x_mem 214 u6 rfl rfl⟩
theorem mlX10_302 : x_MV RX10 302 10 fX10_draws 0 := ⟨okX10_draws, ⟨TX10, 46, rfl⟩, x_mem 226 u6 rfl rfl, x_mem 228 u6 rfl rfl, x_mem 61 uS rfl rfl⟩
theorem mlX10_305 : x_MV RX10 305 10 fX10_drops 3 := ⟨okX10_drops, ⟨TX10, 46, rfl⟩, x_mem 231 u6 rfl rfl, x_mem 233 u6 rfl rfl, x_mem 62 uS rfl rfl⟩
theorem mlX10_308 : x_MS RX10 308 fX10_besideOf 2 := ⟨okX10_besideOf, x_mem 235 u6 rfl rfl, x_mem 236 u6 rfl rfl⟩
theorem mlX10_313 : x_MV RX10 313 10 fX10_field 2 := ⟨okX10_field, ⟨TX10, 46, rfl⟩, x_mem 222 u6 rfl rfl, x_mem 224 u6 rfl rfl, x_mem 60 uS rfl rfl⟩
theorem mlX10_324 : x_MS RX10 324 fX10_needsOf 1 := ⟨okX10_needsOf, x_mem 17 u7 rfl rfl, x_mem 18 u7 rfl rfl⟩
theorem mlX10_340 : x_MV RX10 340 10 fX10_begins 1 := ⟨okX10_begins, ⟨TX10, 46, rfl⟩, x_mem 48 u7 rfl rfl, x_mem 50 u7 rfl rfl, x_mem 65 uS rfl rfl⟩
theorem mlX10_343 : x_MV RX10 343 10 fX10_pushesAs 2 := ⟨okX10_pushesAs, ⟨TX10, 46, rfl⟩, x_mem 44 u7 rfl rfl, x_mem 46 u7 rfl rfl, x_mem 64 uS rfl rfl⟩
theorem mlX10_349 : x_MV RX10 349 10 fX10_turnsAs 2 := ⟨okX10_turnsAs, ⟨TX10, 46, rfl⟩, x_mem 52 u7 rfl rfl, x_mem 54 u7 rfl rfl, x_mem 66 uS rfl rfl⟩
theorem mlX10_355 : x_MV RX10 355 10 fX10_sinksAs 2 := ⟨okX10_sinksAs, ⟨TX10, 46, rfl⟩, x_mem 56 u7 rfl rfl, x_mem 58 u7 rfl rfl, x_mem 67 uS rfl rfl⟩
theorem mlX10_358 : x_MV RX10 358 10 fX10_tellsAs 2 := ⟨okX10_tellsAs, ⟨TX10, 46, rfl⟩, x_mem 60 u7 rfl rfl, x_mem 62 u7 rfl rfl, x_mem 68 uS rfl rfl⟩
theorem mlX10_361 : x_MV RX10 361 10 fX10_isBody 1 := ⟨okX10_isBody, ⟨TX10, 46, rfl⟩, x_mem 40 u7 rfl rfl, x_mem 42 u7 rfl rfl, x_mem 63 uS rfl rfl⟩
theorem mlX10_364 : x_MV RX10 364 10 fX10_refusal 2 := ⟨okX10_refusal, ⟨TX10, 46, rfl⟩, x_mem 80 u7 rfl rfl, x_mem 82 u7 rfl rfl, x_mem 69 uS rfl rfl⟩
theorem mlX10_367 : x_MS RX10 367 fX10_asSort 2 := ⟨okX10_asSort, x_mem 84 u7 rfl rfl, x_mem 85 u7 rfl rfl⟩
theorem mlX10_371 : x_MV RX10 371 10 fX10_kindOf 1 := ⟨okX10_kindOf, ⟨TX10, 46, rfl⟩, x_mem 99 u7 rfl rfl, x_mem 101 u7 rfl rfl, x_mem 70 uS rfl rfl⟩
theorem mlX10_374 : x_MS RX10 374 fX10_above 1 := ⟨okX10_above, x_mem 103 u7 rfl rfl, x_mem 104 u7 rfl rfl⟩
theorem mlX2_56 : x_MN RX2 56 fX9_within 3 := ⟨okX9_within, ⟨"HoopWaist", List.mem_of_getElem? (i := 0) rfl⟩, x_mem 105 u3 rfl rfl⟩
theorem mlX3_60 : x_MN RX3 60 fX9_within 3 := ⟨okX9_within, ⟨"HoopWaist", List.mem_of_getElem? (i := 1) rfl⟩, x_mem 105 u3 rfl rfl⟩
theorem mlX5_79 : x_MN RX5 79 fX9_rest 2 := ⟨okX9_rest, ⟨"HoopWaist", List.mem_of_getElem? (i := 2) rfl⟩, x_mem 58 u3 rfl rfl⟩
theorem mlX5_83 : x_MN RX5 83 fX9_goalOf 1 := ⟨okX9_goalOf, ⟨"HoopWaist", List.mem_of_getElem? (i := 3) rfl⟩, x_mem 65 u3 rfl rfl⟩
theorem mlX7_88 : x_MN RX7 88 fX9_goalOf 1 := ⟨okX9_goalOf, ⟨"HoopWaist", List.mem_of_getElem? (i := 4) rfl⟩, x_mem 65 u3 rfl rfl⟩
theorem mlX8_26 : x_MN RX8 26 fX9_isKind 1 := ⟨okX9_isKind, ⟨"HoopWaist", List.mem_of_getElem? (i := 5) rfl⟩, x_mem 171 u4 rfl rfl⟩
theorem coX9_105 : Cond.constant RX9 105 (-2000000000) ∈ xU := x_mem 177 u2 rfl rfl
theorem coX1_67 : Cond.constant RX1 67 (1103515245) ∈ xU := x_mem 89 u4 rfl rfl
theorem coX2_41 : Cond.constant RX2 41 (-2000000000) ∈ xU := x_mem 190 u2 rfl rfl
theorem coX10_140 : Cond.constant RX10 140 (-2000000000) ∈ xU := x_mem 5 u6 rfl rfl
theorem coX10_301 : Cond.constant RX10 301 (1103515245) ∈ xU := x_mem 230 u6 rfl rfl
theorem coJ6_265 : Cond.constant RJ6 265 (1431655765) ∈ xU := x_mem 0 u4 rfl rfl
theorem coJ6_266 : Cond.constant RJ6 266 (858993459) ∈ xU := x_mem 1 u4 rfl rfl
theorem coJ6_267 : Cond.constant RJ6 267 (252645135) ∈ xU := x_mem 2 u4 rfl rfl
theorem coX9_286 : Cond.constantLong RX9 286 (-9223372036854775808) ∈ xU := x_mem 121 u4 rfl rfl
theorem coL_166 : Cond.constantLong RL 166 (4294967295) ∈ xU := x_mem 110 u7 rfl rfl
theorem coX10_97 : Cond.constantLong RX10 97 (10) ∈ xU := x_mem 201 u5 rfl rfl
theorem coX10_99 : Cond.constantLong RX10 99 (14) ∈ xU := x_mem 202 u5 rfl rfl
theorem coX10_112 : Cond.constantLong RX10 112 (9) ∈ xU := x_mem 218 u5 rfl rfl
theorem coX10_114 : Cond.constantLong RX10 114 (-9) ∈ xU := x_mem 219 u5 rfl rfl
theorem coX10_116 : Cond.constantLong RX10 116 (4) ∈ xU := x_mem 214 u5 rfl rfl
theorem coX10_129 : Cond.constantLong RX10 129 (5) ∈ xU := x_mem 231 u5 rfl rfl
theorem coX10_131 : Cond.constantLong RX10 131 (2) ∈ xU := x_mem 236 u5 rfl rfl
theorem coX10_141 : Cond.constantLong RX10 141 (3) ∈ xU := x_mem 6 u6 rfl rfl
theorem coX10_143 : Cond.constantLong RX10 143 (7) ∈ xU := x_mem 7 u6 rfl rfl
theorem coX10_149 : Cond.constantLong RX10 149 (15) ∈ xU := x_mem 16 u6 rfl rfl
theorem coX10_154 : Cond.constantLong RX10 154 (20) ∈ xU := x_mem 17 u6 rfl rfl
theorem coX10_156 : Cond.constantLong RX10 156 (21) ∈ xU := x_mem 18 u6 rfl rfl
theorem coX10_158 : Cond.constantLong RX10 158 (24) ∈ xU := x_mem 19 u6 rfl rfl
theorem coX10_160 : Cond.constantLong RX10 160 (255) ∈ xU := x_mem 24 u6 rfl rfl
theorem coX10_244 : Cond.constantLong RX10 244 (200) ∈ xU := x_mem 76 u6 rfl rfl
theorem coX10_276 : Cond.constantLong RX10 276 (40) ∈ xU := x_mem 167 u6 rfl rfl
theorem coX10_288 : Cond.constantLong RX10 288 (-1) ∈ xU := x_mem 196 u6 rfl rfl
theorem coX10_296 : Cond.constantLong RX10 296 (12) ∈ xU := x_mem 216 u6 rfl rfl
theorem coX10_311 : Cond.constantLong RX10 311 (30) ∈ xU := x_mem 221 u6 rfl rfl
theorem coX10_316 : Cond.constantLong RX10 316 (8) ∈ xU := x_mem 10 u7 rfl rfl
theorem coX10_320 : Cond.constantLong RX10 320 (-9223372036854775808) ∈ xU := x_mem 11 u7 rfl rfl
theorem coX10_322 : Cond.constantLong RX10 322 (99) ∈ xU := x_mem 16 u7 rfl rfl
theorem nwX9_7 : x_NW RX9 7 3 6 [some none, some none, some none, some none, none, none] := ⟨RX3, TX3, tyX3, rfl, uw3, tyX3_ok, x_mem 23 u1 rfl rfl, x_mem 24 u1 rfl rfl, x_mem 2 u1 rfl rfl, by decide +kernel⟩
theorem klX9_7 : Cond.classLink RX9 7 RX3 ∈ xU := x_mem 23 u1 rfl rfl
theorem nwX9_16 : x_NW RX9 16 4 5 [some none, some none, none, none, none] := ⟨RX4, TX4, tyX4, rfl, uw4, tyX4_ok, x_mem 51 u1 rfl rfl, x_mem 52 u1 rfl rfl, x_mem 3 u1 rfl rfl, by decide +kernel⟩
theorem klX9_16 : Cond.classLink RX9 16 RX4 ∈ xU := x_mem 51 u1 rfl rfl
theorem nwX9_23 : x_NW RX9 23 5 10 [some none, some none, none, none, none, none, none, none, none, none] := ⟨RX5, TX5, tyX5, rfl, uw5, tyX5_ok, x_mem 77 u1 rfl rfl, x_mem 78 u1 rfl rfl, x_mem 4 u1 rfl rfl, by decide +kernel⟩
theorem klX9_23 : Cond.classLink RX9 23 RX5 ∈ xU := x_mem 77 u1 rfl rfl
theorem nwX9_35 : x_NW RX9 35 7 8 [some none, some none, none, none, none, none, none, none] := ⟨RX7, TX7, tyX7, rfl, uw7, tyX7_ok, x_mem 160 u1 rfl rfl, x_mem 161 u1 rfl rfl, x_mem 6 u1 rfl rfl, by decide +kernel⟩
theorem klX9_35 : Cond.classLink RX9 35 RX7 ∈ xU := x_mem 160 u1 rfl rfl
theorem nwX9_44 : x_NW RX9 44 1 7 [some none, some none, some none, some none, some none, none, none] := ⟨RX1, TX1, tyX1, rfl, uw1, tyX1_ok, x_mem 192 u1 rfl rfl, x_mem 193 u1 rfl rfl, x_mem 7 u1 rfl rfl, by decide +kernel⟩
theorem klX9_44 : Cond.classLink RX9 44 RX1 ∈ xU := x_mem 192 u1 rfl rfl
theorem nwX9_51 : x_NW RX9 51 0 6 [some none, some none, some none, some none, none, none] := ⟨RX0, TX0, tyX0, rfl, uw0, tyX0_ok, x_mem 227 u1 rfl rfl, x_mem 228 u1 rfl rfl, x_mem 8 u1 rfl rfl, by decide +kernel⟩
theorem klX9_51 : Cond.classLink RX9 51 RX0 ∈ xU := x_mem 227 u1 rfl rfl
theorem nwX9_58 : x_NW RX9 58 8 5 [some none, some none, none, none, none] := ⟨RX8, TX8, tyX8, rfl, uw8, tyX8_ok, x_mem 18 u2 rfl rfl, x_mem 19 u2 rfl rfl, x_mem 9 u1 rfl rfl, by decide +kernel⟩
theorem klX9_58 : Cond.classLink RX9 58 RX8 ∈ xU := x_mem 18 u2 rfl rfl
theorem nwX9_65 : x_NW RX9 65 6 5 [none, none, none, none, some none] := ⟨RX6, TX6, tyX6, rfl, uw6, tyX6_ok, x_mem 44 u2 rfl rfl, x_mem 46 u2 rfl rfl, x_mem 10 u1 rfl rfl, by decide +kernel⟩
theorem klX9_65 : Cond.classLink RX9 65 RX6 ∈ xU := x_mem 44 u2 rfl rfl
theorem nwX4_13 : x_NW RX4 13 3 6 [some none, some none, some none, some none, none, none] := ⟨RX3, TX3, tyX3, rfl, uw3, tyX3_ok, x_mem 57 u1 rfl rfl, x_mem 24 u1 rfl rfl, x_mem 2 u1 rfl rfl, by decide +kernel⟩
theorem klX4_13 : Cond.classLink RX4 13 RX3 ∈ xU := x_mem 57 u1 rfl rfl
theorem nwX5_15 : x_NW RX5 15 2 5 [none, none, none, none, none] := ⟨RX2, TX2, tyX2, rfl, uw2, tyX2_ok, x_mem 83 u1 rfl rfl, x_mem 85 u1 rfl rfl, x_mem 5 u1 rfl rfl, by decide +kernel⟩
theorem klX5_15 : Cond.classLink RX5 15 RX2 ∈ xU := x_mem 83 u1 rfl rfl
theorem nwL_7 : x_NW RL 7 9 10 [some none, some none, some none, some none, some none, some none, some none, some none, some none, none] := ⟨RX9, TX9, tyX9, rfl, uw9, tyX9_ok, x_mem 15 u1 rfl rfl, x_mem 16 u1 rfl rfl, x_mem 1 u1 rfl rfl, by decide +kernel⟩
theorem klL_7 : Cond.classLink RL 7 RX9 ∈ xU := x_mem 15 u1 rfl rfl
theorem nwL_10 : x_NW RL 10 10 46 [some none, some none, some none, some none, none, none, none, some none, some none, none, some none, none, some none, none, none, none, none, none, none, some none, some none, some none, some none, none, none, none, none, some none, some none, some none, some none, some none, none, none, none, some none, none, some none, some none, none, none, none, some none, some none, some none, some none] := ⟨RX10, TX10, tyX10, rfl, uw10, tyX10_ok, x_mem 48 u5 rfl rfl, x_mem 49 u5 rfl rfl, x_mem 11 u1 rfl rfl, by decide +kernel⟩
theorem klL_10 : Cond.classLink RL 10 RX10 ∈ xU := x_mem 48 u5 rfl rfl
theorem ua_int : Cond.arrayClass .int ∈ xU := x_mem 50 u1 rfl rfl
theorem ua_boolean : Cond.arrayClass .boolean ∈ xU := x_mem 226 u1 rfl rfl
theorem ua_long : Cond.arrayClass .long ∈ xU := x_mem 73 u2 rfl rfl
theorem uj_oi : Cond.instanceMethod objectInit ∈ xU := x_mem 21 u1 rfl rfl
theorem uj_oc : Cond.code objectInit ⟨#[0xb1]⟩ 1 none ∈ xU := x_mem 22 u1 rfl rfl
theorem uj_max : Cond.static Lib.Math.max.name ∈ xU := x_mem 109 u3 rfl rfl
theorem uj_maxc : Cond.code Lib.Math.max.name Lib.Math.max.code 2 (some .int) ∈ xU := x_mem 110 u3 rfl rfl
theorem uj_min : Cond.static Lib.Math.min.name ∈ xU := x_mem 84 u3 rfl rfl
theorem uj_minc : Cond.code Lib.Math.min.name Lib.Math.min.code 2 (some .int) ∈ xU := x_mem 85 u3 rfl rfl
theorem uj_abs : Cond.static Lib.Math.abs.name ∈ xU := x_mem 94 u3 rfl rfl
theorem uj_absc : Cond.code Lib.Math.abs.name Lib.Math.abs.code 1 (some .int) ∈ xU := x_mem 95 u3 rfl rfl
theorem uj_mi : Cond.initialized "java/lang/Math" ∈ xU := x_mem 13 u1 rfl rfl
theorem uj_an : Cond.native arraycopyName ∈ xU := x_mem 214 u2 rfl rfl
theorem uj_as : Cond.static arraycopyName ∈ xU := x_mem 213 u2 rfl rfl
theorem uj_ai : Cond.initialized "java/lang/System" ∈ xU := x_mem 12 u1 rfl rfl
end
section
/-- the places of a ring's hoops, of the shelves -/
def x_hs (b : Nat) : Nat → Option Nat := fun i => if i < 5 then some (b + i) else none
def x_ss : Nat → Option Nat := fun i => if i < 6 then some (50 + 2 * i) else none
def x_SH : List xS := [.inl (9, [some (some 1), some (some 6), some (some 13), some (some 20), some (some 27), some (some 35), some (some 41), some (some 46), some (some 49), none]), .inl (3, [some (some 2), some (some 3), some (some 4), some (some 5), none, none]), .inr (0, 128, fun _ => none), .inr (0, 128, fun _ => none), .inr (0, 128, fun _ => none), .inr (0, 6, fun _ => none), .inl (4, [some (some 7), some (some 8), none, none, none]), .inr (0, 120, fun _ => none), .inl (3, [some (some 9), some (some 10), some (some 11), some (some 12), none, none]), .inr (0, 128, fun _ => none), .inr (0, 128, fun _ => none), .inr (0, 128, fun _ => none), .inr (0, 6, fun _ => none), .inl (5, [some (some 1), some (some 14), none, none, none, none, none, none, none, none]), .inr (3, 5, x_hs 15), .inl (2, [none, none, none, none, none]), .inl (2, [none, none, none, none, none]), .inl (2, [none, none, none, none, none]), .inl (2, [none, none, none, none, none]), .inl (2, [none, none, none, none, none]), .inl (5, [some (some 1), some (some 21), none, none, none, none, none, none, none, none]), .inr (3, 5, x_hs 22), .inl (2, [none, none, none, none, none]), .inl (2, [none, none, none, none, none]), .inl (2, [none, none, none, none, none]), .inl (2, [none, none, none, none, none]), .inl (2, [none, none, none, none, none]), .inl (7, [some (some 13), some (some 28), none, none, none, none, none, none]), .inl (5, [some (some 1), some (some 29), none, none, none, none, none, none, none, none]), .inr (3, 5, x_hs 30), .inl (2, [none, none, none, none, none]), .inl (2, [none, none, none, none, none]), .inl (2, [none, none, none, none, none]), .inl (2, [none, none, none, none, none]), .inl (2, [none, none, none, none, none]), .inl (1, [some (some 36), some (some 37), some (some 38), some (some 39), some (some 40), none, none]), .inr (0, 25, fun _ => none), .inr (0, 25, fun _ => none), .inr (1, 25, fun _ => none), .inr (0, 25, fun _ => none), .inr (0, 25, fun _ => none), .inl (0, [some (some 42), some (some 43), some (some 44), some (some 45), none, none]), .inr (0, 40, fun _ => none), .inr (0, 40, fun _ => none), .inr (0, 40, fun _ => none), .inr (0, 40, fun _ => none), .inl (8, [some (some 47), some (some 48), none, none, none]), .inr (0, 50, fun _ => none), .inr (0, 24, fun _ => none), .inr (4, 6, x_ss), .inl (6, [none, none, none, none, some (some 51)]), .inr (2, 60, fun _ => none), .inl (6, [none, none, none, none, some (some 53)]), .inr (2, 60, fun _ => none), .inl (6, [none, none, none, none, some (some 55)]), .inr (2, 60, fun _ => none), .inl (6, [none, none, none, none, some (some 57)]), .inr (2, 60, fun _ => none), .inl (6, [none, none, none, none, some (some 59)]), .inr (2, 60, fun _ => none), .inl (6, [none, none, none, none, some (some 61)]), .inr (2, 60, fun _ => none), .inl (10, [some (some 63), some (some 64), some (some 65), some (some 66), none, none, none, some (some 67), some (some 68), none, some (some 69), none, some (some 70), none, none, none, none, none, none, some (some 71), some (some 72), some (some 73), some (some 74), none, none, none, none, some (some 75), some (some 76), some (some 77), some (some 78), some (some 79), none, none, none, some (some 80), none, some (some 81), some (some 82), none, none, none, some (some 83), some (some 84), some (some 85), some (some 86)]), .inr (0, 20, fun _ => none), .inr (0, 40, fun _ => none), .inr (0, 40, fun _ => none), .inr (0, 40, fun _ => none), .inr (0, 5, fun _ => none), .inr (0, 5, fun _ => none), .inr (0, 120, fun _ => none), .inr (0, 120, fun _ => none), .inr (0, 6, fun _ => none), .inr (0, 5, fun _ => none), .inr (0, 5, fun _ => none), .inr (0, 5, fun _ => none), .inr (0, 25, fun _ => none), .inr (0, 25, fun _ => none), .inr (1, 25, fun _ => none), .inr (0, 25, fun _ => none), .inr (0, 25, fun _ => none), .inr (0, 18, fun _ => none), .inr (0, 50, fun _ => none), .inr (0, 24, fun _ => none), .inr (0, 6, fun _ => none), .inr (0, 6, fun _ => none), .inr (2, 360, fun _ => none), .inr (2, 60, fun _ => none)]
theorem s_0 : x_SH[0]? = some (.inl (9, [some (some 1), some (some 6), some (some 13), some (some 20), some (some 27), some (some 35), some (some 41), some (some 46), some (some 49), none])) := rfl
theorem s_1 : x_SH[1]? = some (.inl (3, [some (some 2), some (some 3), some (some 4), some (some 5), none, none])) := rfl
theorem s_2 : x_SH[2]? = some (.inr (0, 128, fun _ => none)) := rfl
theorem s_3 : x_SH[3]? = some (.inr (0, 128, fun _ => none)) := rfl
theorem s_4 : x_SH[4]? = some (.inr (0, 128, fun _ => none)) := rfl
theorem s_5 : x_SH[5]? = some (.inr (0, 6, fun _ => none)) := rfl
theorem s_6 : x_SH[6]? = some (.inl (4, [some (some 7), some (some 8), none, none, none])) := rfl
theorem s_7 : x_SH[7]? = some (.inr (0, 120, fun _ => none)) := rfl
theorem s_8 : x_SH[8]? = some (.inl (3, [some (some 9), some (some 10), some (some 11), some (some 12), none, none])) := rfl
theorem s_9 : x_SH[9]? = some (.inr (0, 128, fun _ => none)) := rfl
theorem s_10 : x_SH[10]? = some (.inr (0, 128, fun _ => none)) := rfl
theorem s_11 : x_SH[11]? = some (.inr (0, 128, fun _ => none)) := rfl
theorem s_12 : x_SH[12]? = some (.inr (0, 6, fun _ => none)) := rfl
theorem s_13 : x_SH[13]? = some (.inl (5, [some (some 1), some (some 14), none, none, none, none, none, none, none, none])) := rfl
theorem s_14 : x_SH[14]? = some (.inr (3, 5, x_hs 15)) := rfl
theorem s_15 : x_SH[15]? = some (.inl (2, [none, none, none, none, none])) := rfl
theorem s_16 : x_SH[16]? = some (.inl (2, [none, none, none, none, none])) := rfl
theorem s_17 : x_SH[17]? = some (.inl (2, [none, none, none, none, none])) := rfl
theorem s_18 : x_SH[18]? = some (.inl (2, [none, none, none, none, none])) := rfl
theorem s_19 : x_SH[19]? = some (.inl (2, [none, none, none, none, none])) := rfl
theorem s_20 : x_SH[20]? = some (.inl (5, [some (some 1), some (some 21), none, none, none, none, none, none, none, none])) := rfl
theorem s_21 : x_SH[21]? = some (.inr (3, 5, x_hs 22)) := rfl
theorem s_22 : x_SH[22]? = some (.inl (2, [none, none, none, none, none])) := rfl
theorem s_23 : x_SH[23]? = some (.inl (2, [none, none, none, none, none])) := rfl
theorem s_24 : x_SH[24]? = some (.inl (2, [none, none, none, none, none])) := rfl
theorem s_25 : x_SH[25]? = some (.inl (2, [none, none, none, none, none])) := rfl
theorem s_26 : x_SH[26]? = some (.inl (2, [none, none, none, none, none])) := rfl
theorem s_27 : x_SH[27]? = some (.inl (7, [some (some 13), some (some 28), none, none, none, none, none, none])) := rfl
theorem s_28 : x_SH[28]? = some (.inl (5, [some (some 1), some (some 29), none, none, none, none, none, none, none, none])) := rfl
theorem s_29 : x_SH[29]? = some (.inr (3, 5, x_hs 30)) := rfl
theorem s_30 : x_SH[30]? = some (.inl (2, [none, none, none, none, none])) := rfl
theorem s_31 : x_SH[31]? = some (.inl (2, [none, none, none, none, none])) := rfl
theorem s_32 : x_SH[32]? = some (.inl (2, [none, none, none, none, none])) := rfl
theorem s_33 : x_SH[33]? = some (.inl (2, [none, none, none, none, none])) := rfl
theorem s_34 : x_SH[34]? = some (.inl (2, [none, none, none, none, none])) := rfl
theorem s_35 : x_SH[35]? = some (.inl (1, [some (some 36), some (some 37), some (some 38), some (some 39), some (some 40), none, none])) := rfl
theorem s_36 : x_SH[36]? = some (.inr (0, 25, fun _ => none)) := rfl
theorem s_37 : x_SH[37]? = some (.inr (0, 25, fun _ => none)) := rfl
theorem s_38 : x_SH[38]? = some (.inr (1, 25, fun _ => none)) := rfl
theorem s_39 : x_SH[39]? = some (.inr (0, 25, fun _ => none)) := rfl
theorem s_40 : x_SH[40]? = some (.inr (0, 25, fun _ => none)) := rfl
theorem s_41 : x_SH[41]? = some (.inl (0, [some (some 42), some (some 43), some (some 44), some (some 45), none, none])) := rfl
theorem s_42 : x_SH[42]? = some (.inr (0, 40, fun _ => none)) := rfl
theorem s_43 : x_SH[43]? = some (.inr (0, 40, fun _ => none)) := rfl
theorem s_44 : x_SH[44]? = some (.inr (0, 40, fun _ => none)) := rfl
theorem s_45 : x_SH[45]? = some (.inr (0, 40, fun _ => none)) := rfl
theorem s_46 : x_SH[46]? = some (.inl (8, [some (some 47), some (some 48), none, none, none])) := rfl
theorem s_47 : x_SH[47]? = some (.inr (0, 50, fun _ => none)) := rfl
theorem s_48 : x_SH[48]? = some (.inr (0, 24, fun _ => none)) := rfl
theorem s_49 : x_SH[49]? = some (.inr (4, 6, x_ss)) := rfl
theorem s_50 : x_SH[50]? = some (.inl (6, [none, none, none, none, some (some 51)])) := rfl
theorem s_51 : x_SH[51]? = some (.inr (2, 60, fun _ => none)) := rfl
theorem s_52 : x_SH[52]? = some (.inl (6, [none, none, none, none, some (some 53)])) := rfl
theorem s_53 : x_SH[53]? = some (.inr (2, 60, fun _ => none)) := rfl
theorem s_54 : x_SH[54]? = some (.inl (6, [none, none, none, none, some (some 55)])) := rfl
theorem s_55 : x_SH[55]? = some (.inr (2, 60, fun _ => none)) := rfl
theorem s_56 : x_SH[56]? = some (.inl (6, [none, none, none, none, some (some 57)])) := rfl
theorem s_57 : x_SH[57]? = some (.inr (2, 60, fun _ => none)) := rfl
theorem s_58 : x_SH[58]? = some (.inl (6, [none, none, none, none, some (some 59)])) := rfl
theorem s_59 : x_SH[59]? = some (.inr (2, 60, fun _ => none)) := rfl
theorem s_60 : x_SH[60]? = some (.inl (6, [none, none, none, none, some (some 61)])) := rfl
theorem s_61 : x_SH[61]? = some (.inr (2, 60, fun _ => none)) := rfl
theorem s_62 : x_SH[62]? = some (.inl (10, [some (some 63), some (some 64), some (some 65), some (some 66), none, none, none, some (some 67), some (some 68), none, some (some 69), none, some (some 70), none, none, none, none, none, none, some (some 71), some (some 72), some (some 73), some (some 74), none, none, none, none, some (some 75), some (some 76), some (some 77), some (some 78), some (some 79), none, none, none, some (some 80), none, some (some 81), some (some 82), none, none, none, some (some 83), some (some 84), some (some 85), some (some 86)])) := rfl
theorem s_63 : x_SH[63]? = some (.inr (0, 20, fun _ => none)) := rfl
theorem s_64 : x_SH[64]? = some (.inr (0, 40, fun _ => none)) := rfl
theorem s_65 : x_SH[65]? = some (.inr (0, 40, fun _ => none)) := rfl
theorem s_66 : x_SH[66]? = some (.inr (0, 40, fun _ => none)) := rfl
theorem s_67 : x_SH[67]? = some (.inr (0, 5, fun _ => none)) := rfl
theorem s_68 : x_SH[68]? = some (.inr (0, 5, fun _ => none)) := rfl
theorem s_69 : x_SH[69]? = some (.inr (0, 120, fun _ => none)) := rfl
theorem s_70 : x_SH[70]? = some (.inr (0, 120, fun _ => none)) := rfl
theorem s_71 : x_SH[71]? = some (.inr (0, 6, fun _ => none)) := rfl
theorem s_72 : x_SH[72]? = some (.inr (0, 5, fun _ => none)) := rfl
theorem s_73 : x_SH[73]? = some (.inr (0, 5, fun _ => none)) := rfl
theorem s_74 : x_SH[74]? = some (.inr (0, 5, fun _ => none)) := rfl
theorem s_75 : x_SH[75]? = some (.inr (0, 25, fun _ => none)) := rfl
theorem s_76 : x_SH[76]? = some (.inr (0, 25, fun _ => none)) := rfl
theorem s_77 : x_SH[77]? = some (.inr (1, 25, fun _ => none)) := rfl
theorem s_78 : x_SH[78]? = some (.inr (0, 25, fun _ => none)) := rfl
theorem s_79 : x_SH[79]? = some (.inr (0, 25, fun _ => none)) := rfl
theorem s_80 : x_SH[80]? = some (.inr (0, 18, fun _ => none)) := rfl
theorem s_81 : x_SH[81]? = some (.inr (0, 50, fun _ => none)) := rfl
theorem s_82 : x_SH[82]? = some (.inr (0, 24, fun _ => none)) := rfl
theorem s_83 : x_SH[83]? = some (.inr (0, 6, fun _ => none)) := rfl
theorem s_84 : x_SH[84]? = some (.inr (0, 6, fun _ => none)) := rfl
theorem s_85 : x_SH[85]? = some (.inr (2, 360, fun _ => none)) := rfl
theorem s_86 : x_SH[86]? = some (.inr (2, 60, fun _ => none)) := rfl
theorem s_len : x_N ≤ x_SH.length := by decide
/-- an end told exactly -/
def qE (r : Option Value) (sh : List xS) (M : xM) (J : xJ) : xQ := fun v sh' M' J' => v = r ∧ sh' = sh ∧ M' = M ∧ J' = J
def bI (c : Prop) [Decidable c] : Int32 := if c then 1 else 0
theorem bI_t {c : Prop} [Decidable c] (h : c) : bI c = 1 := if_pos h
theorem bI_f {c : Prop} [Decidable c] (h : ¬ c) : bI c = 0 := if_neg h
theorem bI_n (c : Prop) [Decidable c] : narrow .boolean (.int (bI c)) = .int (bI c) := by
  by_cases h : c
  · rw [bI_t h]; rfl
  · rw [bI_f h]; rfl
section XB
variable {l : Launch} {G : xG} {f : xF} {d mc ms : Nat} {Q : xQ} {pc : Nat} {ls : List (Nat × Value)} {st : List Value} {sh : List xS} {M : xM} {J : xJ} {kc ks : Nat}
theorem xb_ls {ls2 : List (Nat × Value)} (is : List Nat) (h : lv_pick ls is = ls2) (k : x_X l G f d mc ms Q pc ls2 st sh M J kc ks) : x_X l G f d mc ms Q pc ls st sh M J kc ks := by
  intro p e R s m args below meth c H locs WQ arr hC hr hR hS hkc hks hl
  refine k p e R s m args below meth c H locs WQ arr hC hr hR hS hkc hks (lv_sub hl is ?_)
  rw [← h]
  simp only [lv_pick, List.map_filterMap, List.getElem?_map]
theorem xb_st {st2 : List Value} (h : st = st2) (k : x_X l G f d mc ms Q pc ls st2 sh M J kc ks) : x_X l G f d mc ms Q pc ls st sh M J kc ks := h ▸ k
theorem xb_M {M2 : xM} (h : M = M2) (k : x_X l G f d mc ms Q pc ls st sh M2 J kc ks) : x_X l G f d mc ms Q pc ls st sh M J kc ks := h ▸ k
theorem xb_pc {pc2 : Nat} (h : pc = pc2) (k : x_X l G f d mc ms Q pc2 ls st sh M J kc ks) : x_X l G f d mc ms Q pc ls st sh M J kc ks := h ▸ k
theorem xb_top {x y : Int32} (h : x = y) (k : x_X l G f d mc ms Q pc ls (.int y :: st) sh M J kc ks) : x_X l G f d mc ms Q pc ls (.int x :: st) sh M J kc ks := h ▸ k
theorem xb_topJ {x y : Int64} (h : x = y) (k : x_X l G f d mc ms Q pc ls (.long y :: st) sh M J kc ks) : x_X l G f d mc ms Q pc ls (.long x :: st) sh M J kc ks := h ▸ k
theorem xb_of {args : List Value} {ls : List (Nat × Value)} (hp : plainName f.1.cls = true ∧ f.1.cls ≠ RL) (hlen : (lg_sl args).length ≤ f.2.2.1) (hls : lv_args 0 args = ls) (h : x_X l G f d mc ms Q 0 ls [] sh M J 0 0) : x_M l G f d mc ms args sh M J Q :=
  x_M_of hp.1 hlen hp.2 (by rw [hls]; exact h)
theorem xb_get {idx ci kf a : Nat} {fs : List (Option (Option Nat))} {v : Int32} (fl : x_FL f.1.cls idx ci kf) (hd : decode f.2.1 pc = .ok (.getfield idx, 3)) (hs : sh[a]? = some (.inl (ci, fs))) (hk : fs[kf]? = some none) (hv : M a kf = v) (k : x_X l G f d mc ms Q (pc + 3) ls (.int v :: st) sh M J kc ks) : x_X l G f d mc ms Q pc ls (.ref a :: st) sh M J kc ks :=
  xr_getI fl hd hs hk (by rw [hv]; exact k)
theorem xb_iald {a n j : Nat} {g : Nat → Option Nat} {v : Int32} (hd : decode f.2.1 pc = .ok (.iaload, 1)) (hs : sh[a]? = some (.inr (0, n, g))) (hj : j < n) (hn : n < 2 ^ 31) (hv : M a j = v) (k : x_X l G f d mc ms Q (pc + 1) ls (.int v :: st) sh M J kc ks) : x_X l G f d mc ms Q pc ls (.int (nI j) :: .ref a :: st) sh M J kc ks :=
  xr_iald hd hs (vp_in_nI hj hn) (by rw [nI_clamp (Nat.lt_trans hj hn), hv]; exact k)
theorem xb_zald {a n j : Nat} {g : Nat → Option Nat} {v : Int32} (hd : decode f.2.1 pc = .ok (.baload, 1)) (hs : sh[a]? = some (.inr (1, n, g))) (hj : j < n) (hn : n < 2 ^ 31) (hv : M a j = v) (k : x_X l G f d mc ms Q (pc + 1) ls (.int v :: st) sh M J kc ks) : x_X l G f d mc ms Q pc ls (.int (nI j) :: .ref a :: st) sh M J kc ks :=
  xr_zald hd hs (vp_in_nI hj hn) (by rw [nI_clamp (Nat.lt_trans hj hn), hv]; exact k)
theorem xb_lald {a n j : Nat} {g : Nat → Option Nat} {v : Int64} (hd : decode f.2.1 pc = .ok (.laload, 1)) (hs : sh[a]? = some (.inr (2, n, g))) (hj : j < n) (hn : n < 2 ^ 31) (hv : J a j = v) (k : x_X l G f d mc ms Q (pc + 1) ls (.long v :: st) sh M J kc ks) : x_X l G f d mc ms Q pc ls (.int (nI j) :: .ref a :: st) sh M J kc ks :=
  xr_lald hd hs (vp_in_nI hj hn) (by rw [nI_clamp (Nat.lt_trans hj hn), hv]; exact k)
theorem xb_aald {a n t q j : Nat} {g : Nat → Option Nat} (ht : t = 3 ∨ t = 4) (hd : decode f.2.1 pc = .ok (.aaload, 1)) (hs : sh[a]? = some (.inr (t, n, g))) (hj : j < n) (hn : n < 2 ^ 31) (hg : g j = some q) (k : x_X l G f d mc ms Q (pc + 1) ls (.ref q :: st) sh M J kc ks) : x_X l G f d mc ms Q pc ls (.int (nI j) :: .ref a :: st) sh M J kc ks :=
  xr_aald ht hd hs (vp_in_nI hj hn) (by rw [nI_clamp (Nat.lt_trans hj hn)]; exact hg) k
theorem xb_iast {a n j : Nat} {g : Nat → Option Nat} {v : Int32} (hd : decode f.2.1 pc = .ok (.iastore, 1)) (hs : sh[a]? = some (.inr (0, n, g))) (hj : j < n) (hn : n < 2 ^ 31) (k : x_X l G f d mc ms Q (pc + 1) ls st sh (x_up M a j v) J kc ks) : x_X l G f d mc ms Q pc ls (.int v :: .int (nI j) :: .ref a :: st) sh M J kc ks :=
  xr_iast hd hs (vp_in_nI hj hn) (by rw [nI_clamp (Nat.lt_trans hj hn)]; exact k)
theorem xb_zast {a n j : Nat} {g : Nat → Option Nat} {v w : Int32} (hd : decode f.2.1 pc = .ok (.bastore, 1)) (hs : sh[a]? = some (.inr (1, n, g))) (hj : j < n) (hn : n < 2 ^ 31) (hw : vp_nar .boolean v = w) (k : x_X l G f d mc ms Q (pc + 1) ls st sh (x_up M a j w) J kc ks) : x_X l G f d mc ms Q pc ls (.int v :: .int (nI j) :: .ref a :: st) sh M J kc ks :=
  xr_zast hd hs (vp_in_nI hj hn) hw (by rw [nI_clamp (Nat.lt_trans hj hn)]; exact k)
theorem xb_last {a n j : Nat} {g : Nat → Option Nat} {v : Int64} (hd : decode f.2.1 pc = .ok (.lastore, 1)) (hs : sh[a]? = some (.inr (2, n, g))) (hj : j < n) (hn : n < 2 ^ 31) (k : x_X l G f d mc ms Q (pc + 1) ls st sh M (x_upJ J a j v) kc ks) : x_X l G f d mc ms Q pc ls (.long v :: .int (nI j) :: .ref a :: st) sh M J kc ks :=
  xr_last hd hs (vp_in_nI hj hn) (by rw [nI_clamp (Nat.lt_trans hj hn)]; exact k)
/-! a truth on the stack -/
theorem xb_beq {c : Prop} [Decidable c] {off : Int} {tgt : Nat} (hd : decode f.2.1 pc = .ok (.ifCond .eq off, 3)) (ht : (pc : Int) + off = (tgt : Int)) (kt : ¬ c → x_X l G f d mc ms Q tgt ls st sh M J kc ks) (kf : c → x_X l G f d mc ms Q (pc + 3) ls st sh M J kc ks) : x_X l G f d mc ms Q pc ls (.int (bI c) :: st) sh M J kc ks :=
  xr_if_eq hd ht (fun h => kt (fun hc => by rw [bI_t hc] at h; exact absurd h (by decide))) (fun h => kf (Decidable.byContradiction fun hc => h (bI_f hc)))
theorem xb_bne {c : Prop} [Decidable c] {off : Int} {tgt : Nat} (hd : decode f.2.1 pc = .ok (.ifCond .ne off, 3)) (ht : (pc : Int) + off = (tgt : Int)) (kt : c → x_X l G f d mc ms Q tgt ls st sh M J kc ks) (kf : ¬ c → x_X l G f d mc ms Q (pc + 3) ls st sh M J kc ks) : x_X l G f d mc ms Q pc ls (.int (bI c) :: st) sh M J kc ks :=
  xr_if_ne hd ht (fun h => kt (Decidable.byContradiction fun hc => h (bI_f hc))) (fun h => kf (fun hc => absurd h (by rw [bI_t hc]; decide)))
/-! calls with an exact end -/
theorem xb_cV {g : xF} {idx ci n a d' : Nat} {fs : List (Option (Option Nat))} {As rest : List Value} {r : Option Value} {sh' : List xS} {M' : xM} {J' : xJ} (mv : x_MV f.1.cls idx ci g n) (hg : x_M l G g d' 0 0 (.ref a :: As) sh M J (qE r sh' M' J')) (hd : decode f.2.1 pc = .ok (.invokevirtual idx, 3)) (hs : sh[a]? = some (.inl (ci, fs))) (hn : As.length = n) (hst : st = As.reverse ++ .ref a :: rest) (hcat : (rest.map fun v => v.category).sum ≤ 8) (hdd : d' + 1 ≤ d) (hkk : kc ≤ mc ∧ ks ≤ ms) (k : x_X l G f d mc ms Q (pc + 3) ls (r.toList ++ rest) sh' M' J' kc ks) : x_X l G f d mc ms Q pc ls st sh M J kc ks :=
  xr_callV mv hg hd hs hn hst hcat hdd hkk (fun v sh2 M2 J2 hq => by obtain ⟨rfl, rfl, rfl, rfl⟩ := hq; exact k)
theorem xb_cS {g : xF} {idx n d' : Nat} {As rest : List Value} {r : Option Value} {sh' : List xS} {M' : xM} {J' : xJ} (mv : x_MS f.1.cls idx g n) (hg : x_M l G g d' 0 0 As sh M J (qE r sh' M' J')) (hd : decode f.2.1 pc = .ok (.invokestatic idx, 3)) (hn : As.length = n) (hst : st = As.reverse ++ rest) (hcat : (rest.map fun v => v.category).sum ≤ 8) (hdd : d' + 1 ≤ d) (hkk : kc ≤ mc ∧ ks ≤ ms) (k : x_X l G f d mc ms Q (pc + 3) ls (r.toList ++ rest) sh' M' J' kc ks) : x_X l G f d mc ms Q pc ls st sh M J kc ks :=
  xr_callS mv hg hd hn hst hcat hdd hkk (fun v sh2 M2 J2 hq => by obtain ⟨rfl, rfl, rfl, rfl⟩ := hq; exact k)
theorem xb_cN {g : xF} {idx n d' : Nat} {As rest : List Value} {r : Option Value} {sh' : List xS} {M' : xM} {J' : xJ} (mv : x_MN f.1.cls idx g n) (hg : x_M l G g d' 0 0 As sh M J (qE r sh' M' J')) (hd : decode f.2.1 pc = .ok (.invokestatic idx, 3)) (hn : As.length = n) (hst : st = As.reverse ++ rest) (hcat : (rest.map fun v => v.category).sum ≤ 8) (hdd : d' + 1 ≤ d) (hkk : kc ≤ mc ∧ ks ≤ ms) (k : x_X l G f d mc ms Q (pc + 3) ls (r.toList ++ rest) sh' M' J' kc ks) : x_X l G f d mc ms Q pc ls st sh M J kc ks :=
  xr_callN mv hg hd hn hst hcat hdd hkk (fun v sh2 M2 J2 hq => by obtain ⟨rfl, rfl, rfl, rfl⟩ := hq; exact k)
/-! what is made, with its place and the new shapes named -/
theorem xb_new {idx ci N p kc2 ks2 : Nat} {fs : List (Option (Option Nat))} {sh2 : List xS} (nw : x_NW f.1.cls idx ci N fs) (hd : decode f.2.1 pc = .ok (.new idx, 3)) (hp : sh.length = p) (hn : p < x_N) (h0 : ∀ j, M p j = 0) (hsh : sh ++ [.inl (ci, fs)] = sh2) (e1 : kc + 1 = kc2) (e2 : ks + N = ks2) (h1 : kc2 ≤ mc) (h2 : ks2 ≤ ms) (k : x_X l G f d mc ms Q (pc + 3) ls (.ref p :: st) sh2 M J kc2 ks2) : x_X l G f d mc ms Q pc ls st sh M J kc ks := by
  subst hp; subst hsh; subst e1; subst e2
  exact xr_new nw hd hn h0 h1 h2 k
theorem xb_newI {t N p kc2 ks2 : Nat} {n : Int32} {atype : ArrayType} {sh2 : List xS} (ht : t < 2) (hty : newarray.typeOf atype = x_tyOf t) (hw : Cond.arrayClass (x_tyOf t) ∈ xU) (hd : decode f.2.1 pc = .ok (.newarray atype, 2)) (hn0 : ¬ n < 0) (hnN : n.toNatClampNeg = N) (hN : N ≤ 1000) (hp : sh.length = p) (hn : p < x_N) (h0 : ∀ j, M p j = 0) (hsh : sh ++ [.inr (t, N, fun _ => none)] = sh2) (e1 : kc + 1 = kc2) (e2 : ks + N = ks2) (h1 : kc2 ≤ mc) (h2 : ks2 ≤ ms) (k : x_X l G f d mc ms Q (pc + 2) ls (.ref p :: st) sh2 M J kc2 ks2) : x_X l G f d mc ms Q pc ls (.int n :: st) sh M J kc ks := by
  subst hp; subst hsh; subst e1; subst e2
  exact xr_newI ht hty hw hd hn0 hnN hN hn h0 h1 h2 k
theorem xb_newJ {N p kc2 ks2 : Nat} {n : Int32} {sh2 : List xS} (hw : Cond.arrayClass .long ∈ xU) (hd : decode f.2.1 pc = .ok (.newarray .long, 2)) (hn0 : ¬ n < 0) (hnN : n.toNatClampNeg = N) (hN : N ≤ 1000) (hp : sh.length = p) (hn : p < x_N) (h0 : ∀ j, J p j = 0) (hsh : sh ++ [.inr (2, N, fun _ => none)] = sh2) (e1 : kc + 1 = kc2) (e2 : ks + N = ks2) (h1 : kc2 ≤ mc) (h2 : ks2 ≤ ms) (k : x_X l G f d mc ms Q (pc + 2) ls (.ref p :: st) sh2 M J kc2 ks2) : x_X l G f d mc ms Q pc ls (.int n :: st) sh M J kc ks := by
  subst hp; subst hsh; subst e1; subst e2
  exact xr_newJ hw hd hn0 hnN hN hn h0 h1 h2 k
theorem xb_newq {t N p idx kc2 ks2 : Nat} {n : Int32} {C : String} {sh2 : List xS} (ht : (t = 3 ∧ C = RX2) ∨ (t = 4 ∧ C = RX6)) (hw : Cond.classLink f.1.cls idx C ∈ xU) (hd : decode f.2.1 pc = .ok (.anewarray idx, 3)) (hn0 : ¬ n < 0) (hnN : n.toNatClampNeg = N) (hN : N ≤ 1000) (hp : sh.length = p) (hn : p < x_N) (hsh : sh ++ [.inr (t, N, fun _ => none)] = sh2) (e1 : kc + 1 = kc2) (e2 : ks + N = ks2) (h1 : kc2 ≤ mc) (h2 : ks2 ≤ ms) (k : x_X l G f d mc ms Q (pc + 3) ls (.ref p :: st) sh2 M J kc2 ks2) : x_X l G f d mc ms Q pc ls (.int n :: st) sh M J kc ks := by
  subst hp; subst hsh; subst e1; subst e2
  exact xr_newq ht hw hd hn0 hnN hN hn h1 h2 k
theorem xb_putR {idx ci kf a q : Nat} {ty : FieldType} {o : Option (Option Nat)} {fs : List (Option (Option Nat))} {sh2 : List xS} (fl : x_FP f.1.cls idx ci kf true ty) (hfi : f.1.name = "<init>") (hd : decode f.2.1 pc = .ok (.putfield idx, 3)) (hs : sh[a]? = some (.inl (ci, fs))) (hk : fs[kf]? = some o) (hn : ∀ q, narrow ty (.ref q) = .ref q) (hf : ∀ q, fits ty (.ref q) = true) (hsh : sh.set a (.inl (ci, fs.set kf (some (some q)))) = sh2) (k : x_X l G f d mc ms Q (pc + 3) ls st sh2 M J kc ks) : x_X l G f d mc ms Q pc ls (.ref q :: .ref a :: st) sh M J kc ks := by
  subst hsh
  exact xr_putR fl hfi hd hs hk hn hf k
theorem xb_aast {a n t q ci j : Nat} {fs : List (Option (Option Nat))} {g : Nat → Option Nat} {sh2 : List xS} (ht : (t = 3 ∧ ci = 2) ∨ (t = 4 ∧ ci = 6)) (hd : decode f.2.1 pc = .ok (.aastore, 1)) (hs : sh[a]? = some (.inr (t, n, g))) (hq : sh[q]? = some (.inl (ci, fs))) (hj : j < n) (hn : n < 2 ^ 31) (hsh : sh.set a (.inr (t, n, va_up g j (some q))) = sh2) (k : x_X l G f d mc ms Q (pc + 1) ls st sh2 M J kc ks) : x_X l G f d mc ms Q pc ls (.ref q :: .int (nI j) :: .ref a :: st) sh M J kc ks := by
  subst hsh
  exact xr_aast ht hd hs hq (vp_in_nI hj hn) (by rw [nI_clamp (Nat.lt_trans hj hn)]; exact k)
theorem xb_cI {g : xF} {idx n a d' mc' ms' kc2 ks2 : Nat} {As rest : List Value} {sh' : List xS} {M' : xM} {J' : xJ} (mv : x_MI f.1.cls idx g n) (hg : x_M l G g d' mc' ms' (.ref a :: As) sh M J (qE none sh' M' J')) (hd : decode f.2.1 pc = .ok (.invokespecial idx, 3)) (hn : As.length = n) (hst : st = As.reverse ++ .ref a :: rest) (hcat : (rest.map fun v => v.category).sum ≤ 8) (hdd : d' + 1 ≤ d) (e1 : kc + mc' = kc2) (e2 : ks + ms' = ks2) (h1 : kc2 ≤ mc) (h2 : ks2 ≤ ms) (k : x_X l G f d mc ms Q (pc + 3) ls rest sh' M' J' kc2 ks2) : x_X l G f d mc ms Q pc ls st sh M J kc ks := by
  subst e1; subst e2
  exact xr_callI mv hg hd hn hst hcat hdd ⟨h1, h2⟩ (fun v sh2 M2 J2 hq => by obtain ⟨rfl, rfl, rfl, rfl⟩ := hq; exact k)
end XB
theorem x_cmp_lt {x y : Int64} : lg_cmp x y < 0 ↔ x < y := by
  unfold lg_cmp
  by_cases h : y < x
  · rw [if_pos h]; exact ⟨fun q => absurd q (by decide), fun q => absurd h (lg_lt_not q)⟩
  · rw [if_neg h]
    by_cases h2 : x = y
    · rw [if_pos h2]; subst h2; exact ⟨fun q => absurd q (by decide), fun q => absurd q h⟩
    · rw [if_neg h2]
      refine ⟨fun _ => ?_, fun _ => by decide⟩
      simp only [Int64.lt_iff_toInt_lt] at *
      have h3 : x.toInt ≠ y.toInt := fun q => h2 (Int64.toInt_inj.mp q)
      omega
theorem x_cmp_gt {x y : Int64} : 0 < lg_cmp x y ↔ y < x := by
  unfold lg_cmp
  by_cases h : y < x
  · rw [if_pos h]; exact ⟨fun _ => h, fun _ => by decide⟩
  · rw [if_neg h]
    by_cases h2 : x = y
    · rw [if_pos h2]; exact ⟨fun q => absurd q (by decide), fun q => absurd q h⟩
    · rw [if_neg h2]; exact ⟨fun q => absurd q (by decide), fun q => absurd q h⟩
theorem x_cmp_eq {x y : Int64} : lg_cmp x y = 0 ↔ x = y := by
  unfold lg_cmp
  by_cases h : y < x
  · rw [if_pos h]; exact ⟨fun q => absurd q (by decide), fun q => absurd h (by rw [q]; exact fun z => lg_lt_not z z)⟩
  · rw [if_neg h]
    by_cases h2 : x = y
    · rw [if_pos h2]; exact ⟨fun _ => h2, fun _ => rfl⟩
    · rw [if_neg h2]; exact ⟨fun q => absurd q (by decide), fun q => absurd q h2⟩
theorem x_i64_lt (a b : Int32) : a.toInt64 < b.toInt64 ↔ a < b := by simp only [Int64.lt_iff_toInt_lt, Int32.lt_iff_toInt_lt, Int32.toInt_toInt64]
theorem x_i64_le (a b : Int32) : a.toInt64 ≤ b.toInt64 ↔ a ≤ b := by simp only [Int64.le_iff_toInt_le, Int32.le_iff_toInt_le, Int32.toInt_toInt64]
theorem x_nat {v K : Int32} {N : Nat} (hN : N < 2 ^ 31) (hK : nI N = K) (h : 0 ≤ v ∧ v < K) : ∃ j : Nat, j < N ∧ v = nI j := by
  subst hK
  rcases pk_ix v hN with q | q | q
  · exact absurd h.1 (by grind)
  · exact absurd h.2 (by grind)
  · exact q
theorem x_natle {v K : Int32} {N : Nat} (hN : N + 1 < 2 ^ 31) (hK : nI N = K) (h : 0 ≤ v ∧ v ≤ K) : ∃ j : Nat, j ≤ N ∧ v = nI j := by
  have h3 : K.toInt = (N : Int) := by rw [← hK]; exact nI_toInt (by omega)
  exact nI_of2 h3 (by grind) h.2
/-- the answer alone -/
def qR (r : Option Value) : xQ := fun v _ _ _ => v = r
theorem x_bI_c {c e : Prop} [Decidable c] [Decidable e] (h : c ↔ e) : bI c = bI e := by unfold bI; simp only [h]
section XL
variable {l : Launch} {G : xG} {f : xF} {d mc ms : Nat} {Q : xQ} {pc : Nat} {ls : List (Nat × Value)} {st : List Value} {sh : List xS} {M : xM} {J : xJ} {kc ks : Nat} {x y : Int64} {off : Int} {tgt : Nat}
theorem xl_lt (hd : decode f.2.1 pc = .ok (.ifCond .lt off, 3)) (ht : (pc : Int) + off = (tgt : Int)) (kt : x < y → x_X l G f d mc ms Q tgt ls st sh M J kc ks) (kf : ¬ x < y → x_X l G f d mc ms Q (pc + 3) ls st sh M J kc ks) : x_X l G f d mc ms Q pc ls (.int (lg_cmp x y) :: st) sh M J kc ks :=
  xr_if_lt hd ht (fun h => kt (x_cmp_lt.mp h)) (fun h => kf (fun q => h (x_cmp_lt.mpr q)))
theorem xl_ge (hd : decode f.2.1 pc = .ok (.ifCond .ge off, 3)) (ht : (pc : Int) + off = (tgt : Int)) (kt : ¬ x < y → x_X l G f d mc ms Q tgt ls st sh M J kc ks) (kf : x < y → x_X l G f d mc ms Q (pc + 3) ls st sh M J kc ks) : x_X l G f d mc ms Q pc ls (.int (lg_cmp x y) :: st) sh M J kc ks :=
  xr_if_ge hd ht (fun h => kt (fun q => by have := x_cmp_lt.mpr q; grind)) (fun h => kf (x_cmp_lt.mp (by grind)))
theorem xl_gt (hd : decode f.2.1 pc = .ok (.ifCond .gt off, 3)) (ht : (pc : Int) + off = (tgt : Int)) (kt : y < x → x_X l G f d mc ms Q tgt ls st sh M J kc ks) (kf : ¬ y < x → x_X l G f d mc ms Q (pc + 3) ls st sh M J kc ks) : x_X l G f d mc ms Q pc ls (.int (lg_cmp x y) :: st) sh M J kc ks :=
  xr_if_gt hd ht (fun h => kt (x_cmp_gt.mp h)) (fun h => kf (fun q => h (x_cmp_gt.mpr q)))
theorem xl_le (hd : decode f.2.1 pc = .ok (.ifCond .le off, 3)) (ht : (pc : Int) + off = (tgt : Int)) (kt : ¬ y < x → x_X l G f d mc ms Q tgt ls st sh M J kc ks) (kf : y < x → x_X l G f d mc ms Q (pc + 3) ls st sh M J kc ks) : x_X l G f d mc ms Q pc ls (.int (lg_cmp x y) :: st) sh M J kc ks :=
  xr_if_le hd ht (fun h => kt (fun q => by have := x_cmp_gt.mpr q; grind)) (fun h => kf (x_cmp_gt.mp (by grind)))
theorem xl_eq (hd : decode f.2.1 pc = .ok (.ifCond .eq off, 3)) (ht : (pc : Int) + off = (tgt : Int)) (kt : x = y → x_X l G f d mc ms Q tgt ls st sh M J kc ks) (kf : ¬ x = y → x_X l G f d mc ms Q (pc + 3) ls st sh M J kc ks) : x_X l G f d mc ms Q pc ls (.int (lg_cmp x y) :: st) sh M J kc ks :=
  xr_if_eq hd ht (fun h => kt (x_cmp_eq.mp h)) (fun h => kf (fun q => h (x_cmp_eq.mpr q)))
theorem xl_ne (hd : decode f.2.1 pc = .ok (.ifCond .ne off, 3)) (ht : (pc : Int) + off = (tgt : Int)) (kt : ¬ x = y → x_X l G f d mc ms Q tgt ls st sh M J kc ks) (kf : x = y → x_X l G f d mc ms Q (pc + 3) ls st sh M J kc ks) : x_X l G f d mc ms Q pc ls (.int (lg_cmp x y) :: st) sh M J kc ks :=
  xr_if_ne hd ht (fun h => kt (fun q => h (x_cmp_eq.mpr q))) (fun h => kf (x_cmp_eq.mp h))
end XL
def x_M0 : xM := fun _ _ => 0
def x_J0 : xJ := fun _ _ => 0
theorem pX0 : plainName RX0 = true ∧ RX0 ≠ RL := ⟨by decide +kernel, by decide +kernel⟩
theorem pX1 : plainName RX1 = true ∧ RX1 ≠ RL := ⟨by decide +kernel, by decide +kernel⟩
theorem pX2 : plainName RX2 = true ∧ RX2 ≠ RL := ⟨by decide +kernel, by decide +kernel⟩
theorem pX3 : plainName RX3 = true ∧ RX3 ≠ RL := ⟨by decide +kernel, by decide +kernel⟩
theorem pX4 : plainName RX4 = true ∧ RX4 ≠ RL := ⟨by decide +kernel, by decide +kernel⟩
theorem pX5 : plainName RX5 = true ∧ RX5 ≠ RL := ⟨by decide +kernel, by decide +kernel⟩
theorem pX6 : plainName RX6 = true ∧ RX6 ≠ RL := ⟨by decide +kernel, by decide +kernel⟩
theorem pX7 : plainName RX7 = true ∧ RX7 ≠ RL := ⟨by decide +kernel, by decide +kernel⟩
theorem pX8 : plainName RX8 = true ∧ RX8 ≠ RL := ⟨by decide +kernel, by decide +kernel⟩
theorem pX9 : plainName RX9 = true ∧ RX9 ≠ RL := ⟨by decide +kernel, by decide +kernel⟩
theorem pX10 : plainName RX10 = true ∧ RX10 ≠ RL := ⟨by decide +kernel, by decide +kernel⟩
theorem pJ6 : plainName RJ6 = true ∧ RJ6 ≠ RL := ⟨by decide +kernel, by decide +kernel⟩
end
section
theorem dX9_isWeight_0 : decode cX9_isWeight 0 = .ok (.iload_n 0, 1) := by decide +kernel
theorem dX9_isWeight_1 : decode cX9_isWeight 1 = .ok (.iconst 1, 1) := by decide +kernel
theorem dX9_isWeight_2 : decode cX9_isWeight 2 = .ok (.if_icmp .lt 13, 3) := by decide +kernel
theorem dX9_isWeight_15 : decode cX9_isWeight 15 = .ok (.iconst 0, 1) := by decide +kernel
theorem dX9_isWeight_16 : decode cX9_isWeight 16 = .ok (.ireturn, 1) := by decide +kernel
theorem dX9_isWeight_5 : decode cX9_isWeight 5 = .ok (.iload_n 0, 1) := by decide +kernel
theorem dX9_isWeight_6 : decode cX9_isWeight 6 = .ok (.bipush 9, 2) := by decide +kernel
theorem dX9_isWeight_8 : decode cX9_isWeight 8 = .ok (.if_icmp .gt 7, 3) := by decide +kernel
theorem dX9_isWeight_11 : decode cX9_isWeight 11 = .ok (.iconst 1, 1) := by decide +kernel
theorem dX9_isWeight_12 : decode cX9_isWeight 12 = .ok (.goto 4, 3) := by decide +kernel
theorem dX9_isPace_0 : decode cX9_isPace 0 = .ok (.iload_n 0, 1) := by decide +kernel
theorem dX9_isPace_1 : decode cX9_isPace 1 = .ok (.bipush (-9), 2) := by decide +kernel
theorem dX9_isPace_3 : decode cX9_isPace 3 = .ok (.if_icmp .lt 13, 3) := by decide +kernel
theorem dX9_isPace_16 : decode cX9_isPace 16 = .ok (.iconst 0, 1) := by decide +kernel
theorem dX9_isPace_17 : decode cX9_isPace 17 = .ok (.ireturn, 1) := by decide +kernel
theorem dX9_isPace_6 : decode cX9_isPace 6 = .ok (.iload_n 0, 1) := by decide +kernel
theorem dX9_isPace_7 : decode cX9_isPace 7 = .ok (.bipush 9, 2) := by decide +kernel
theorem dX9_isPace_9 : decode cX9_isPace 9 = .ok (.if_icmp .gt 7, 3) := by decide +kernel
theorem dX9_isPace_12 : decode cX9_isPace 12 = .ok (.iconst 1, 1) := by decide +kernel
theorem dX9_isPace_13 : decode cX9_isPace 13 = .ok (.goto 4, 3) := by decide +kernel
theorem dX9_isShelf_0 : decode cX9_isShelf 0 = .ok (.iload_n 0, 1) := by decide +kernel
theorem dX9_isShelf_1 : decode cX9_isShelf 1 = .ok (.ifCond .lt 13, 3) := by decide +kernel
theorem dX9_isShelf_14 : decode cX9_isShelf 14 = .ok (.iconst 0, 1) := by decide +kernel
theorem dX9_isShelf_15 : decode cX9_isShelf 15 = .ok (.ireturn, 1) := by decide +kernel
theorem dX9_isShelf_4 : decode cX9_isShelf 4 = .ok (.iload_n 0, 1) := by decide +kernel
theorem dX9_isShelf_5 : decode cX9_isShelf 5 = .ok (.bipush 6, 2) := by decide +kernel
theorem dX9_isShelf_7 : decode cX9_isShelf 7 = .ok (.if_icmp .ge 7, 3) := by decide +kernel
theorem dX9_isShelf_10 : decode cX9_isShelf 10 = .ok (.iconst 1, 1) := by decide +kernel
theorem dX9_isShelf_11 : decode cX9_isShelf 11 = .ok (.goto 4, 3) := by decide +kernel
theorem dX9_isGirl_0 : decode cX9_isGirl 0 = .ok (.iload_n 0, 1) := by decide +kernel
theorem dX9_isGirl_1 : decode cX9_isGirl 1 = .ok (.ifCond .lt 13, 3) := by decide +kernel
theorem dX9_isGirl_14 : decode cX9_isGirl 14 = .ok (.iconst 0, 1) := by decide +kernel
theorem dX9_isGirl_15 : decode cX9_isGirl 15 = .ok (.ireturn, 1) := by decide +kernel
theorem dX9_isGirl_4 : decode cX9_isGirl 4 = .ok (.iload_n 0, 1) := by decide +kernel
theorem dX9_isGirl_5 : decode cX9_isGirl 5 = .ok (.bipush 25, 2) := by decide +kernel
theorem dX9_isGirl_7 : decode cX9_isGirl 7 = .ok (.if_icmp .ge 7, 3) := by decide +kernel
theorem dX9_isGirl_10 : decode cX9_isGirl 10 = .ok (.iconst 1, 1) := by decide +kernel
theorem dX9_isGirl_11 : decode cX9_isGirl 11 = .ok (.goto 4, 3) := by decide +kernel
theorem dX9_isSkill_0 : decode cX9_isSkill 0 = .ok (.iload_n 0, 1) := by decide +kernel
theorem dX9_isSkill_1 : decode cX9_isSkill 1 = .ok (.ifCond .lt 13, 3) := by decide +kernel
theorem dX9_isSkill_14 : decode cX9_isSkill 14 = .ok (.iconst 0, 1) := by decide +kernel
theorem dX9_isSkill_15 : decode cX9_isSkill 15 = .ok (.ireturn, 1) := by decide +kernel
theorem dX9_isSkill_4 : decode cX9_isSkill 4 = .ok (.iload_n 0, 1) := by decide +kernel
theorem dX9_isSkill_5 : decode cX9_isSkill 5 = .ok (.bipush 12, 2) := by decide +kernel
theorem dX9_isSkill_7 : decode cX9_isSkill 7 = .ok (.if_icmp .gt 7, 3) := by decide +kernel
theorem dX9_isSkill_10 : decode cX9_isSkill 10 = .ok (.iconst 1, 1) := by decide +kernel
theorem dX9_isSkill_11 : decode cX9_isSkill 11 = .ok (.goto 4, 3) := by decide +kernel
theorem dX9_isMinutes_0 : decode cX9_isMinutes 0 = .ok (.iload_n 0, 1) := by decide +kernel
theorem dX9_isMinutes_1 : decode cX9_isMinutes 1 = .ok (.iconst 1, 1) := by decide +kernel
theorem dX9_isMinutes_2 : decode cX9_isMinutes 2 = .ok (.if_icmp .lt 13, 3) := by decide +kernel
theorem dX9_isMinutes_15 : decode cX9_isMinutes 15 = .ok (.iconst 0, 1) := by decide +kernel
theorem dX9_isMinutes_16 : decode cX9_isMinutes 16 = .ok (.ireturn, 1) := by decide +kernel
theorem dX9_isMinutes_5 : decode cX9_isMinutes 5 = .ok (.iload_n 0, 1) := by decide +kernel
theorem dX9_isMinutes_6 : decode cX9_isMinutes 6 = .ok (.bipush 30, 2) := by decide +kernel
theorem dX9_isMinutes_8 : decode cX9_isMinutes 8 = .ok (.if_icmp .gt 7, 3) := by decide +kernel
theorem dX9_isMinutes_11 : decode cX9_isMinutes 11 = .ok (.iconst 1, 1) := by decide +kernel
theorem dX9_isMinutes_12 : decode cX9_isMinutes 12 = .ok (.goto 4, 3) := by decide +kernel
theorem dX9_isKind_0 : decode cX9_isKind 0 = .ok (.iload_n 0, 1) := by decide +kernel
theorem dX9_isKind_1 : decode cX9_isKind 1 = .ok (.ifCond .lt 13, 3) := by decide +kernel
theorem dX9_isKind_14 : decode cX9_isKind 14 = .ok (.iconst 0, 1) := by decide +kernel
theorem dX9_isKind_15 : decode cX9_isKind 15 = .ok (.ireturn, 1) := by decide +kernel
theorem dX9_isKind_4 : decode cX9_isKind 4 = .ok (.iload_n 0, 1) := by decide +kernel
theorem dX9_isKind_5 : decode cX9_isKind 5 = .ok (.bipush 8, 2) := by decide +kernel
theorem dX9_isKind_7 : decode cX9_isKind 7 = .ok (.if_icmp .ge 7, 3) := by decide +kernel
theorem dX9_isKind_10 : decode cX9_isKind 10 = .ok (.iconst 1, 1) := by decide +kernel
theorem dX9_isKind_11 : decode cX9_isKind 11 = .ok (.goto 4, 3) := by decide +kernel
theorem dX6_isSort_0 : decode cX6_isSort 0 = .ok (.iload_n 0, 1) := by decide +kernel
theorem dX6_isSort_1 : decode cX6_isSort 1 = .ok (.ifCond .lt 12, 3) := by decide +kernel
theorem dX6_isSort_13 : decode cX6_isSort 13 = .ok (.iconst 0, 1) := by decide +kernel
theorem dX6_isSort_14 : decode cX6_isSort 14 = .ok (.ireturn, 1) := by decide +kernel
theorem dX6_isSort_4 : decode cX6_isSort 4 = .ok (.iload_n 0, 1) := by decide +kernel
theorem dX6_isSort_5 : decode cX6_isSort 5 = .ok (.iconst 4, 1) := by decide +kernel
theorem dX6_isSort_6 : decode cX6_isSort 6 = .ok (.if_icmp .gt 7, 3) := by decide +kernel
theorem dX6_isSort_9 : decode cX6_isSort 9 = .ok (.iconst 1, 1) := by decide +kernel
theorem dX6_isSort_10 : decode cX6_isSort 10 = .ok (.goto 4, 3) := by decide +kernel
theorem dX10_within_0 : decode cX10_within 0 = .ok (.lload_n 0, 1) := by decide +kernel
theorem dX10_within_1 : decode cX10_within 1 = .ok (.lload_n 2, 1) := by decide +kernel
theorem dX10_within_2 : decode cX10_within 2 = .ok (.lcmp, 1) := by decide +kernel
theorem dX10_within_3 : decode cX10_within 3 = .ok (.ifCond .lt 14, 3) := by decide +kernel
theorem dX10_within_17 : decode cX10_within 17 = .ok (.iconst 0, 1) := by decide +kernel
theorem dX10_within_18 : decode cX10_within 18 = .ok (.ireturn, 1) := by decide +kernel
theorem dX10_within_6 : decode cX10_within 6 = .ok (.lload_n 0, 1) := by decide +kernel
theorem dX10_within_7 : decode cX10_within 7 = .ok (.lload 4, 2) := by decide +kernel
theorem dX10_within_9 : decode cX10_within 9 = .ok (.lcmp, 1) := by decide +kernel
theorem dX10_within_10 : decode cX10_within 10 = .ok (.ifCond .gt 7, 3) := by decide +kernel
theorem dX10_within_13 : decode cX10_within 13 = .ok (.iconst 1, 1) := by decide +kernel
theorem dX10_within_14 : decode cX10_within 14 = .ok (.goto 4, 3) := by decide +kernel
theorem dX10_isGirl_0 : decode cX10_isGirl 0 = .ok (.iload_n 0, 1) := by decide +kernel
theorem dX10_isGirl_1 : decode cX10_isGirl 1 = .ok (.i2l, 1) := by decide +kernel
theorem dX10_isGirl_2 : decode cX10_isGirl 2 = .ok (.lconst 0, 1) := by decide +kernel
theorem dX10_isGirl_3 : decode cX10_isGirl 3 = .ok (.ldc2_w 158, 3) := by decide +kernel
theorem dX10_isGirl_6 : decode cX10_isGirl 6 = .ok (.invokestatic 101, 3) := by decide +kernel
theorem dX10_isGirl_9 : decode cX10_isGirl 9 = .ok (.ireturn, 1) := by decide +kernel
theorem dX10_isShelf_0 : decode cX10_isShelf 0 = .ok (.iload_n 0, 1) := by decide +kernel
theorem dX10_isShelf_1 : decode cX10_isShelf 1 = .ok (.i2l, 1) := by decide +kernel
theorem dX10_isShelf_2 : decode cX10_isShelf 2 = .ok (.lconst 0, 1) := by decide +kernel
theorem dX10_isShelf_3 : decode cX10_isShelf 3 = .ok (.ldc2_w 129, 3) := by decide +kernel
theorem dX10_isShelf_6 : decode cX10_isShelf 6 = .ok (.invokestatic 101, 3) := by decide +kernel
theorem dX10_isShelf_9 : decode cX10_isShelf 9 = .ok (.ireturn, 1) := by decide +kernel
set_option maxRecDepth 100000 in
set_option maxHeartbeats 4000000 in
theorem c_X9_isWeight (v : Int32) {l : Launch} {G : xG} {sh : List xS} {M : xM} {J : xJ} : x_M l G fX9_isWeight 0 0 0 [.int (v)] sh M J (qE (some (.int (bI (1 ≤ v ∧ v ≤ 9)))) sh M J) := by
  refine xb_of pX9 (Nat.le_of_ble_eq_true rfl) rfl ?_
  refine xr_iload_n dX9_isWeight_0 0 rfl ?_
  refine xr_iconst (v := 1) dX9_isWeight_1 rfl ?_
  refine xr_icmp_lt (tgt := 15) dX9_isWeight_2 rfl (fun c1 => ?_) (fun c1 => ?_)
  · refine xr_iconst (v := 0) dX9_isWeight_15 rfl ?_
    exact xr_iret dX9_isWeight_16 rfl rfl (⟨congrArg (fun z => some (Value.int z)) (bI_f (by grind)).symm, rfl, rfl, rfl⟩)
  · refine xr_iload_n dX9_isWeight_5 0 rfl ?_
    refine xr_bipush (v := 9) dX9_isWeight_6 rfl ?_
    refine xr_icmp_gt (tgt := 15) dX9_isWeight_8 rfl (fun c2 => ?_) (fun c2 => ?_)
    · refine xr_iconst (v := 0) dX9_isWeight_15 rfl ?_
      exact xr_iret dX9_isWeight_16 rfl rfl (⟨congrArg (fun z => some (Value.int z)) (bI_f (by grind)).symm, rfl, rfl, rfl⟩)
    · refine xr_iconst (v := 1) dX9_isWeight_11 rfl ?_
      refine xr_goto (tgt := 16) dX9_isWeight_12 rfl ?_
      exact xr_iret dX9_isWeight_16 rfl rfl (⟨congrArg (fun z => some (Value.int z)) (bI_t (by grind)).symm, rfl, rfl, rfl⟩)
set_option maxRecDepth 100000 in
set_option maxHeartbeats 4000000 in
theorem c_X9_isPace (v : Int32) {l : Launch} {G : xG} {sh : List xS} {M : xM} {J : xJ} : x_M l G fX9_isPace 0 0 0 [.int (v)] sh M J (qE (some (.int (bI (-9 ≤ v ∧ v ≤ 9)))) sh M J) := by
  refine xb_of pX9 (Nat.le_of_ble_eq_true rfl) rfl ?_
  refine xr_iload_n dX9_isPace_0 0 rfl ?_
  refine xr_bipush (v := -9) dX9_isPace_1 rfl ?_
  refine xr_icmp_lt (tgt := 16) dX9_isPace_3 rfl (fun c1 => ?_) (fun c1 => ?_)
  · refine xr_iconst (v := 0) dX9_isPace_16 rfl ?_
    exact xr_iret dX9_isPace_17 rfl rfl (⟨congrArg (fun z => some (Value.int z)) (bI_f (by grind)).symm, rfl, rfl, rfl⟩)
  · refine xr_iload_n dX9_isPace_6 0 rfl ?_
    refine xr_bipush (v := 9) dX9_isPace_7 rfl ?_
    refine xr_icmp_gt (tgt := 16) dX9_isPace_9 rfl (fun c2 => ?_) (fun c2 => ?_)
    · refine xr_iconst (v := 0) dX9_isPace_16 rfl ?_
      exact xr_iret dX9_isPace_17 rfl rfl (⟨congrArg (fun z => some (Value.int z)) (bI_f (by grind)).symm, rfl, rfl, rfl⟩)
    · refine xr_iconst (v := 1) dX9_isPace_12 rfl ?_
      refine xr_goto (tgt := 17) dX9_isPace_13 rfl ?_
      exact xr_iret dX9_isPace_17 rfl rfl (⟨congrArg (fun z => some (Value.int z)) (bI_t (by grind)).symm, rfl, rfl, rfl⟩)
set_option maxRecDepth 100000 in
set_option maxHeartbeats 4000000 in
theorem c_X9_isShelf (v : Int32) {l : Launch} {G : xG} {sh : List xS} {M : xM} {J : xJ} : x_M l G fX9_isShelf 0 0 0 [.int (v)] sh M J (qE (some (.int (bI (0 ≤ v ∧ v < 6)))) sh M J) := by
  refine xb_of pX9 (Nat.le_of_ble_eq_true rfl) rfl ?_
  refine xr_iload_n dX9_isShelf_0 0 rfl ?_
  refine xr_if_lt (tgt := 14) dX9_isShelf_1 rfl (fun c1 => ?_) (fun c1 => ?_)
  · refine xr_iconst (v := 0) dX9_isShelf_14 rfl ?_
    exact xr_iret dX9_isShelf_15 rfl rfl (⟨congrArg (fun z => some (Value.int z)) (bI_f (by grind)).symm, rfl, rfl, rfl⟩)
  · refine xr_iload_n dX9_isShelf_4 0 rfl ?_
    refine xr_bipush (v := 6) dX9_isShelf_5 rfl ?_
    refine xr_icmp_ge (tgt := 14) dX9_isShelf_7 rfl (fun c2 => ?_) (fun c2 => ?_)
    · refine xr_iconst (v := 0) dX9_isShelf_14 rfl ?_
      exact xr_iret dX9_isShelf_15 rfl rfl (⟨congrArg (fun z => some (Value.int z)) (bI_f (by grind)).symm, rfl, rfl, rfl⟩)
    · refine xr_iconst (v := 1) dX9_isShelf_10 rfl ?_
      refine xr_goto (tgt := 15) dX9_isShelf_11 rfl ?_
      exact xr_iret dX9_isShelf_15 rfl rfl (⟨congrArg (fun z => some (Value.int z)) (bI_t (by grind)).symm, rfl, rfl, rfl⟩)
set_option maxRecDepth 100000 in
set_option maxHeartbeats 4000000 in
theorem c_X9_isGirl (v : Int32) {l : Launch} {G : xG} {sh : List xS} {M : xM} {J : xJ} : x_M l G fX9_isGirl 0 0 0 [.int (v)] sh M J (qE (some (.int (bI (0 ≤ v ∧ v < 25)))) sh M J) := by
  refine xb_of pX9 (Nat.le_of_ble_eq_true rfl) rfl ?_
  refine xr_iload_n dX9_isGirl_0 0 rfl ?_
  refine xr_if_lt (tgt := 14) dX9_isGirl_1 rfl (fun c1 => ?_) (fun c1 => ?_)
  · refine xr_iconst (v := 0) dX9_isGirl_14 rfl ?_
    exact xr_iret dX9_isGirl_15 rfl rfl (⟨congrArg (fun z => some (Value.int z)) (bI_f (by grind)).symm, rfl, rfl, rfl⟩)
  · refine xr_iload_n dX9_isGirl_4 0 rfl ?_
    refine xr_bipush (v := 25) dX9_isGirl_5 rfl ?_
    refine xr_icmp_ge (tgt := 14) dX9_isGirl_7 rfl (fun c2 => ?_) (fun c2 => ?_)
    · refine xr_iconst (v := 0) dX9_isGirl_14 rfl ?_
      exact xr_iret dX9_isGirl_15 rfl rfl (⟨congrArg (fun z => some (Value.int z)) (bI_f (by grind)).symm, rfl, rfl, rfl⟩)
    · refine xr_iconst (v := 1) dX9_isGirl_10 rfl ?_
      refine xr_goto (tgt := 15) dX9_isGirl_11 rfl ?_
      exact xr_iret dX9_isGirl_15 rfl rfl (⟨congrArg (fun z => some (Value.int z)) (bI_t (by grind)).symm, rfl, rfl, rfl⟩)
set_option maxRecDepth 100000 in
set_option maxHeartbeats 4000000 in
theorem c_X9_isSkill (v : Int32) {l : Launch} {G : xG} {sh : List xS} {M : xM} {J : xJ} : x_M l G fX9_isSkill 0 0 0 [.int (v)] sh M J (qE (some (.int (bI (0 ≤ v ∧ v ≤ 12)))) sh M J) := by
  refine xb_of pX9 (Nat.le_of_ble_eq_true rfl) rfl ?_
  refine xr_iload_n dX9_isSkill_0 0 rfl ?_
  refine xr_if_lt (tgt := 14) dX9_isSkill_1 rfl (fun c1 => ?_) (fun c1 => ?_)
  · refine xr_iconst (v := 0) dX9_isSkill_14 rfl ?_
    exact xr_iret dX9_isSkill_15 rfl rfl (⟨congrArg (fun z => some (Value.int z)) (bI_f (by grind)).symm, rfl, rfl, rfl⟩)
  · refine xr_iload_n dX9_isSkill_4 0 rfl ?_
    refine xr_bipush (v := 12) dX9_isSkill_5 rfl ?_
    refine xr_icmp_gt (tgt := 14) dX9_isSkill_7 rfl (fun c2 => ?_) (fun c2 => ?_)
    · refine xr_iconst (v := 0) dX9_isSkill_14 rfl ?_
      exact xr_iret dX9_isSkill_15 rfl rfl (⟨congrArg (fun z => some (Value.int z)) (bI_f (by grind)).symm, rfl, rfl, rfl⟩)
    · refine xr_iconst (v := 1) dX9_isSkill_10 rfl ?_
      refine xr_goto (tgt := 15) dX9_isSkill_11 rfl ?_
      exact xr_iret dX9_isSkill_15 rfl rfl (⟨congrArg (fun z => some (Value.int z)) (bI_t (by grind)).symm, rfl, rfl, rfl⟩)
set_option maxRecDepth 100000 in
set_option maxHeartbeats 4000000 in
theorem c_X9_isMinutes (v : Int32) {l : Launch} {G : xG} {sh : List xS} {M : xM} {J : xJ} : x_M l G fX9_isMinutes 0 0 0 [.int (v)] sh M J (qE (some (.int (bI (1 ≤ v ∧ v ≤ 30)))) sh M J) := by
  refine xb_of pX9 (Nat.le_of_ble_eq_true rfl) rfl ?_
  refine xr_iload_n dX9_isMinutes_0 0 rfl ?_
  refine xr_iconst (v := 1) dX9_isMinutes_1 rfl ?_
  refine xr_icmp_lt (tgt := 15) dX9_isMinutes_2 rfl (fun c1 => ?_) (fun c1 => ?_)
  · refine xr_iconst (v := 0) dX9_isMinutes_15 rfl ?_
    exact xr_iret dX9_isMinutes_16 rfl rfl (⟨congrArg (fun z => some (Value.int z)) (bI_f (by grind)).symm, rfl, rfl, rfl⟩)
  · refine xr_iload_n dX9_isMinutes_5 0 rfl ?_
    refine xr_bipush (v := 30) dX9_isMinutes_6 rfl ?_
    refine xr_icmp_gt (tgt := 15) dX9_isMinutes_8 rfl (fun c2 => ?_) (fun c2 => ?_)
    · refine xr_iconst (v := 0) dX9_isMinutes_15 rfl ?_
      exact xr_iret dX9_isMinutes_16 rfl rfl (⟨congrArg (fun z => some (Value.int z)) (bI_f (by grind)).symm, rfl, rfl, rfl⟩)
    · refine xr_iconst (v := 1) dX9_isMinutes_11 rfl ?_
      refine xr_goto (tgt := 16) dX9_isMinutes_12 rfl ?_
      exact xr_iret dX9_isMinutes_16 rfl rfl (⟨congrArg (fun z => some (Value.int z)) (bI_t (by grind)).symm, rfl, rfl, rfl⟩)
set_option maxRecDepth 100000 in
set_option maxHeartbeats 4000000 in
theorem c_X9_isKind (v : Int32) {l : Launch} {G : xG} {sh : List xS} {M : xM} {J : xJ} : x_M l G fX9_isKind 0 0 0 [.int (v)] sh M J (qE (some (.int (bI (0 ≤ v ∧ v < 8)))) sh M J) := by
  refine xb_of pX9 (Nat.le_of_ble_eq_true rfl) rfl ?_
  refine xr_iload_n dX9_isKind_0 0 rfl ?_
  refine xr_if_lt (tgt := 14) dX9_isKind_1 rfl (fun c1 => ?_) (fun c1 => ?_)
  · refine xr_iconst (v := 0) dX9_isKind_14 rfl ?_
    exact xr_iret dX9_isKind_15 rfl rfl (⟨congrArg (fun z => some (Value.int z)) (bI_f (by grind)).symm, rfl, rfl, rfl⟩)
  · refine xr_iload_n dX9_isKind_4 0 rfl ?_
    refine xr_bipush (v := 8) dX9_isKind_5 rfl ?_
    refine xr_icmp_ge (tgt := 14) dX9_isKind_7 rfl (fun c2 => ?_) (fun c2 => ?_)
    · refine xr_iconst (v := 0) dX9_isKind_14 rfl ?_
      exact xr_iret dX9_isKind_15 rfl rfl (⟨congrArg (fun z => some (Value.int z)) (bI_f (by grind)).symm, rfl, rfl, rfl⟩)
    · refine xr_iconst (v := 1) dX9_isKind_10 rfl ?_
      refine xr_goto (tgt := 15) dX9_isKind_11 rfl ?_
      exact xr_iret dX9_isKind_15 rfl rfl (⟨congrArg (fun z => some (Value.int z)) (bI_t (by grind)).symm, rfl, rfl, rfl⟩)
set_option maxRecDepth 100000 in
set_option maxHeartbeats 4000000 in
theorem c_X6_isSort (v : Int32) {l : Launch} {G : xG} {sh : List xS} {M : xM} {J : xJ} : x_M l G fX6_isSort 0 0 0 [.int (v)] sh M J (qE (some (.int (bI (0 ≤ v ∧ v ≤ 4)))) sh M J) := by
  refine xb_of pX6 (Nat.le_of_ble_eq_true rfl) rfl ?_
  refine xr_iload_n dX6_isSort_0 0 rfl ?_
  refine xr_if_lt (tgt := 13) dX6_isSort_1 rfl (fun c1 => ?_) (fun c1 => ?_)
  · refine xr_iconst (v := 0) dX6_isSort_13 rfl ?_
    exact xr_iret dX6_isSort_14 rfl rfl (⟨congrArg (fun z => some (Value.int z)) (bI_f (by grind)).symm, rfl, rfl, rfl⟩)
  · refine xr_iload_n dX6_isSort_4 0 rfl ?_
    refine xr_iconst (v := 4) dX6_isSort_5 rfl ?_
    refine xr_icmp_gt (tgt := 13) dX6_isSort_6 rfl (fun c2 => ?_) (fun c2 => ?_)
    · refine xr_iconst (v := 0) dX6_isSort_13 rfl ?_
      exact xr_iret dX6_isSort_14 rfl rfl (⟨congrArg (fun z => some (Value.int z)) (bI_f (by grind)).symm, rfl, rfl, rfl⟩)
    · refine xr_iconst (v := 1) dX6_isSort_9 rfl ?_
      refine xr_goto (tgt := 14) dX6_isSort_10 rfl ?_
      exact xr_iret dX6_isSort_14 rfl rfl (⟨congrArg (fun z => some (Value.int z)) (bI_t (by grind)).symm, rfl, rfl, rfl⟩)
set_option maxRecDepth 100000 in
set_option maxHeartbeats 4000000 in
theorem c_X10_within (v a b : Int64) {l : Launch} {G : xG} {sh : List xS} {M : xM} {J : xJ} : x_M l G fX10_within 0 0 0 [.long (v), .long (a), .long (b)] sh M J (qE (some (.int (bI (a ≤ v ∧ v ≤ b)))) sh M J) := by
  refine xb_of pX10 (Nat.le_of_ble_eq_true rfl) rfl ?_
  refine xr_lload_n dX10_within_0 0 rfl ?_
  refine xr_lload_n dX10_within_1 1 rfl ?_
  refine xr_lcmp dX10_within_2 ?_
  refine xl_lt (tgt := 17) dX10_within_3 rfl (fun c1 => ?_) (fun c1 => ?_)
  · refine xr_iconst (v := 0) dX10_within_17 rfl ?_
    exact xr_iret dX10_within_18 rfl rfl (⟨congrArg (fun z => some (Value.int z)) (bI_f (by grind)).symm, rfl, rfl, rfl⟩)
  · refine xr_lload_n dX10_within_6 0 rfl ?_
    refine xr_lload dX10_within_7 2 rfl ?_
    refine xr_lcmp dX10_within_9 ?_
    refine xl_gt (tgt := 17) dX10_within_10 rfl (fun c2 => ?_) (fun c2 => ?_)
    · refine xr_iconst (v := 0) dX10_within_17 rfl ?_
      exact xr_iret dX10_within_18 rfl rfl (⟨congrArg (fun z => some (Value.int z)) (bI_f (by grind)).symm, rfl, rfl, rfl⟩)
    · refine xr_iconst (v := 1) dX10_within_13 rfl ?_
      refine xr_goto (tgt := 18) dX10_within_14 rfl ?_
      exact xr_iret dX10_within_18 rfl rfl (⟨congrArg (fun z => some (Value.int z)) (bI_t (by grind)).symm, rfl, rfl, rfl⟩)
theorem c_within32 (v a b : Int32) {A B : Int64} (hA : a.toInt64 = A) (hB : b.toInt64 = B) {l : Launch} {G : xG} {sh : List xS} {M : xM} {J : xJ} : x_M l G fX10_within 0 0 0 [.long v.toInt64, .long A, .long B] sh M J (qE (some (.int (bI (a ≤ v ∧ v ≤ b)))) sh M J) := by
  subst hA; subst hB
  rw [show bI (a ≤ v ∧ v ≤ b) = bI (a.toInt64 ≤ v.toInt64 ∧ v.toInt64 ≤ b.toInt64) from x_bI_c (by rw [x_i64_le, x_i64_le])]
  exact c_X10_within _ _ _
set_option maxRecDepth 100000 in
set_option maxHeartbeats 4000000 in
theorem c_X10_isGirl (v : Int32) {l : Launch} {G : xG} {sh : List xS} {M : xM} {J : xJ} : x_M l G fX10_isGirl 1 0 0 [.int (v)] sh M J (qE (some (.int (bI (0 ≤ v ∧ v ≤ 24)))) sh M J) := by
  refine xb_of pX10 (Nat.le_of_ble_eq_true rfl) rfl ?_
  refine xr_iload_n dX10_isGirl_0 0 rfl ?_
  refine xr_i2l dX10_isGirl_1 ?_
  refine xr_lconst (v := 0) dX10_isGirl_2 rfl ?_
  refine xr_ldc2 coX10_158 dX10_isGirl_3 ?_
  refine xb_cS (As := [.long ((v).toInt64), .long (0), .long (24)]) (rest := []) mlX10_101 (c_within32 (v) (0) (24) (by decide) (by decide)) dX10_isGirl_6 rfl rfl (Nat.le_of_ble_eq_true rfl) (by decide) (by decide) ?_
  exact xr_iret dX10_isGirl_9 rfl (bI_n _) (⟨rfl, rfl, rfl, rfl⟩)
set_option maxRecDepth 100000 in
set_option maxHeartbeats 4000000 in
theorem c_X10_isShelf (v : Int32) {l : Launch} {G : xG} {sh : List xS} {M : xM} {J : xJ} : x_M l G fX10_isShelf 1 0 0 [.int (v)] sh M J (qE (some (.int (bI (0 ≤ v ∧ v ≤ 5)))) sh M J) := by
  refine xb_of pX10 (Nat.le_of_ble_eq_true rfl) rfl ?_
  refine xr_iload_n dX10_isShelf_0 0 rfl ?_
  refine xr_i2l dX10_isShelf_1 ?_
  refine xr_lconst (v := 0) dX10_isShelf_2 rfl ?_
  refine xr_ldc2 coX10_129 dX10_isShelf_3 ?_
  refine xb_cS (As := [.long ((v).toInt64), .long (0), .long (5)]) (rest := []) mlX10_101 (c_within32 (v) (0) (5) (by decide) (by decide)) dX10_isShelf_6 rfl rfl (Nat.le_of_ble_eq_true rfl) (by decide) (by decide) ?_
  exact xr_iret dX10_isShelf_9 rfl (bI_n _) (⟨rfl, rfl, rfl, rfl⟩)
end
section
theorem dX6_isEmpty_0 : decode cX6_isEmpty 0 = .ok (.aload_n 0, 1) := by decide +kernel
theorem dX6_isEmpty_1 : decode cX6_isEmpty 1 = .ok (.getfield 15, 3) := by decide +kernel
theorem dX6_isEmpty_4 : decode cX6_isEmpty 4 = .ok (.ifCond .ne 7, 3) := by decide +kernel
theorem dX6_isEmpty_11 : decode cX6_isEmpty 11 = .ok (.iconst 0, 1) := by decide +kernel
theorem dX6_isEmpty_12 : decode cX6_isEmpty 12 = .ok (.ireturn, 1) := by decide +kernel
theorem dX6_isEmpty_7 : decode cX6_isEmpty 7 = .ok (.iconst 1, 1) := by decide +kernel
theorem dX6_isEmpty_8 : decode cX6_isEmpty 8 = .ok (.goto 4, 3) := by decide +kernel
theorem dX6_isTurn_0 : decode cX6_isTurn 0 = .ok (.aload_n 0, 1) := by decide +kernel
theorem dX6_isTurn_1 : decode cX6_isTurn 1 = .ok (.getfield 15, 3) := by decide +kernel
theorem dX6_isTurn_4 : decode cX6_isTurn 4 = .ok (.iconst 1, 1) := by decide +kernel
theorem dX6_isTurn_5 : decode cX6_isTurn 5 = .ok (.if_icmp .ne 7, 3) := by decide +kernel
theorem dX6_isTurn_12 : decode cX6_isTurn 12 = .ok (.iconst 0, 1) := by decide +kernel
theorem dX6_isTurn_13 : decode cX6_isTurn 13 = .ok (.ireturn, 1) := by decide +kernel
theorem dX6_isTurn_8 : decode cX6_isTurn 8 = .ok (.iconst 1, 1) := by decide +kernel
theorem dX6_isTurn_9 : decode cX6_isTurn 9 = .ok (.goto 4, 3) := by decide +kernel
theorem dX6_isRow_0 : decode cX6_isRow 0 = .ok (.aload_n 0, 1) := by decide +kernel
theorem dX6_isRow_1 : decode cX6_isRow 1 = .ok (.getfield 15, 3) := by decide +kernel
theorem dX6_isRow_4 : decode cX6_isRow 4 = .ok (.iconst 2, 1) := by decide +kernel
theorem dX6_isRow_5 : decode cX6_isRow 5 = .ok (.if_icmp .ne 7, 3) := by decide +kernel
theorem dX6_isRow_12 : decode cX6_isRow 12 = .ok (.iconst 0, 1) := by decide +kernel
theorem dX6_isRow_13 : decode cX6_isRow 13 = .ok (.ireturn, 1) := by decide +kernel
theorem dX6_isRow_8 : decode cX6_isRow 8 = .ok (.iconst 1, 1) := by decide +kernel
theorem dX6_isRow_9 : decode cX6_isRow 9 = .ok (.goto 4, 3) := by decide +kernel
theorem dX6_hasBytes_0 : decode cX6_hasBytes 0 = .ok (.aload_n 0, 1) := by decide +kernel
theorem dX6_hasBytes_1 : decode cX6_hasBytes 1 = .ok (.invokevirtual 19, 3) := by decide +kernel
theorem dX6_hasBytes_4 : decode cX6_hasBytes 4 = .ok (.ifCond .eq 14, 3) := by decide +kernel
theorem dX6_hasBytes_18 : decode cX6_hasBytes 18 = .ok (.iconst 0, 1) := by decide +kernel
theorem dX6_hasBytes_19 : decode cX6_hasBytes 19 = .ok (.ireturn, 1) := by decide +kernel
theorem dX6_hasBytes_7 : decode cX6_hasBytes 7 = .ok (.aload_n 0, 1) := by decide +kernel
theorem dX6_hasBytes_8 : decode cX6_hasBytes 8 = .ok (.getfield 23, 3) := by decide +kernel
theorem dX6_hasBytes_11 : decode cX6_hasBytes 11 = .ok (.ifCond .ne 7, 3) := by decide +kernel
theorem dX6_hasBytes_14 : decode cX6_hasBytes 14 = .ok (.iconst 1, 1) := by decide +kernel
theorem dX6_hasBytes_15 : decode cX6_hasBytes 15 = .ok (.goto 4, 3) := by decide +kernel
theorem dX6_holdNothing_0 : decode cX6_holdNothing 0 = .ok (.aload_n 0, 1) := by decide +kernel
theorem dX6_holdNothing_1 : decode cX6_holdNothing 1 = .ok (.iconst 0, 1) := by decide +kernel
theorem dX6_holdNothing_2 : decode cX6_holdNothing 2 = .ok (.putfield 15, 3) := by decide +kernel
theorem dX6_holdNothing_5 : decode cX6_holdNothing 5 = .ok (.aload_n 0, 1) := by decide +kernel
theorem dX6_holdNothing_6 : decode cX6_holdNothing 6 = .ok (.iconst 0, 1) := by decide +kernel
theorem dX6_holdNothing_7 : decode cX6_holdNothing 7 = .ok (.putfield 26, 3) := by decide +kernel
theorem dX6_holdNothing_10 : decode cX6_holdNothing 10 = .ok (.return_, 1) := by decide +kernel
theorem dX6_holdTurn_0 : decode cX6_holdTurn 0 = .ok (.aload_n 0, 1) := by decide +kernel
theorem dX6_holdTurn_1 : decode cX6_holdTurn 1 = .ok (.iconst 1, 1) := by decide +kernel
theorem dX6_holdTurn_2 : decode cX6_holdTurn 2 = .ok (.putfield 15, 3) := by decide +kernel
theorem dX6_holdTurn_5 : decode cX6_holdTurn 5 = .ok (.aload_n 0, 1) := by decide +kernel
theorem dX6_holdTurn_6 : decode cX6_holdTurn 6 = .ok (.iload_n 1, 1) := by decide +kernel
theorem dX6_holdTurn_7 : decode cX6_holdTurn 7 = .ok (.putfield 29, 3) := by decide +kernel
theorem dX6_holdTurn_10 : decode cX6_holdTurn 10 = .ok (.aload_n 0, 1) := by decide +kernel
theorem dX6_holdTurn_11 : decode cX6_holdTurn 11 = .ok (.iconst 0, 1) := by decide +kernel
theorem dX6_holdTurn_12 : decode cX6_holdTurn 12 = .ok (.putfield 26, 3) := by decide +kernel
theorem dX6_holdTurn_15 : decode cX6_holdTurn 15 = .ok (.return_, 1) := by decide +kernel
theorem dX6_bytesRefusal_0 : decode cX6_bytesRefusal 0 = .ok (.aload_n 0, 1) := by decide +kernel
theorem dX6_bytesRefusal_1 : decode cX6_bytesRefusal 1 = .ok (.invokevirtual 32, 3) := by decide +kernel
theorem dX6_bytesRefusal_4 : decode cX6_bytesRefusal 4 = .ok (.ifCond .eq 6, 3) := by decide +kernel
theorem dX6_bytesRefusal_10 : decode cX6_bytesRefusal 10 = .ok (.aload_n 0, 1) := by decide +kernel
theorem dX6_bytesRefusal_11 : decode cX6_bytesRefusal 11 = .ok (.invokevirtual 35, 3) := by decide +kernel
theorem dX6_bytesRefusal_14 : decode cX6_bytesRefusal 14 = .ok (.ifCond .eq 7, 3) := by decide +kernel
theorem dX6_bytesRefusal_21 : decode cX6_bytesRefusal 21 = .ok (.bipush (-12), 2) := by decide +kernel
theorem dX6_bytesRefusal_23 : decode cX6_bytesRefusal 23 = .ok (.ireturn, 1) := by decide +kernel
theorem dX6_bytesRefusal_17 : decode cX6_bytesRefusal 17 = .ok (.iconst 0, 1) := by decide +kernel
theorem dX6_bytesRefusal_18 : decode cX6_bytesRefusal 18 = .ok (.goto 5, 3) := by decide +kernel
theorem dX6_bytesRefusal_7 : decode cX6_bytesRefusal 7 = .ok (.bipush (-11), 2) := by decide +kernel
theorem dX6_bytesRefusal_9 : decode cX6_bytesRefusal 9 = .ok (.ireturn, 1) := by decide +kernel
theorem dX6_placeRefusal_0 : decode cX6_placeRefusal 0 = .ok (.aload_n 0, 1) := by decide +kernel
theorem dX6_placeRefusal_1 : decode cX6_placeRefusal 1 = .ok (.invokevirtual 32, 3) := by decide +kernel
theorem dX6_placeRefusal_4 : decode cX6_placeRefusal 4 = .ok (.ifCond .eq 6, 3) := by decide +kernel
theorem dX6_placeRefusal_10 : decode cX6_placeRefusal 10 = .ok (.aload_n 0, 1) := by decide +kernel
theorem dX6_placeRefusal_11 : decode cX6_placeRefusal 11 = .ok (.invokevirtual 19, 3) := by decide +kernel
theorem dX6_placeRefusal_14 : decode cX6_placeRefusal 14 = .ok (.ifCond .ne 6, 3) := by decide +kernel
theorem dX6_placeRefusal_20 : decode cX6_placeRefusal 20 = .ok (.iload_n 1, 1) := by decide +kernel
theorem dX6_placeRefusal_21 : decode cX6_placeRefusal 21 = .ok (.ifCond .lt 15, 3) := by decide +kernel
theorem dX6_placeRefusal_36 : decode cX6_placeRefusal 36 = .ok (.bipush (-13), 2) := by decide +kernel
theorem dX6_placeRefusal_38 : decode cX6_placeRefusal 38 = .ok (.ireturn, 1) := by decide +kernel
theorem dX6_placeRefusal_24 : decode cX6_placeRefusal 24 = .ok (.iload_n 1, 1) := by decide +kernel
theorem dX6_placeRefusal_25 : decode cX6_placeRefusal 25 = .ok (.aload_n 0, 1) := by decide +kernel
theorem dX6_placeRefusal_26 : decode cX6_placeRefusal 26 = .ok (.getfield 26, 3) := by decide +kernel
theorem dX6_placeRefusal_29 : decode cX6_placeRefusal 29 = .ok (.if_icmp .ge 7, 3) := by decide +kernel
theorem dX6_placeRefusal_32 : decode cX6_placeRefusal 32 = .ok (.iconst 0, 1) := by decide +kernel
theorem dX6_placeRefusal_33 : decode cX6_placeRefusal 33 = .ok (.goto 5, 3) := by decide +kernel
theorem dX6_placeRefusal_17 : decode cX6_placeRefusal 17 = .ok (.bipush (-12), 2) := by decide +kernel
theorem dX6_placeRefusal_19 : decode cX6_placeRefusal 19 = .ok (.ireturn, 1) := by decide +kernel
theorem dX6_placeRefusal_7 : decode cX6_placeRefusal 7 = .ok (.bipush (-11), 2) := by decide +kernel
theorem dX6_placeRefusal_9 : decode cX6_placeRefusal 9 = .ok (.ireturn, 1) := by decide +kernel
theorem dX9_rest_0 : decode cX9_rest 0 = .ok (.iload_n 1, 1) := by decide +kernel
theorem dX9_rest_1 : decode cX9_rest 1 = .ok (.ifCond .ne 7, 3) := by decide +kernel
theorem dX9_rest_8 : decode cX9_rest 8 = .ok (.iload_n 0, 1) := by decide +kernel
theorem dX9_rest_9 : decode cX9_rest 9 = .ok (.iload_n 1, 1) := by decide +kernel
theorem dX9_rest_10 : decode cX9_rest 10 = .ok (.irem, 1) := by decide +kernel
theorem dX9_rest_11 : decode cX9_rest 11 = .ok (.ireturn, 1) := by decide +kernel
theorem dX9_rest_4 : decode cX9_rest 4 = .ok (.iconst 0, 1) := by decide +kernel
theorem dX9_rest_5 : decode cX9_rest 5 = .ok (.goto 6, 3) := by decide +kernel
theorem dX9_goalOf_0 : decode cX9_goalOf 0 = .ok (.iload_n 0, 1) := by decide +kernel
theorem dX9_goalOf_1 : decode cX9_goalOf 1 = .ok (.iconst 2, 1) := by decide +kernel
theorem dX9_goalOf_2 : decode cX9_goalOf 2 = .ok (.irem, 1) := by decide +kernel
theorem dX9_goalOf_3 : decode cX9_goalOf 3 = .ok (.ifCond .ne 7, 3) := by decide +kernel
theorem dX9_goalOf_10 : decode cX9_goalOf 10 = .ok (.bipush 12, 2) := by decide +kernel
theorem dX9_goalOf_12 : decode cX9_goalOf 12 = .ok (.ireturn, 1) := by decide +kernel
theorem dX9_goalOf_6 : decode cX9_goalOf 6 = .ok (.iconst 0, 1) := by decide +kernel
theorem dX9_goalOf_7 : decode cX9_goalOf 7 = .ok (.goto 5, 3) := by decide +kernel
theorem s_shelf {j : Nat} (h : j < 6) : x_SH[50 + 2 * j]? = some (.inl (6, [none, none, none, none, some (some (51 + 2 * j))])) := by
  match j, h with
  | 0, _ => rfl
  | 1, _ => rfl
  | 2, _ => rfl
  | 3, _ => rfl
  | 4, _ => rfl
  | 5, _ => rfl
theorem s_elem {j : Nat} (h : j < 6) : x_SH[51 + 2 * j]? = some (.inr (2, 60, fun _ => none)) := by
  match j, h with
  | 0, _ => rfl
  | 1, _ => rfl
  | 2, _ => rfl
  | 3, _ => rfl
  | 4, _ => rfl
  | 5, _ => rfl
set_option maxRecDepth 100000 in
set_option maxHeartbeats 4000000 in
theorem c_X6_isEmpty {p el : Nat} (hs : x_SH[p]? = some (.inl (6, [none, none, none, none, some (some el)]))) {l : Launch} {G : xG} {M : xM} {J : xJ} : x_M l G fX6_isEmpty 0 0 0 [.ref (p)] x_SH M J (qE (some (.int (bI (M p 0 = 0)))) x_SH M J) := by
  refine xb_of pX6 (Nat.le_of_ble_eq_true rfl) rfl ?_
  refine xr_aload_n dX6_isEmpty_0 0 rfl ?_
  refine xb_get (v := M p 0) flX6_15 dX6_isEmpty_1 hs rfl rfl ?_
  refine xr_if_ne (tgt := 11) dX6_isEmpty_4 rfl (fun c1 => ?_) (fun c1 => ?_)
  · refine xr_iconst (v := 0) dX6_isEmpty_11 rfl ?_
    exact xr_iret dX6_isEmpty_12 rfl rfl (⟨congrArg (fun z => some (Value.int z)) (bI_f (by grind)).symm, rfl, rfl, rfl⟩)
  · refine xr_iconst (v := 1) dX6_isEmpty_7 rfl ?_
    refine xr_goto (tgt := 12) dX6_isEmpty_8 rfl ?_
    exact xr_iret dX6_isEmpty_12 rfl rfl (⟨congrArg (fun z => some (Value.int z)) (bI_t (by grind)).symm, rfl, rfl, rfl⟩)
set_option maxRecDepth 100000 in
set_option maxHeartbeats 4000000 in
theorem c_X6_isTurn {p el : Nat} (hs : x_SH[p]? = some (.inl (6, [none, none, none, none, some (some el)]))) {l : Launch} {G : xG} {M : xM} {J : xJ} : x_M l G fX6_isTurn 0 0 0 [.ref (p)] x_SH M J (qE (some (.int (bI (M p 0 = 1)))) x_SH M J) := by
  refine xb_of pX6 (Nat.le_of_ble_eq_true rfl) rfl ?_
  refine xr_aload_n dX6_isTurn_0 0 rfl ?_
  refine xb_get (v := M p 0) flX6_15 dX6_isTurn_1 hs rfl rfl ?_
  refine xr_iconst (v := 1) dX6_isTurn_4 rfl ?_
  refine xr_icmp_ne (tgt := 12) dX6_isTurn_5 rfl (fun c1 => ?_) (fun c1 => ?_)
  · refine xr_iconst (v := 0) dX6_isTurn_12 rfl ?_
    exact xr_iret dX6_isTurn_13 rfl rfl (⟨congrArg (fun z => some (Value.int z)) (bI_f (by grind)).symm, rfl, rfl, rfl⟩)
  · refine xr_iconst (v := 1) dX6_isTurn_8 rfl ?_
    refine xr_goto (tgt := 13) dX6_isTurn_9 rfl ?_
    exact xr_iret dX6_isTurn_13 rfl rfl (⟨congrArg (fun z => some (Value.int z)) (bI_t (by grind)).symm, rfl, rfl, rfl⟩)
set_option maxRecDepth 100000 in
set_option maxHeartbeats 4000000 in
theorem c_X6_isRow {p el : Nat} (hs : x_SH[p]? = some (.inl (6, [none, none, none, none, some (some el)]))) {l : Launch} {G : xG} {M : xM} {J : xJ} : x_M l G fX6_isRow 0 0 0 [.ref (p)] x_SH M J (qE (some (.int (bI (M p 0 = 2)))) x_SH M J) := by
  refine xb_of pX6 (Nat.le_of_ble_eq_true rfl) rfl ?_
  refine xr_aload_n dX6_isRow_0 0 rfl ?_
  refine xb_get (v := M p 0) flX6_15 dX6_isRow_1 hs rfl rfl ?_
  refine xr_iconst (v := 2) dX6_isRow_4 rfl ?_
  refine xr_icmp_ne (tgt := 12) dX6_isRow_5 rfl (fun c1 => ?_) (fun c1 => ?_)
  · refine xr_iconst (v := 0) dX6_isRow_12 rfl ?_
    exact xr_iret dX6_isRow_13 rfl rfl (⟨congrArg (fun z => some (Value.int z)) (bI_f (by grind)).symm, rfl, rfl, rfl⟩)
  · refine xr_iconst (v := 1) dX6_isRow_8 rfl ?_
    refine xr_goto (tgt := 13) dX6_isRow_9 rfl ?_
    exact xr_iret dX6_isRow_13 rfl rfl (⟨congrArg (fun z => some (Value.int z)) (bI_t (by grind)).symm, rfl, rfl, rfl⟩)
set_option maxRecDepth 100000 in
set_option maxHeartbeats 4000000 in
theorem c_X6_hasBytes {p el : Nat} (hs : x_SH[p]? = some (.inl (6, [none, none, none, none, some (some el)]))) {l : Launch} {G : xG} {M : xM} {J : xJ} : x_M l G fX6_hasBytes 1 0 0 [.ref (p)] x_SH M J (qE (some (.int (bI (M p 0 = 2 ∧ M p 2 = 0)))) x_SH M J) := by
  refine xb_of pX6 (Nat.le_of_ble_eq_true rfl) rfl ?_
  refine xr_aload_n dX6_hasBytes_0 0 rfl ?_
  refine xb_cV (As := []) (rest := []) mlX6_19 (c_X6_isRow hs) dX6_hasBytes_1 hs rfl rfl (Nat.le_of_ble_eq_true rfl) (by decide) (by decide) ?_
  refine xb_beq (tgt := 18) dX6_hasBytes_4 rfl (fun c1 => ?_) (fun c1 => ?_)
  · refine xr_iconst (v := 0) dX6_hasBytes_18 rfl ?_
    exact xr_iret dX6_hasBytes_19 rfl rfl (⟨congrArg (fun z => some (Value.int z)) (bI_f (by grind)).symm, rfl, rfl, rfl⟩)
  · refine xr_aload_n dX6_hasBytes_7 0 rfl ?_
    refine xb_get (v := M p 2) flX6_23 dX6_hasBytes_8 hs rfl rfl ?_
    refine xr_if_ne (tgt := 18) dX6_hasBytes_11 rfl (fun c2 => ?_) (fun c2 => ?_)
    · refine xr_iconst (v := 0) dX6_hasBytes_18 rfl ?_
      exact xr_iret dX6_hasBytes_19 rfl rfl (⟨congrArg (fun z => some (Value.int z)) (bI_f (by grind)).symm, rfl, rfl, rfl⟩)
    · refine xr_iconst (v := 1) dX6_hasBytes_14 rfl ?_
      refine xr_goto (tgt := 19) dX6_hasBytes_15 rfl ?_
      exact xr_iret dX6_hasBytes_19 rfl rfl (⟨congrArg (fun z => some (Value.int z)) (bI_t (by grind)).symm, rfl, rfl, rfl⟩)
set_option maxRecDepth 100000 in
set_option maxHeartbeats 4000000 in
theorem c_X6_holdNothing {p el : Nat} (hs : x_SH[p]? = some (.inl (6, [none, none, none, none, some (some el)]))) {l : Launch} {G : xG} {M : xM} {J : xJ} : x_M l G fX6_holdNothing 0 0 0 [.ref (p)] x_SH M J (qE (none) x_SH (x_up (x_up M p 0 0) p 3 0) J) := by
  refine xb_of pX6 (Nat.le_of_ble_eq_true rfl) rfl ?_
  refine xr_aload_n dX6_holdNothing_0 0 rfl ?_
  refine xr_iconst (v := 0) dX6_holdNothing_1 rfl ?_
  refine xr_putI fpX6_15 dX6_holdNothing_2 hs rfl rfl rfl ?_
  refine xr_aload_n dX6_holdNothing_5 0 rfl ?_
  refine xr_iconst (v := 0) dX6_holdNothing_6 rfl ?_
  refine xr_putI fpX6_26 dX6_holdNothing_7 hs rfl rfl rfl ?_
  exact xr_vret dX6_holdNothing_10 rfl (⟨rfl, rfl, rfl, rfl⟩)
set_option maxRecDepth 100000 in
set_option maxHeartbeats 4000000 in
theorem c_X6_holdTurn (b : Int32) {p el : Nat} (hs : x_SH[p]? = some (.inl (6, [none, none, none, none, some (some el)]))) {l : Launch} {G : xG} {M : xM} {J : xJ} : x_M l G fX6_holdTurn 0 0 0 [.ref (p), .int (b)] x_SH M J (qE (none) x_SH (x_up (x_up (x_up M p 0 1) p 1 b) p 3 0) J) := by
  refine xb_of pX6 (Nat.le_of_ble_eq_true rfl) rfl ?_
  refine xr_aload_n dX6_holdTurn_0 0 rfl ?_
  refine xr_iconst (v := 1) dX6_holdTurn_1 rfl ?_
  refine xr_putI fpX6_15 dX6_holdTurn_2 hs rfl rfl rfl ?_
  refine xr_aload_n dX6_holdTurn_5 0 rfl ?_
  refine xr_iload_n dX6_holdTurn_6 1 rfl ?_
  refine xr_putI fpX6_29 dX6_holdTurn_7 hs rfl rfl rfl ?_
  refine xr_aload_n dX6_holdTurn_10 0 rfl ?_
  refine xr_iconst (v := 0) dX6_holdTurn_11 rfl ?_
  refine xr_putI fpX6_26 dX6_holdTurn_12 hs rfl rfl rfl ?_
  exact xr_vret dX6_holdTurn_15 rfl (⟨rfl, rfl, rfl, rfl⟩)
set_option maxRecDepth 100000 in
set_option maxHeartbeats 4000000 in
theorem c_X6_bytesRefusal {p el : Nat} (hs : x_SH[p]? = some (.inl (6, [none, none, none, none, some (some el)]))) {l : Launch} {G : xG} {M : xM} {J : xJ} : x_M l G fX6_bytesRefusal 2 0 0 [.ref (p)] x_SH M J (qE (some (.int (if M p 0 = 0 then -11 else if M p 0 = 2 ∧ M p 2 = 0 then 0 else -12))) x_SH M J) := by
  refine xb_of pX6 (Nat.le_of_ble_eq_true rfl) rfl ?_
  refine xr_aload_n dX6_bytesRefusal_0 0 rfl ?_
  refine xb_cV (As := []) (rest := []) mlX6_32 (c_X6_isEmpty hs) dX6_bytesRefusal_1 hs rfl rfl (Nat.le_of_ble_eq_true rfl) (by decide) (by decide) ?_
  refine xb_beq (tgt := 10) dX6_bytesRefusal_4 rfl (fun c1 => ?_) (fun c1 => ?_)
  · refine xr_aload_n dX6_bytesRefusal_10 0 rfl ?_
    refine xb_cV (As := []) (rest := []) mlX6_35 (c_X6_hasBytes hs) dX6_bytesRefusal_11 hs rfl rfl (Nat.le_of_ble_eq_true rfl) (by decide) (by decide) ?_
    refine xb_beq (tgt := 21) dX6_bytesRefusal_14 rfl (fun c2 => ?_) (fun c2 => ?_)
    · refine xr_bipush (v := -12) dX6_bytesRefusal_21 rfl ?_
      exact xr_iret dX6_bytesRefusal_23 rfl rfl (⟨by first | rfl | grind, rfl, rfl, rfl⟩)
    · refine xr_iconst (v := 0) dX6_bytesRefusal_17 rfl ?_
      refine xr_goto (tgt := 23) dX6_bytesRefusal_18 rfl ?_
      exact xr_iret dX6_bytesRefusal_23 rfl rfl (⟨by first | rfl | grind, rfl, rfl, rfl⟩)
  · refine xr_bipush (v := -11) dX6_bytesRefusal_7 rfl ?_
    exact xr_iret dX6_bytesRefusal_9 rfl rfl (⟨by first | rfl | grind, rfl, rfl, rfl⟩)
set_option maxRecDepth 100000 in
set_option maxHeartbeats 4000000 in
theorem c_X6_placeRefusal (i : Int32) {p el : Nat} (hs : x_SH[p]? = some (.inl (6, [none, none, none, none, some (some el)]))) {l : Launch} {G : xG} {M : xM} {J : xJ} : x_M l G fX6_placeRefusal 1 0 0 [.ref (p), .int (i)] x_SH M J (qE (some (.int (if M p 0 = 0 then -11 else if M p 0 = 2 then (if 0 ≤ i ∧ i < M p 3 then 0 else -13) else -12))) x_SH M J) := by
  refine xb_of pX6 (Nat.le_of_ble_eq_true rfl) rfl ?_
  refine xr_aload_n dX6_placeRefusal_0 0 rfl ?_
  refine xb_cV (As := []) (rest := []) mlX6_32 (c_X6_isEmpty hs) dX6_placeRefusal_1 hs rfl rfl (Nat.le_of_ble_eq_true rfl) (by decide) (by decide) ?_
  refine xb_beq (tgt := 10) dX6_placeRefusal_4 rfl (fun c1 => ?_) (fun c1 => ?_)
  · refine xr_aload_n dX6_placeRefusal_10 0 rfl ?_
    refine xb_cV (As := []) (rest := []) mlX6_19 (c_X6_isRow hs) dX6_placeRefusal_11 hs rfl rfl (Nat.le_of_ble_eq_true rfl) (by decide) (by decide) ?_
    refine xb_bne (tgt := 20) dX6_placeRefusal_14 rfl (fun c2 => ?_) (fun c2 => ?_)
    · refine xr_iload_n dX6_placeRefusal_20 1 rfl ?_
      refine xr_if_lt (tgt := 36) dX6_placeRefusal_21 rfl (fun c3 => ?_) (fun c3 => ?_)
      · refine xr_bipush (v := -13) dX6_placeRefusal_36 rfl ?_
        exact xr_iret dX6_placeRefusal_38 rfl rfl (⟨by first | rfl | grind, rfl, rfl, rfl⟩)
      · refine xr_iload_n dX6_placeRefusal_24 1 rfl ?_
        refine xr_aload_n dX6_placeRefusal_25 0 rfl ?_
        refine xb_get (v := M p 3) flX6_26 dX6_placeRefusal_26 hs rfl rfl ?_
        refine xr_icmp_ge (tgt := 36) dX6_placeRefusal_29 rfl (fun c4 => ?_) (fun c4 => ?_)
        · refine xr_bipush (v := -13) dX6_placeRefusal_36 rfl ?_
          exact xr_iret dX6_placeRefusal_38 rfl rfl (⟨by first | rfl | grind, rfl, rfl, rfl⟩)
        · refine xr_iconst (v := 0) dX6_placeRefusal_32 rfl ?_
          refine xr_goto (tgt := 38) dX6_placeRefusal_33 rfl ?_
          exact xr_iret dX6_placeRefusal_38 rfl rfl (⟨by first | rfl | grind, rfl, rfl, rfl⟩)
    · refine xr_bipush (v := -12) dX6_placeRefusal_17 rfl ?_
      exact xr_iret dX6_placeRefusal_19 rfl rfl (⟨by first | rfl | grind, rfl, rfl, rfl⟩)
  · refine xr_bipush (v := -11) dX6_placeRefusal_7 rfl ?_
    exact xr_iret dX6_placeRefusal_9 rfl rfl (⟨by first | rfl | grind, rfl, rfl, rfl⟩)
set_option maxRecDepth 100000 in
set_option maxHeartbeats 4000000 in
theorem c_X9_rest (a b : Int32) {l : Launch} {G : xG} {M : xM} {J : xJ} : x_M l G fX9_rest 0 0 0 [.int (a), .int (b)] x_SH M J (qE (some (.int (if b = 0 then 0 else a - a / b * b))) x_SH M J) := by
  refine xb_of pX9 (Nat.le_of_ble_eq_true rfl) rfl ?_
  refine xr_iload_n dX9_rest_0 1 rfl ?_
  refine xr_if_ne (tgt := 8) dX9_rest_1 rfl (fun c1 => ?_) (fun c1 => ?_)
  · refine xr_iload_n dX9_rest_8 0 rfl ?_
    refine xr_iload_n dX9_rest_9 1 rfl ?_
    refine xr_irem dX9_rest_10 c1 ?_
    exact xr_iret dX9_rest_11 rfl rfl (⟨by first | rfl | grind, rfl, rfl, rfl⟩)
  · refine xr_iconst (v := 0) dX9_rest_4 rfl ?_
    refine xr_goto (tgt := 11) dX9_rest_5 rfl ?_
    exact xr_iret dX9_rest_11 rfl rfl (⟨by first | rfl | grind, rfl, rfl, rfl⟩)
set_option maxRecDepth 100000 in
set_option maxHeartbeats 4000000 in
theorem c_X9_goalOf (i : Int32) {l : Launch} {G : xG} {M : xM} {J : xJ} : x_M l G fX9_goalOf 0 0 0 [.int (i)] x_SH M J (qE (some (.int (if i - i / 2 * 2 = 0 then 0 else 12))) x_SH M J) := by
  refine xb_of pX9 (Nat.le_of_ble_eq_true rfl) rfl ?_
  refine xr_iload_n dX9_goalOf_0 0 rfl ?_
  refine xr_iconst (v := 2) dX9_goalOf_1 rfl ?_
  refine xr_irem dX9_goalOf_2 (by decide) ?_
  refine xr_if_ne (tgt := 10) dX9_goalOf_3 rfl (fun c1 => ?_) (fun c1 => ?_)
  · refine xr_bipush (v := 12) dX9_goalOf_10 rfl ?_
    exact xr_iret dX9_goalOf_12 rfl rfl (⟨by first | rfl | grind, rfl, rfl, rfl⟩)
  · refine xr_iconst (v := 0) dX9_goalOf_6 rfl ?_
    refine xr_goto (tgt := 12) dX9_goalOf_7 rfl ?_
    exact xr_iret dX9_goalOf_12 rfl rfl (⟨by first | rfl | grind, rfl, rfl, rfl⟩)
end
section
theorem dX5_push_0 : decode cX5_push 0 = .ok (.iconst 0, 1) := by decide +kernel
theorem dX5_push_1 : decode cX5_push 1 = .ok (.istore_n 3, 1) := by decide +kernel
theorem dX5_push_2 : decode cX5_push 2 = .ok (.iload_n 3, 1) := by decide +kernel
theorem dX5_push_3 : decode cX5_push 3 = .ok (.aload_n 0, 1) := by decide +kernel
theorem dX5_push_4 : decode cX5_push 4 = .ok (.getfield 35, 3) := by decide +kernel
theorem dX5_push_7 : decode cX5_push 7 = .ok (.if_icmp .ge 45, 3) := by decide +kernel
theorem dX5_push_52 : decode cX5_push 52 = .ok (.return_, 1) := by decide +kernel
theorem dX5_cross_0 : decode cX5_cross 0 = .ok (.iconst 0, 1) := by decide +kernel
theorem dX5_cross_1 : decode cX5_cross 1 = .ok (.istore_n 1, 1) := by decide +kernel
theorem dX5_cross_2 : decode cX5_cross 2 = .ok (.iload_n 1, 1) := by decide +kernel
theorem dX5_cross_3 : decode cX5_cross 3 = .ok (.aload_n 0, 1) := by decide +kernel
theorem dX5_cross_4 : decode cX5_cross 4 = .ok (.getfield 35, 3) := by decide +kernel
theorem dX5_cross_7 : decode cX5_cross 7 = .ok (.if_icmp .ge 65, 3) := by decide +kernel
theorem dX5_cross_72 : decode cX5_cross 72 = .ok (.return_, 1) := by decide +kernel
theorem dX5_settle_0 : decode cX5_settle 0 = .ok (.iconst 0, 1) := by decide +kernel
theorem dX5_settle_1 : decode cX5_settle 1 = .ok (.istore_n 1, 1) := by decide +kernel
theorem dX5_settle_2 : decode cX5_settle 2 = .ok (.iload_n 1, 1) := by decide +kernel
theorem dX5_settle_3 : decode cX5_settle 3 = .ok (.aload_n 0, 1) := by decide +kernel
theorem dX5_settle_4 : decode cX5_settle 4 = .ok (.getfield 35, 3) := by decide +kernel
theorem dX5_settle_7 : decode cX5_settle 7 = .ok (.if_icmp .ge 53, 3) := by decide +kernel
theorem dX5_settle_60 : decode cX5_settle 60 = .ok (.aload_n 0, 1) := by decide +kernel
theorem dX5_settle_61 : decode cX5_settle 61 = .ok (.invokevirtual 114, 3) := by decide +kernel
theorem dX5_settle_64 : decode cX5_settle 64 = .ok (.iconst 0, 1) := by decide +kernel
theorem dX5_settle_65 : decode cX5_settle 65 = .ok (.istore_n 1, 1) := by decide +kernel
theorem dX5_settle_66 : decode cX5_settle 66 = .ok (.iload_n 1, 1) := by decide +kernel
theorem dX5_settle_67 : decode cX5_settle 67 = .ok (.aload_n 0, 1) := by decide +kernel
theorem dX5_settle_68 : decode cX5_settle 68 = .ok (.getfield 35, 3) := by decide +kernel
theorem dX5_settle_71 : decode cX5_settle 71 = .ok (.if_icmp .ge 29, 3) := by decide +kernel
theorem dX5_settle_100 : decode cX5_settle 100 = .ok (.aload_n 0, 1) := by decide +kernel
theorem dX5_settle_101 : decode cX5_settle 101 = .ok (.dup, 1) := by decide +kernel
theorem dX5_settle_102 : decode cX5_settle 102 = .ok (.getfield 42, 3) := by decide +kernel
theorem dX5_settle_105 : decode cX5_settle 105 = .ok (.iconst 1, 1) := by decide +kernel
theorem dX5_settle_106 : decode cX5_settle 106 = .ok (.iadd, 1) := by decide +kernel
theorem dX5_settle_107 : decode cX5_settle 107 = .ok (.putfield 42, 3) := by decide +kernel
theorem dX5_settle_110 : decode cX5_settle 110 = .ok (.return_, 1) := by decide +kernel
theorem dX5_upright_0 : decode cX5_upright 0 = .ok (.iconst 0, 1) := by decide +kernel
theorem dX5_upright_1 : decode cX5_upright 1 = .ok (.istore_n 1, 1) := by decide +kernel
theorem dX5_upright_2 : decode cX5_upright 2 = .ok (.iconst 0, 1) := by decide +kernel
theorem dX5_upright_3 : decode cX5_upright 3 = .ok (.istore_n 2, 1) := by decide +kernel
theorem dX5_upright_4 : decode cX5_upright 4 = .ok (.iload_n 2, 1) := by decide +kernel
theorem dX5_upright_5 : decode cX5_upright 5 = .ok (.aload_n 0, 1) := by decide +kernel
theorem dX5_upright_6 : decode cX5_upright 6 = .ok (.getfield 35, 3) := by decide +kernel
theorem dX5_upright_9 : decode cX5_upright 9 = .ok (.if_icmp .ge 24, 3) := by decide +kernel
theorem dX5_upright_33 : decode cX5_upright 33 = .ok (.iload_n 1, 1) := by decide +kernel
theorem dX5_upright_34 : decode cX5_upright 34 = .ok (.ireturn, 1) := by decide +kernel
theorem dX5_allHighest_0 : decode cX5_allHighest 0 = .ok (.iconst 0, 1) := by decide +kernel
theorem dX5_allHighest_1 : decode cX5_allHighest 1 = .ok (.istore_n 1, 1) := by decide +kernel
theorem dX5_allHighest_2 : decode cX5_allHighest 2 = .ok (.iload_n 1, 1) := by decide +kernel
theorem dX5_allHighest_3 : decode cX5_allHighest 3 = .ok (.aload_n 0, 1) := by decide +kernel
theorem dX5_allHighest_4 : decode cX5_allHighest 4 = .ok (.getfield 35, 3) := by decide +kernel
theorem dX5_allHighest_7 : decode cX5_allHighest 7 = .ok (.if_icmp .ge 25, 3) := by decide +kernel
theorem dX5_allHighest_32 : decode cX5_allHighest 32 = .ok (.iconst 1, 1) := by decide +kernel
theorem dX5_allHighest_33 : decode cX5_allHighest 33 = .ok (.ireturn, 1) := by decide +kernel
theorem dX5_isPushDue_0 : decode cX5_isPushDue 0 = .ok (.aload_n 0, 1) := by decide +kernel
theorem dX5_isPushDue_1 : decode cX5_isPushDue 1 = .ok (.getfield 42, 3) := by decide +kernel
theorem dX5_isPushDue_4 : decode cX5_isPushDue 4 = .ok (.aload_n 0, 1) := by decide +kernel
theorem dX5_isPushDue_5 : decode cX5_isPushDue 5 = .ok (.getfield 26, 3) := by decide +kernel
theorem dX5_isPushDue_8 : decode cX5_isPushDue 8 = .ok (.invokestatic 79, 3) := by decide +kernel
theorem dX5_isPushDue_11 : decode cX5_isPushDue 11 = .ok (.aload_n 0, 1) := by decide +kernel
theorem dX5_isPushDue_12 : decode cX5_isPushDue 12 = .ok (.getfield 45, 3) := by decide +kernel
theorem dX5_isPushDue_15 : decode cX5_isPushDue 15 = .ok (.aload_n 0, 1) := by decide +kernel
theorem dX5_isPushDue_16 : decode cX5_isPushDue 16 = .ok (.getfield 26, 3) := by decide +kernel
theorem dX5_isPushDue_19 : decode cX5_isPushDue 19 = .ok (.invokestatic 79, 3) := by decide +kernel
theorem dX5_isPushDue_22 : decode cX5_isPushDue 22 = .ok (.if_icmp .ne 7, 3) := by decide +kernel
theorem dX5_isPushDue_29 : decode cX5_isPushDue 29 = .ok (.iconst 0, 1) := by decide +kernel
theorem dX5_isPushDue_30 : decode cX5_isPushDue 30 = .ok (.ireturn, 1) := by decide +kernel
theorem dX5_isPushDue_25 : decode cX5_isPushDue 25 = .ok (.iconst 1, 1) := by decide +kernel
theorem dX5_isPushDue_26 : decode cX5_isPushDue 26 = .ok (.goto 4, 3) := by decide +kernel
theorem dX5_goalInTurn_0 : decode cX5_goalInTurn 0 = .ok (.aload_n 0, 1) := by decide +kernel
theorem dX5_goalInTurn_1 : decode cX5_goalInTurn 1 = .ok (.getfield 26, 3) := by decide +kernel
theorem dX5_goalInTurn_4 : decode cX5_goalInTurn 4 = .ok (.ifCond .ne 7, 3) := by decide +kernel
theorem dX5_goalInTurn_11 : decode cX5_goalInTurn 11 = .ok (.aload_n 0, 1) := by decide +kernel
theorem dX5_goalInTurn_12 : decode cX5_goalInTurn 12 = .ok (.getfield 42, 3) := by decide +kernel
theorem dX5_goalInTurn_15 : decode cX5_goalInTurn 15 = .ok (.aload_n 0, 1) := by decide +kernel
theorem dX5_goalInTurn_16 : decode cX5_goalInTurn 16 = .ok (.getfield 26, 3) := by decide +kernel
theorem dX5_goalInTurn_19 : decode cX5_goalInTurn 19 = .ok (.idiv, 1) := by decide +kernel
theorem dX5_goalInTurn_20 : decode cX5_goalInTurn 20 = .ok (.invokestatic 83, 3) := by decide +kernel
theorem dX5_goalInTurn_23 : decode cX5_goalInTurn 23 = .ok (.ireturn, 1) := by decide +kernel
theorem dX5_goalInTurn_7 : decode cX5_goalInTurn 7 = .ok (.iconst 0, 1) := by decide +kernel
theorem dX5_goalInTurn_8 : decode cX5_goalInTurn 8 = .ok (.goto 12, 3) := by decide +kernel
theorem dX5_tick_0 : decode cX5_tick 0 = .ok (.aload_n 0, 1) := by decide +kernel
theorem dX5_tick_1 : decode cX5_tick 1 = .ok (.invokevirtual 87, 3) := by decide +kernel
theorem dX5_tick_4 : decode cX5_tick 4 = .ok (.ifCond .eq 25, 3) := by decide +kernel
theorem dX5_tick_29 : decode cX5_tick 29 = .ok (.aload_n 0, 1) := by decide +kernel
theorem dX5_tick_30 : decode cX5_tick 30 = .ok (.invokevirtual 98, 3) := by decide +kernel
theorem dX5_tick_33 : decode cX5_tick 33 = .ok (.return_, 1) := by decide +kernel
theorem dX5_tick_7 : decode cX5_tick 7 = .ok (.aload_n 0, 1) := by decide +kernel
theorem dX5_tick_8 : decode cX5_tick 8 = .ok (.aload_n 0, 1) := by decide +kernel
theorem dX5_tick_9 : decode cX5_tick 9 = .ok (.getfield 29, 3) := by decide +kernel
theorem dX5_tick_12 : decode cX5_tick 12 = .ok (.aload_n 0, 1) := by decide +kernel
theorem dX5_tick_13 : decode cX5_tick 13 = .ok (.invokevirtual 90, 3) := by decide +kernel
theorem dX5_tick_16 : decode cX5_tick 16 = .ok (.invokevirtual 94, 3) := by decide +kernel
theorem dX5_tick_19 : decode cX5_tick 19 = .ok (.aload_n 0, 1) := by decide +kernel
theorem dX5_tick_20 : decode cX5_tick 20 = .ok (.dup, 1) := by decide +kernel
theorem dX5_tick_21 : decode cX5_tick 21 = .ok (.getfield 48, 3) := by decide +kernel
theorem dX5_tick_24 : decode cX5_tick 24 = .ok (.iconst 1, 1) := by decide +kernel
theorem dX5_tick_25 : decode cX5_tick 25 = .ok (.iadd, 1) := by decide +kernel
theorem dX5_tick_26 : decode cX5_tick 26 = .ok (.putfield 48, 3) := by decide +kernel
theorem dX5_copy_0 : decode cX5_copy 0 = .ok (.iconst 0, 1) := by decide +kernel
theorem dX5_copy_1 : decode cX5_copy 1 = .ok (.istore_n 2, 1) := by decide +kernel
theorem dX5_copy_2 : decode cX5_copy 2 = .ok (.iload_n 2, 1) := by decide +kernel
theorem dX5_copy_3 : decode cX5_copy 3 = .ok (.aload_n 1, 1) := by decide +kernel
theorem dX5_copy_4 : decode cX5_copy 4 = .ok (.getfield 35, 3) := by decide +kernel
theorem dX5_copy_7 : decode cX5_copy 7 = .ok (.if_icmp .ge 24, 3) := by decide +kernel
theorem dX5_copy_31 : decode cX5_copy 31 = .ok (.aload_n 0, 1) := by decide +kernel
theorem dX5_copy_32 : decode cX5_copy 32 = .ok (.aload_n 1, 1) := by decide +kernel
theorem dX5_copy_33 : decode cX5_copy 33 = .ok (.getfield 35, 3) := by decide +kernel
theorem dX5_copy_36 : decode cX5_copy 36 = .ok (.putfield 35, 3) := by decide +kernel
theorem dX5_copy_39 : decode cX5_copy 39 = .ok (.aload_n 0, 1) := by decide +kernel
theorem dX5_copy_40 : decode cX5_copy 40 = .ok (.aload_n 1, 1) := by decide +kernel
theorem dX5_copy_41 : decode cX5_copy 41 = .ok (.getfield 42, 3) := by decide +kernel
theorem dX5_copy_44 : decode cX5_copy 44 = .ok (.putfield 42, 3) := by decide +kernel
theorem dX5_copy_47 : decode cX5_copy 47 = .ok (.aload_n 0, 1) := by decide +kernel
theorem dX5_copy_48 : decode cX5_copy 48 = .ok (.aload_n 1, 1) := by decide +kernel
theorem dX5_copy_49 : decode cX5_copy 49 = .ok (.getfield 22, 3) := by decide +kernel
theorem dX5_copy_52 : decode cX5_copy 52 = .ok (.putfield 22, 3) := by decide +kernel
theorem dX5_copy_55 : decode cX5_copy 55 = .ok (.aload_n 0, 1) := by decide +kernel
theorem dX5_copy_56 : decode cX5_copy 56 = .ok (.aload_n 1, 1) := by decide +kernel
theorem dX5_copy_57 : decode cX5_copy 57 = .ok (.getfield 26, 3) := by decide +kernel
theorem dX5_copy_60 : decode cX5_copy 60 = .ok (.putfield 26, 3) := by decide +kernel
theorem dX5_copy_63 : decode cX5_copy 63 = .ok (.aload_n 0, 1) := by decide +kernel
theorem dX5_copy_64 : decode cX5_copy 64 = .ok (.aload_n 1, 1) := by decide +kernel
theorem dX5_copy_65 : decode cX5_copy 65 = .ok (.getfield 45, 3) := by decide +kernel
theorem dX5_copy_68 : decode cX5_copy 68 = .ok (.putfield 45, 3) := by decide +kernel
theorem dX5_copy_71 : decode cX5_copy 71 = .ok (.aload_n 0, 1) := by decide +kernel
theorem dX5_copy_72 : decode cX5_copy 72 = .ok (.aload_n 1, 1) := by decide +kernel
theorem dX5_copy_73 : decode cX5_copy 73 = .ok (.getfield 29, 3) := by decide +kernel
theorem dX5_copy_76 : decode cX5_copy 76 = .ok (.putfield 29, 3) := by decide +kernel
theorem dX5_copy_79 : decode cX5_copy 79 = .ok (.aload_n 0, 1) := by decide +kernel
theorem dX5_copy_80 : decode cX5_copy 80 = .ok (.aload_n 1, 1) := by decide +kernel
theorem dX5_copy_81 : decode cX5_copy 81 = .ok (.getfield 48, 3) := by decide +kernel
theorem dX5_copy_84 : decode cX5_copy 84 = .ok (.putfield 48, 3) := by decide +kernel
theorem dX5_copy_87 : decode cX5_copy 87 = .ok (.aload_n 0, 1) := by decide +kernel
theorem dX5_copy_88 : decode cX5_copy 88 = .ok (.aload_n 1, 1) := by decide +kernel
theorem dX5_copy_89 : decode cX5_copy 89 = .ok (.getfield 32, 3) := by decide +kernel
theorem dX5_copy_92 : decode cX5_copy 92 = .ok (.putfield 32, 3) := by decide +kernel
theorem dX5_copy_95 : decode cX5_copy 95 = .ok (.return_, 1) := by decide +kernel
theorem dX7_begin_0 : decode cX7_begin 0 = .ok (.aload_n 0, 1) := by decide +kernel
theorem dX7_begin_1 : decode cX7_begin 1 = .ok (.getfield 15, 3) := by decide +kernel
theorem dX7_begin_4 : decode cX7_begin 4 = .ok (.aload_n 0, 1) := by decide +kernel
theorem dX7_begin_5 : decode cX7_begin 5 = .ok (.getfield 9, 3) := by decide +kernel
theorem dX7_begin_8 : decode cX7_begin 8 = .ok (.invokevirtual 18, 3) := by decide +kernel
theorem dX7_begin_11 : decode cX7_begin 11 = .ok (.aload_n 0, 1) := by decide +kernel
theorem dX7_begin_12 : decode cX7_begin 12 = .ok (.iconst 0, 1) := by decide +kernel
theorem dX7_begin_13 : decode cX7_begin 13 = .ok (.putfield 24, 3) := by decide +kernel
theorem dX7_begin_16 : decode cX7_begin 16 = .ok (.aload_n 0, 1) := by decide +kernel
theorem dX7_begin_17 : decode cX7_begin 17 = .ok (.iconst 0, 1) := by decide +kernel
theorem dX7_begin_18 : decode cX7_begin 18 = .ok (.putfield 28, 3) := by decide +kernel
theorem dX7_begin_21 : decode cX7_begin 21 = .ok (.aload_n 0, 1) := by decide +kernel
theorem dX7_begin_22 : decode cX7_begin 22 = .ok (.iconst (-1), 1) := by decide +kernel
theorem dX7_begin_23 : decode cX7_begin 23 = .ok (.putfield 31, 3) := by decide +kernel
theorem dX7_begin_26 : decode cX7_begin 26 = .ok (.aload_n 0, 1) := by decide +kernel
theorem dX7_begin_27 : decode cX7_begin 27 = .ok (.iconst (-1), 1) := by decide +kernel
theorem dX7_begin_28 : decode cX7_begin 28 = .ok (.putfield 34, 3) := by decide +kernel
theorem dX7_begin_31 : decode cX7_begin 31 = .ok (.return_, 1) := by decide +kernel
theorem dX7_step_0 : decode cX7_step 0 = .ok (.aload_n 0, 1) := by decide +kernel
theorem dX7_step_1 : decode cX7_step 1 = .ok (.getfield 15, 3) := by decide +kernel
theorem dX7_step_4 : decode cX7_step 4 = .ok (.invokevirtual 43, 3) := by decide +kernel
theorem dX7_step_7 : decode cX7_step 7 = .ok (.ifCond .eq 45, 3) := by decide +kernel
theorem dX7_step_52 : decode cX7_step 52 = .ok (.aload_n 0, 1) := by decide +kernel
theorem dX7_step_53 : decode cX7_step 53 = .ok (.getfield 24, 3) := by decide +kernel
theorem dX7_step_56 : decode cX7_step 56 = .ok (.aload_n 0, 1) := by decide +kernel
theorem dX7_step_57 : decode cX7_step 57 = .ok (.getfield 34, 3) := by decide +kernel
theorem dX7_step_60 : decode cX7_step 60 = .ok (.if_icmp .ne 18, 3) := by decide +kernel
theorem dX7_step_78 : decode cX7_step 78 = .ok (.aload_n 0, 1) := by decide +kernel
theorem dX7_step_79 : decode cX7_step 79 = .ok (.getfield 15, 3) := by decide +kernel
theorem dX7_step_82 : decode cX7_step 82 = .ok (.invokevirtual 58, 3) := by decide +kernel
theorem dX7_step_85 : decode cX7_step 85 = .ok (.aload_n 0, 1) := by decide +kernel
theorem dX7_step_86 : decode cX7_step 86 = .ok (.dup, 1) := by decide +kernel
theorem dX7_step_87 : decode cX7_step 87 = .ok (.getfield 24, 3) := by decide +kernel
theorem dX7_step_90 : decode cX7_step 90 = .ok (.iconst 1, 1) := by decide +kernel
theorem dX7_step_91 : decode cX7_step 91 = .ok (.iadd, 1) := by decide +kernel
theorem dX7_step_92 : decode cX7_step 92 = .ok (.putfield 24, 3) := by decide +kernel
theorem dX7_step_95 : decode cX7_step 95 = .ok (.return_, 1) := by decide +kernel
theorem dX7_step_63 : decode cX7_step 63 = .ok (.aload_n 0, 1) := by decide +kernel
theorem dX7_step_64 : decode cX7_step 64 = .ok (.getfield 15, 3) := by decide +kernel
theorem dX7_step_67 : decode cX7_step 67 = .ok (.aload_n 0, 1) := by decide +kernel
theorem dX7_step_68 : decode cX7_step 68 = .ok (.getfield 37, 3) := by decide +kernel
theorem dX7_step_71 : decode cX7_step 71 = .ok (.aload_n 0, 1) := by decide +kernel
theorem dX7_step_72 : decode cX7_step 72 = .ok (.getfield 40, 3) := by decide +kernel
theorem dX7_step_75 : decode cX7_step 75 = .ok (.invokevirtual 54, 3) := by decide +kernel
theorem dX7_step_10 : decode cX7_step 10 = .ok (.aload_n 0, 1) := by decide +kernel
theorem dX7_step_11 : decode cX7_step 11 = .ok (.getfield 28, 3) := by decide +kernel
theorem dX7_step_14 : decode cX7_step 14 = .ok (.aload_n 0, 1) := by decide +kernel
theorem dX7_step_15 : decode cX7_step 15 = .ok (.getfield 31, 3) := by decide +kernel
theorem dX7_step_18 : decode cX7_step 18 = .ok (.if_icmp .eq 24, 3) := by decide +kernel
theorem dX7_step_42 : decode cX7_step 42 = .ok (.aload_n 0, 1) := by decide +kernel
theorem dX7_step_43 : decode cX7_step 43 = .ok (.dup, 1) := by decide +kernel
theorem dX7_step_44 : decode cX7_step 44 = .ok (.getfield 28, 3) := by decide +kernel
theorem dX7_step_47 : decode cX7_step 47 = .ok (.iconst 1, 1) := by decide +kernel
theorem dX7_step_48 : decode cX7_step 48 = .ok (.iadd, 1) := by decide +kernel
theorem dX7_step_49 : decode cX7_step 49 = .ok (.putfield 28, 3) := by decide +kernel
theorem dX7_step_21 : decode cX7_step 21 = .ok (.aload_n 0, 1) := by decide +kernel
theorem dX7_step_22 : decode cX7_step 22 = .ok (.getfield 15, 3) := by decide +kernel
theorem dX7_step_25 : decode cX7_step 25 = .ok (.aload_n 0, 1) := by decide +kernel
theorem dX7_step_26 : decode cX7_step 26 = .ok (.getfield 15, 3) := by decide +kernel
theorem dX7_step_29 : decode cX7_step 29 = .ok (.getfield 47, 3) := by decide +kernel
theorem dX7_step_32 : decode cX7_step 32 = .ok (.aload_n 0, 1) := by decide +kernel
theorem dX7_step_33 : decode cX7_step 33 = .ok (.getfield 15, 3) := by decide +kernel
theorem dX7_step_36 : decode cX7_step 36 = .ok (.invokevirtual 50, 3) := by decide +kernel
theorem dX7_step_39 : decode cX7_step 39 = .ok (.invokevirtual 54, 3) := by decide +kernel
/-- no ring has a hoop -/
def E0 (M : xM) : Prop := M 13 2 = 0 ∧ M 20 2 = 0 ∧ M 28 2 = 0
theorem E0_up {M : xM} {p k : Nat} {v : Int32} (h : ¬ ((p = 13 ∨ p = 20 ∨ p = 28) ∧ k = 2)) (e : E0 M) : E0 (x_up M p k v) := by
  have key : ∀ q, (q = 13 ∨ q = 20 ∨ q = 28) → x_up M p k v q 2 = M q 2 := fun q hq => by
    by_cases hp : q = p
    · subst hp
      exact x_up_k _ _ _ (fun z => h ⟨hq, z.symm⟩)
    · rw [x_up_n _ _ _ hp]
  exact ⟨(key 13 (by decide)).trans e.1, (key 20 (by decide)).trans e.2.1, (key 28 (by decide)).trans e.2.2⟩
theorem E0_up0 {M : xM} {p k : Nat} (e : E0 M) : E0 (x_up M p k 0) := by
  have key : ∀ q, M q 2 = 0 → x_up M p k 0 q 2 = 0 := fun q hq => by
    by_cases hp : q = p
    · subst hp
      by_cases hk : 2 = k
      · subst hk; exact x_up_s _ _ _ _
      · rw [x_up_k _ _ _ hk]; exact hq
    · rw [x_up_n _ _ _ hp]; exact hq
  exact ⟨key 13 e.1, key 20 e.2.1, key 28 e.2.2⟩
/-- an end behind which there is still no hoop -/
def qE0 (r : Option Value) (J : xJ) : xQ := fun v sh' M' J' => v = r ∧ sh' = x_SH ∧ J = J' ∧ E0 M' 
set_option maxRecDepth 100000 in
set_option maxHeartbeats 4000000 in
theorem c0_push_13 (fo go : Int32) {l : Launch} {G : xG} {M : xM} {J : xJ} (e : E0 M) : x_M l G fX5_push 0 0 0 [.ref (13), .int (fo), .int (go)] x_SH M J (qE none x_SH M J) := by
  refine xb_of pX5 (Nat.le_of_ble_eq_true rfl) rfl ?_
  refine xr_iconst (v := 0) dX5_push_0 rfl ?_
  refine xr_istore_n (ls2 := [(3, .int (0)), (0, .ref (13)), (1, .int (fo)), (2, .int (go))]) dX5_push_1 (by decide) rfl ?_
  refine xr_iload_n dX5_push_2 0 rfl ?_
  refine xr_aload_n dX5_push_3 1 rfl ?_
  refine xb_get (v := 0) flX5_35 dX5_push_4 s_13 rfl e.1 ?_
  refine xr_icmp_ge (tgt := 52) dX5_push_7 rfl (fun _ => ?_) (fun c => absurd (by decide) c)
  exact xr_vret dX5_push_52 rfl (⟨rfl, rfl, rfl, rfl⟩)
set_option maxRecDepth 100000 in
set_option maxHeartbeats 4000000 in
theorem c0_cross_13 {l : Launch} {G : xG} {M : xM} {J : xJ} (e : E0 M) : x_M l G fX5_cross 0 0 0 [.ref (13)] x_SH M J (qE none x_SH M J) := by
  refine xb_of pX5 (Nat.le_of_ble_eq_true rfl) rfl ?_
  refine xr_iconst (v := 0) dX5_cross_0 rfl ?_
  refine xr_istore_n (ls2 := [(1, .int (0)), (0, .ref (13))]) dX5_cross_1 (by decide) rfl ?_
  refine xr_iload_n dX5_cross_2 0 rfl ?_
  refine xr_aload_n dX5_cross_3 1 rfl ?_
  refine xb_get (v := 0) flX5_35 dX5_cross_4 s_13 rfl e.1 ?_
  refine xr_icmp_ge (tgt := 72) dX5_cross_7 rfl (fun _ => ?_) (fun c => absurd (by decide) c)
  exact xr_vret dX5_cross_72 rfl (⟨rfl, rfl, rfl, rfl⟩)
set_option maxRecDepth 100000 in
set_option maxHeartbeats 4000000 in
theorem c0_settle_13 {l : Launch} {G : xG} {M : xM} {J : xJ} (e : E0 M) : x_M l G fX5_settle 1 0 0 [.ref (13)] x_SH M J (qE0 (none) J) := by
  refine xb_of pX5 (Nat.le_of_ble_eq_true rfl) rfl ?_
  refine xr_iconst (v := 0) dX5_settle_0 rfl ?_
  refine xr_istore_n (ls2 := [(1, .int (0)), (0, .ref (13))]) dX5_settle_1 (by decide) rfl ?_
  refine xr_iload_n dX5_settle_2 0 rfl ?_
  refine xr_aload_n dX5_settle_3 1 rfl ?_
  refine xb_get (v := 0) flX5_35 dX5_settle_4 s_13 rfl e.1 ?_
  refine xr_icmp_ge (tgt := 60) dX5_settle_7 rfl (fun _ => ?_) (fun c => absurd (by decide) c)
  refine xr_aload_n dX5_settle_60 1 rfl ?_
  refine xb_cV (As := []) (rest := []) mlX5_114 (c0_cross_13 e) dX5_settle_61 s_13 rfl rfl (Nat.le_of_ble_eq_true rfl) (by decide) (by decide) ?_
  refine xr_iconst (v := 0) dX5_settle_64 rfl ?_
  refine xr_istore_n (ls2 := [(1, .int (0)), (0, .ref (13))]) dX5_settle_65 (by decide) rfl ?_
  refine xr_iload_n dX5_settle_66 0 rfl ?_
  refine xr_aload_n dX5_settle_67 1 rfl ?_
  refine xb_get (v := 0) flX5_35 dX5_settle_68 s_13 rfl e.1 ?_
  refine xr_icmp_ge (tgt := 100) dX5_settle_71 rfl (fun _ => ?_) (fun c => absurd (by decide) c)
  refine xr_aload_n dX5_settle_100 1 rfl ?_
  refine xr_dup dX5_settle_101 rfl ?_
  refine xb_get (v := M 13 3) flX5_42 dX5_settle_102 s_13 rfl rfl ?_
  refine xr_iconst (v := 1) dX5_settle_105 rfl ?_
  refine xr_iadd dX5_settle_106 ?_
  refine xr_putI fpX5_42 dX5_settle_107 s_13 rfl rfl rfl ?_
  exact xr_vret dX5_settle_110 rfl (⟨rfl, rfl, rfl, (E0_up (by decide) e)⟩)
set_option maxRecDepth 100000 in
set_option maxHeartbeats 4000000 in
theorem c0_upright_13 {l : Launch} {G : xG} {M : xM} {J : xJ} (e : E0 M) : x_M l G fX5_upright 0 0 0 [.ref (13)] x_SH M J (qE (some (.int 0)) x_SH M J) := by
  refine xb_of pX5 (Nat.le_of_ble_eq_true rfl) rfl ?_
  refine xr_iconst (v := 0) dX5_upright_0 rfl ?_
  refine xr_istore_n (ls2 := [(1, .int (0)), (0, .ref (13))]) dX5_upright_1 (by decide) rfl ?_
  refine xr_iconst (v := 0) dX5_upright_2 rfl ?_
  refine xr_istore_n (ls2 := [(2, .int (0)), (1, .int (0)), (0, .ref (13))]) dX5_upright_3 (by decide) rfl ?_
  refine xr_iload_n dX5_upright_4 0 rfl ?_
  refine xr_aload_n dX5_upright_5 2 rfl ?_
  refine xb_get (v := 0) flX5_35 dX5_upright_6 s_13 rfl e.1 ?_
  refine xr_icmp_ge (tgt := 33) dX5_upright_9 rfl (fun _ => ?_) (fun c => absurd (by decide) c)
  refine xr_iload_n dX5_upright_33 1 rfl ?_
  exact xr_iret dX5_upright_34 rfl rfl (⟨rfl, rfl, rfl, rfl⟩)
set_option maxRecDepth 100000 in
set_option maxHeartbeats 4000000 in
theorem c0_allHighest_13 {l : Launch} {G : xG} {M : xM} {J : xJ} (e : E0 M) : x_M l G fX5_allHighest 0 0 0 [.ref (13)] x_SH M J (qE (some (.int 1)) x_SH M J) := by
  refine xb_of pX5 (Nat.le_of_ble_eq_true rfl) rfl ?_
  refine xr_iconst (v := 0) dX5_allHighest_0 rfl ?_
  refine xr_istore_n (ls2 := [(1, .int (0)), (0, .ref (13))]) dX5_allHighest_1 (by decide) rfl ?_
  refine xr_iload_n dX5_allHighest_2 0 rfl ?_
  refine xr_aload_n dX5_allHighest_3 1 rfl ?_
  refine xb_get (v := 0) flX5_35 dX5_allHighest_4 s_13 rfl e.1 ?_
  refine xr_icmp_ge (tgt := 32) dX5_allHighest_7 rfl (fun _ => ?_) (fun c => absurd (by decide) c)
  refine xr_iconst (v := 1) dX5_allHighest_32 rfl ?_
  exact xr_iret dX5_allHighest_33 rfl rfl (⟨rfl, rfl, rfl, rfl⟩)
set_option maxRecDepth 100000 in
set_option maxHeartbeats 4000000 in
theorem c_isPushDue_13 {l : Launch} {G : xG} {M : xM} {J : xJ} : x_M l G fX5_isPushDue 1 0 0 [.ref (13)] x_SH M J (qE (some (.int (bI ((if M 13 5 = 0 then 0 else M 13 3 - M 13 3 / M 13 5 * M 13 5) = (if M 13 5 = 0 then 0 else M 13 6 - M 13 6 / M 13 5 * M 13 5))))) x_SH M J) := by
  refine xb_of pX5 (Nat.le_of_ble_eq_true rfl) rfl ?_
  refine xr_aload_n dX5_isPushDue_0 0 rfl ?_
  refine xb_get (v := M 13 3) flX5_42 dX5_isPushDue_1 s_13 rfl rfl ?_
  refine xr_aload_n dX5_isPushDue_4 0 rfl ?_
  refine xb_get (v := M 13 5) flX5_26 dX5_isPushDue_5 s_13 rfl rfl ?_
  refine xb_cN (As := [.int (M 13 3), .int (M 13 5)]) (rest := []) mlX5_79 (c_X9_rest (M 13 3) (M 13 5)) dX5_isPushDue_8 rfl rfl (Nat.le_of_ble_eq_true rfl) (by decide) (by decide) ?_
  refine xr_aload_n dX5_isPushDue_11 0 rfl ?_
  refine xb_get (v := M 13 6) flX5_45 dX5_isPushDue_12 s_13 rfl rfl ?_
  refine xr_aload_n dX5_isPushDue_15 0 rfl ?_
  refine xb_get (v := M 13 5) flX5_26 dX5_isPushDue_16 s_13 rfl rfl ?_
  refine xb_cN (As := [.int (M 13 6), .int (M 13 5)]) (rest := [.int ((if (M 13 5) = 0 then 0 else (M 13 3) - (M 13 3) / (M 13 5) * (M 13 5)))]) mlX5_79 (c_X9_rest (M 13 6) (M 13 5)) dX5_isPushDue_19 rfl rfl (Nat.le_of_ble_eq_true rfl) (by decide) (by decide) ?_
  refine xr_icmp_ne (tgt := 29) dX5_isPushDue_22 rfl (fun c1 => ?_) (fun c1 => ?_)
  · refine xr_iconst (v := 0) dX5_isPushDue_29 rfl ?_
    exact xr_iret dX5_isPushDue_30 rfl rfl (⟨congrArg (fun z => some (Value.int z)) (bI_f c1).symm, rfl, rfl, rfl⟩)
  · refine xr_iconst (v := 1) dX5_isPushDue_25 rfl ?_
    refine xr_goto (tgt := 30) dX5_isPushDue_26 rfl ?_
    exact xr_iret dX5_isPushDue_30 rfl rfl (⟨congrArg (fun z => some (Value.int z)) (bI_t c1).symm, rfl, rfl, rfl⟩)
set_option maxRecDepth 100000 in
set_option maxHeartbeats 4000000 in
theorem c_goalInTurn_13 {l : Launch} {G : xG} {M : xM} {J : xJ} : x_M l G fX5_goalInTurn 1 0 0 [.ref (13)] x_SH M J (qE (some (.int (if (if M 13 5 = 0 then 0 else M 13 3 / M 13 5) - (if M 13 5 = 0 then 0 else M 13 3 / M 13 5) / 2 * 2 = 0 then 0 else 12))) x_SH M J) := by
  refine xb_of pX5 (Nat.le_of_ble_eq_true rfl) rfl ?_
  refine xr_aload_n dX5_goalInTurn_0 0 rfl ?_
  refine xb_get (v := M 13 5) flX5_26 dX5_goalInTurn_1 s_13 rfl rfl ?_
  refine xr_if_ne (tgt := 11) dX5_goalInTurn_4 rfl (fun c1 => ?_) (fun c1 => ?_)
  · refine xr_aload_n dX5_goalInTurn_11 0 rfl ?_
    refine xb_get (v := M 13 3) flX5_42 dX5_goalInTurn_12 s_13 rfl rfl ?_
    refine xr_aload_n dX5_goalInTurn_15 0 rfl ?_
    refine xb_get (v := M 13 5) flX5_26 dX5_goalInTurn_16 s_13 rfl rfl ?_
    refine xr_idiv dX5_goalInTurn_19 c1 ?_
    refine xb_cN (As := [.int (((M 13 3) / (M 13 5)))]) (rest := []) mlX5_83 (c_X9_goalOf ((M 13 3) / (M 13 5))) dX5_goalInTurn_20 rfl rfl (Nat.le_of_ble_eq_true rfl) (by decide) (by decide) ?_
    exact xr_iret dX5_goalInTurn_23 rfl rfl (⟨by first | rfl | simp [c1] | grind, rfl, rfl, rfl⟩)
  · refine xr_iconst (v := 0) dX5_goalInTurn_7 rfl ?_
    refine xr_goto (tgt := 20) dX5_goalInTurn_8 rfl ?_
    refine xb_cN (As := [.int (0)]) (rest := []) mlX5_83 (c_X9_goalOf 0) dX5_goalInTurn_20 rfl rfl (Nat.le_of_ble_eq_true rfl) (by decide) (by decide) ?_
    exact xr_iret dX5_goalInTurn_23 rfl rfl (⟨by first | rfl | simp [c1] | grind, rfl, rfl, rfl⟩)
set_option maxRecDepth 100000 in
set_option maxHeartbeats 4000000 in
theorem c0_push_28 (fo go : Int32) {l : Launch} {G : xG} {M : xM} {J : xJ} (e : E0 M) : x_M l G fX5_push 0 0 0 [.ref (28), .int (fo), .int (go)] x_SH M J (qE none x_SH M J) := by
  refine xb_of pX5 (Nat.le_of_ble_eq_true rfl) rfl ?_
  refine xr_iconst (v := 0) dX5_push_0 rfl ?_
  refine xr_istore_n (ls2 := [(3, .int (0)), (0, .ref (28)), (1, .int (fo)), (2, .int (go))]) dX5_push_1 (by decide) rfl ?_
  refine xr_iload_n dX5_push_2 0 rfl ?_
  refine xr_aload_n dX5_push_3 1 rfl ?_
  refine xb_get (v := 0) flX5_35 dX5_push_4 s_28 rfl e.2.2 ?_
  refine xr_icmp_ge (tgt := 52) dX5_push_7 rfl (fun _ => ?_) (fun c => absurd (by decide) c)
  exact xr_vret dX5_push_52 rfl (⟨rfl, rfl, rfl, rfl⟩)
set_option maxRecDepth 100000 in
set_option maxHeartbeats 4000000 in
theorem c0_cross_28 {l : Launch} {G : xG} {M : xM} {J : xJ} (e : E0 M) : x_M l G fX5_cross 0 0 0 [.ref (28)] x_SH M J (qE none x_SH M J) := by
  refine xb_of pX5 (Nat.le_of_ble_eq_true rfl) rfl ?_
  refine xr_iconst (v := 0) dX5_cross_0 rfl ?_
  refine xr_istore_n (ls2 := [(1, .int (0)), (0, .ref (28))]) dX5_cross_1 (by decide) rfl ?_
  refine xr_iload_n dX5_cross_2 0 rfl ?_
  refine xr_aload_n dX5_cross_3 1 rfl ?_
  refine xb_get (v := 0) flX5_35 dX5_cross_4 s_28 rfl e.2.2 ?_
  refine xr_icmp_ge (tgt := 72) dX5_cross_7 rfl (fun _ => ?_) (fun c => absurd (by decide) c)
  exact xr_vret dX5_cross_72 rfl (⟨rfl, rfl, rfl, rfl⟩)
set_option maxRecDepth 100000 in
set_option maxHeartbeats 4000000 in
theorem c0_settle_28 {l : Launch} {G : xG} {M : xM} {J : xJ} (e : E0 M) : x_M l G fX5_settle 1 0 0 [.ref (28)] x_SH M J (qE0 (none) J) := by
  refine xb_of pX5 (Nat.le_of_ble_eq_true rfl) rfl ?_
  refine xr_iconst (v := 0) dX5_settle_0 rfl ?_
  refine xr_istore_n (ls2 := [(1, .int (0)), (0, .ref (28))]) dX5_settle_1 (by decide) rfl ?_
  refine xr_iload_n dX5_settle_2 0 rfl ?_
  refine xr_aload_n dX5_settle_3 1 rfl ?_
  refine xb_get (v := 0) flX5_35 dX5_settle_4 s_28 rfl e.2.2 ?_
  refine xr_icmp_ge (tgt := 60) dX5_settle_7 rfl (fun _ => ?_) (fun c => absurd (by decide) c)
  refine xr_aload_n dX5_settle_60 1 rfl ?_
  refine xb_cV (As := []) (rest := []) mlX5_114 (c0_cross_28 e) dX5_settle_61 s_28 rfl rfl (Nat.le_of_ble_eq_true rfl) (by decide) (by decide) ?_
  refine xr_iconst (v := 0) dX5_settle_64 rfl ?_
  refine xr_istore_n (ls2 := [(1, .int (0)), (0, .ref (28))]) dX5_settle_65 (by decide) rfl ?_
  refine xr_iload_n dX5_settle_66 0 rfl ?_
  refine xr_aload_n dX5_settle_67 1 rfl ?_
  refine xb_get (v := 0) flX5_35 dX5_settle_68 s_28 rfl e.2.2 ?_
  refine xr_icmp_ge (tgt := 100) dX5_settle_71 rfl (fun _ => ?_) (fun c => absurd (by decide) c)
  refine xr_aload_n dX5_settle_100 1 rfl ?_
  refine xr_dup dX5_settle_101 rfl ?_
  refine xb_get (v := M 28 3) flX5_42 dX5_settle_102 s_28 rfl rfl ?_
  refine xr_iconst (v := 1) dX5_settle_105 rfl ?_
  refine xr_iadd dX5_settle_106 ?_
  refine xr_putI fpX5_42 dX5_settle_107 s_28 rfl rfl rfl ?_
  exact xr_vret dX5_settle_110 rfl (⟨rfl, rfl, rfl, (E0_up (by decide) e)⟩)
set_option maxRecDepth 100000 in
set_option maxHeartbeats 4000000 in
theorem c0_upright_28 {l : Launch} {G : xG} {M : xM} {J : xJ} (e : E0 M) : x_M l G fX5_upright 0 0 0 [.ref (28)] x_SH M J (qE (some (.int 0)) x_SH M J) := by
  refine xb_of pX5 (Nat.le_of_ble_eq_true rfl) rfl ?_
  refine xr_iconst (v := 0) dX5_upright_0 rfl ?_
  refine xr_istore_n (ls2 := [(1, .int (0)), (0, .ref (28))]) dX5_upright_1 (by decide) rfl ?_
  refine xr_iconst (v := 0) dX5_upright_2 rfl ?_
  refine xr_istore_n (ls2 := [(2, .int (0)), (1, .int (0)), (0, .ref (28))]) dX5_upright_3 (by decide) rfl ?_
  refine xr_iload_n dX5_upright_4 0 rfl ?_
  refine xr_aload_n dX5_upright_5 2 rfl ?_
  refine xb_get (v := 0) flX5_35 dX5_upright_6 s_28 rfl e.2.2 ?_
  refine xr_icmp_ge (tgt := 33) dX5_upright_9 rfl (fun _ => ?_) (fun c => absurd (by decide) c)
  refine xr_iload_n dX5_upright_33 1 rfl ?_
  exact xr_iret dX5_upright_34 rfl rfl (⟨rfl, rfl, rfl, rfl⟩)
set_option maxRecDepth 100000 in
set_option maxHeartbeats 4000000 in
theorem c0_allHighest_28 {l : Launch} {G : xG} {M : xM} {J : xJ} (e : E0 M) : x_M l G fX5_allHighest 0 0 0 [.ref (28)] x_SH M J (qE (some (.int 1)) x_SH M J) := by
  refine xb_of pX5 (Nat.le_of_ble_eq_true rfl) rfl ?_
  refine xr_iconst (v := 0) dX5_allHighest_0 rfl ?_
  refine xr_istore_n (ls2 := [(1, .int (0)), (0, .ref (28))]) dX5_allHighest_1 (by decide) rfl ?_
  refine xr_iload_n dX5_allHighest_2 0 rfl ?_
  refine xr_aload_n dX5_allHighest_3 1 rfl ?_
  refine xb_get (v := 0) flX5_35 dX5_allHighest_4 s_28 rfl e.2.2 ?_
  refine xr_icmp_ge (tgt := 32) dX5_allHighest_7 rfl (fun _ => ?_) (fun c => absurd (by decide) c)
  refine xr_iconst (v := 1) dX5_allHighest_32 rfl ?_
  exact xr_iret dX5_allHighest_33 rfl rfl (⟨rfl, rfl, rfl, rfl⟩)
set_option maxRecDepth 100000 in
set_option maxHeartbeats 4000000 in
theorem c_isPushDue_28 {l : Launch} {G : xG} {M : xM} {J : xJ} : x_M l G fX5_isPushDue 1 0 0 [.ref (28)] x_SH M J (qE (some (.int (bI ((if M 28 5 = 0 then 0 else M 28 3 - M 28 3 / M 28 5 * M 28 5) = (if M 28 5 = 0 then 0 else M 28 6 - M 28 6 / M 28 5 * M 28 5))))) x_SH M J) := by
  refine xb_of pX5 (Nat.le_of_ble_eq_true rfl) rfl ?_
  refine xr_aload_n dX5_isPushDue_0 0 rfl ?_
  refine xb_get (v := M 28 3) flX5_42 dX5_isPushDue_1 s_28 rfl rfl ?_
  refine xr_aload_n dX5_isPushDue_4 0 rfl ?_
  refine xb_get (v := M 28 5) flX5_26 dX5_isPushDue_5 s_28 rfl rfl ?_
  refine xb_cN (As := [.int (M 28 3), .int (M 28 5)]) (rest := []) mlX5_79 (c_X9_rest (M 28 3) (M 28 5)) dX5_isPushDue_8 rfl rfl (Nat.le_of_ble_eq_true rfl) (by decide) (by decide) ?_
  refine xr_aload_n dX5_isPushDue_11 0 rfl ?_
  refine xb_get (v := M 28 6) flX5_45 dX5_isPushDue_12 s_28 rfl rfl ?_
  refine xr_aload_n dX5_isPushDue_15 0 rfl ?_
  refine xb_get (v := M 28 5) flX5_26 dX5_isPushDue_16 s_28 rfl rfl ?_
  refine xb_cN (As := [.int (M 28 6), .int (M 28 5)]) (rest := [.int ((if (M 28 5) = 0 then 0 else (M 28 3) - (M 28 3) / (M 28 5) * (M 28 5)))]) mlX5_79 (c_X9_rest (M 28 6) (M 28 5)) dX5_isPushDue_19 rfl rfl (Nat.le_of_ble_eq_true rfl) (by decide) (by decide) ?_
  refine xr_icmp_ne (tgt := 29) dX5_isPushDue_22 rfl (fun c1 => ?_) (fun c1 => ?_)
  · refine xr_iconst (v := 0) dX5_isPushDue_29 rfl ?_
    exact xr_iret dX5_isPushDue_30 rfl rfl (⟨congrArg (fun z => some (Value.int z)) (bI_f c1).symm, rfl, rfl, rfl⟩)
  · refine xr_iconst (v := 1) dX5_isPushDue_25 rfl ?_
    refine xr_goto (tgt := 30) dX5_isPushDue_26 rfl ?_
    exact xr_iret dX5_isPushDue_30 rfl rfl (⟨congrArg (fun z => some (Value.int z)) (bI_t c1).symm, rfl, rfl, rfl⟩)
set_option maxRecDepth 100000 in
set_option maxHeartbeats 4000000 in
theorem c_goalInTurn_28 {l : Launch} {G : xG} {M : xM} {J : xJ} : x_M l G fX5_goalInTurn 1 0 0 [.ref (28)] x_SH M J (qE (some (.int (if (if M 28 5 = 0 then 0 else M 28 3 / M 28 5) - (if M 28 5 = 0 then 0 else M 28 3 / M 28 5) / 2 * 2 = 0 then 0 else 12))) x_SH M J) := by
  refine xb_of pX5 (Nat.le_of_ble_eq_true rfl) rfl ?_
  refine xr_aload_n dX5_goalInTurn_0 0 rfl ?_
  refine xb_get (v := M 28 5) flX5_26 dX5_goalInTurn_1 s_28 rfl rfl ?_
  refine xr_if_ne (tgt := 11) dX5_goalInTurn_4 rfl (fun c1 => ?_) (fun c1 => ?_)
  · refine xr_aload_n dX5_goalInTurn_11 0 rfl ?_
    refine xb_get (v := M 28 3) flX5_42 dX5_goalInTurn_12 s_28 rfl rfl ?_
    refine xr_aload_n dX5_goalInTurn_15 0 rfl ?_
    refine xb_get (v := M 28 5) flX5_26 dX5_goalInTurn_16 s_28 rfl rfl ?_
    refine xr_idiv dX5_goalInTurn_19 c1 ?_
    refine xb_cN (As := [.int (((M 28 3) / (M 28 5)))]) (rest := []) mlX5_83 (c_X9_goalOf ((M 28 3) / (M 28 5))) dX5_goalInTurn_20 rfl rfl (Nat.le_of_ble_eq_true rfl) (by decide) (by decide) ?_
    exact xr_iret dX5_goalInTurn_23 rfl rfl (⟨by first | rfl | simp [c1] | grind, rfl, rfl, rfl⟩)
  · refine xr_iconst (v := 0) dX5_goalInTurn_7 rfl ?_
    refine xr_goto (tgt := 20) dX5_goalInTurn_8 rfl ?_
    refine xb_cN (As := [.int (0)]) (rest := []) mlX5_83 (c_X9_goalOf 0) dX5_goalInTurn_20 rfl rfl (Nat.le_of_ble_eq_true rfl) (by decide) (by decide) ?_
    exact xr_iret dX5_goalInTurn_23 rfl rfl (⟨by first | rfl | simp [c1] | grind, rfl, rfl, rfl⟩)
set_option maxRecDepth 100000 in
set_option maxHeartbeats 4000000 in
theorem c0_tick {l : Launch} {G : xG} {M : xM} {J : xJ} (e : E0 M) : x_M l G fX5_tick 2 0 0 [.ref (13)] x_SH M J (qE0 (none) J) := by
  refine xb_of pX5 (Nat.le_of_ble_eq_true rfl) rfl ?_
  refine xr_aload_n dX5_tick_0 0 rfl ?_
  refine xb_cV (As := []) (rest := []) mlX5_87 (c_isPushDue_13) dX5_tick_1 s_13 rfl rfl (Nat.le_of_ble_eq_true rfl) (by decide) (by decide) ?_
  refine xb_beq (tgt := 29) dX5_tick_4 rfl (fun c1 => ?_) (fun c1 => ?_)
  · refine xr_aload_n dX5_tick_29 0 rfl ?_
    refine xr_callV (As := []) (rest := []) mlX5_98 (c0_settle_13 e) dX5_tick_30 s_13 rfl rfl (Nat.le_of_ble_eq_true rfl) (by decide) ⟨by decide, by decide⟩ (fun v s2 M2 J2 hq => ?_)
    obtain ⟨rfl, rfl, rfl, e3⟩ := hq
    try dsimp only [Option.toList, List.cons_append, List.nil_append]
    exact xr_vret dX5_tick_33 rfl (⟨rfl, rfl, rfl, e3⟩)
  · refine xr_aload_n dX5_tick_7 0 rfl ?_
    refine xr_aload_n dX5_tick_8 0 rfl ?_
    refine xb_get (v := M 13 7) flX5_29 dX5_tick_9 s_13 rfl rfl ?_
    refine xr_aload_n dX5_tick_12 0 rfl ?_
    refine xb_cV (As := []) (rest := [.int (M 13 7), .ref (13)]) mlX5_90 (c_goalInTurn_13) dX5_tick_13 s_13 rfl rfl (Nat.le_of_ble_eq_true rfl) (by decide) (by decide) ?_
    refine xb_cV (As := [.int (M 13 7), .int ((if (if M 13 5 = 0 then 0 else M 13 3 / M 13 5) - (if M 13 5 = 0 then 0 else M 13 3 / M 13 5) / 2 * 2 = 0 then 0 else 12))]) (rest := []) mlX5_94 (c0_push_13 (M 13 7) (if (if M 13 5 = 0 then 0 else M 13 3 / M 13 5) - (if M 13 5 = 0 then 0 else M 13 3 / M 13 5) / 2 * 2 = 0 then 0 else 12) e) dX5_tick_16 s_13 rfl rfl (Nat.le_of_ble_eq_true rfl) (by decide) (by decide) ?_
    refine xr_aload_n dX5_tick_19 0 rfl ?_
    refine xr_dup dX5_tick_20 rfl ?_
    refine xb_get (v := M 13 8) flX5_48 dX5_tick_21 s_13 rfl rfl ?_
    refine xr_iconst (v := 1) dX5_tick_24 rfl ?_
    refine xr_iadd dX5_tick_25 ?_
    refine xr_putI fpX5_48 dX5_tick_26 s_13 rfl rfl rfl ?_
    refine xr_aload_n dX5_tick_29 0 rfl ?_
    refine xr_callV (As := []) (rest := []) mlX5_98 (c0_settle_13 (E0_up (by decide) e)) dX5_tick_30 s_13 rfl rfl (Nat.le_of_ble_eq_true rfl) (by decide) ⟨by decide, by decide⟩ (fun v s2 M4 J2 hq => ?_)
    obtain ⟨rfl, rfl, rfl, e5⟩ := hq
    try dsimp only [Option.toList, List.cons_append, List.nil_append]
    exact xr_vret dX5_tick_33 rfl (⟨rfl, rfl, rfl, e5⟩)
set_option maxRecDepth 100000 in
set_option maxHeartbeats 4000000 in
theorem c0_copy_28 {l : Launch} {G : xG} {M : xM} {J : xJ} (e : E0 M) : x_M l G fX5_copy 0 0 0 [.ref (28), .ref (13)] x_SH M J (qE0 (none) J) := by
  refine xb_of pX5 (Nat.le_of_ble_eq_true rfl) rfl ?_
  refine xr_iconst (v := 0) dX5_copy_0 rfl ?_
  refine xr_istore_n (ls2 := [(2, .int (0)), (0, .ref (28)), (1, .ref (13))]) dX5_copy_1 (by decide) rfl ?_
  refine xr_iload_n dX5_copy_2 0 rfl ?_
  refine xr_aload_n dX5_copy_3 2 rfl ?_
  refine xb_get (v := 0) flX5_35 dX5_copy_4 s_13 rfl e.1 ?_
  refine xr_icmp_ge (tgt := 31) dX5_copy_7 rfl (fun _ => ?_) (fun c => absurd (by decide) c)
  refine xr_aload_n dX5_copy_31 1 rfl ?_
  refine xr_aload_n dX5_copy_32 2 rfl ?_
  refine xb_get (v := 0) flX5_35 dX5_copy_33 s_13 rfl e.1 ?_
  refine xr_putI fpX5_35 dX5_copy_36 s_28 rfl rfl rfl ?_
  refine xr_aload_n dX5_copy_39 1 rfl ?_
  refine xr_aload_n dX5_copy_40 2 rfl ?_
  refine xb_get (v := M 13 3) flX5_42 dX5_copy_41 s_13 rfl (Eq.trans (congrFun (x_up_n _ _ _ (by decide)) _) rfl) ?_
  refine xr_putI fpX5_42 dX5_copy_44 s_28 rfl rfl rfl ?_
  refine xr_aload_n dX5_copy_47 1 rfl ?_
  refine xr_aload_n dX5_copy_48 2 rfl ?_
  refine xb_get (v := M 13 4) flX5_22 dX5_copy_49 s_13 rfl (Eq.trans (congrFun (x_up_n _ _ _ (by decide)) _) (Eq.trans (congrFun (x_up_n _ _ _ (by decide)) _) rfl)) ?_
  refine xr_putI fpX5_22 dX5_copy_52 s_28 rfl rfl rfl ?_
  refine xr_aload_n dX5_copy_55 1 rfl ?_
  refine xr_aload_n dX5_copy_56 2 rfl ?_
  refine xb_get (v := M 13 5) flX5_26 dX5_copy_57 s_13 rfl (Eq.trans (congrFun (x_up_n _ _ _ (by decide)) _) (Eq.trans (congrFun (x_up_n _ _ _ (by decide)) _) (Eq.trans (congrFun (x_up_n _ _ _ (by decide)) _) rfl))) ?_
  refine xr_putI fpX5_26 dX5_copy_60 s_28 rfl rfl rfl ?_
  refine xr_aload_n dX5_copy_63 1 rfl ?_
  refine xr_aload_n dX5_copy_64 2 rfl ?_
  refine xb_get (v := M 13 6) flX5_45 dX5_copy_65 s_13 rfl (Eq.trans (congrFun (x_up_n _ _ _ (by decide)) _) (Eq.trans (congrFun (x_up_n _ _ _ (by decide)) _) (Eq.trans (congrFun (x_up_n _ _ _ (by decide)) _) (Eq.trans (congrFun (x_up_n _ _ _ (by decide)) _) rfl)))) ?_
  refine xr_putI fpX5_45 dX5_copy_68 s_28 rfl rfl rfl ?_
  refine xr_aload_n dX5_copy_71 1 rfl ?_
  refine xr_aload_n dX5_copy_72 2 rfl ?_
  refine xb_get (v := M 13 7) flX5_29 dX5_copy_73 s_13 rfl (Eq.trans (congrFun (x_up_n _ _ _ (by decide)) _) (Eq.trans (congrFun (x_up_n _ _ _ (by decide)) _) (Eq.trans (congrFun (x_up_n _ _ _ (by decide)) _) (Eq.trans (congrFun (x_up_n _ _ _ (by decide)) _) (Eq.trans (congrFun (x_up_n _ _ _ (by decide)) _) rfl))))) ?_
  refine xr_putI fpX5_29 dX5_copy_76 s_28 rfl rfl rfl ?_
  refine xr_aload_n dX5_copy_79 1 rfl ?_
  refine xr_aload_n dX5_copy_80 2 rfl ?_
  refine xb_get (v := M 13 8) flX5_48 dX5_copy_81 s_13 rfl (Eq.trans (congrFun (x_up_n _ _ _ (by decide)) _) (Eq.trans (congrFun (x_up_n _ _ _ (by decide)) _) (Eq.trans (congrFun (x_up_n _ _ _ (by decide)) _) (Eq.trans (congrFun (x_up_n _ _ _ (by decide)) _) (Eq.trans (congrFun (x_up_n _ _ _ (by decide)) _) (Eq.trans (congrFun (x_up_n _ _ _ (by decide)) _) rfl)))))) ?_
  refine xr_putI fpX5_48 dX5_copy_84 s_28 rfl rfl rfl ?_
  refine xr_aload_n dX5_copy_87 1 rfl ?_
  refine xr_aload_n dX5_copy_88 2 rfl ?_
  refine xb_get (v := M 13 9) flX5_32 dX5_copy_89 s_13 rfl (Eq.trans (congrFun (x_up_n _ _ _ (by decide)) _) (Eq.trans (congrFun (x_up_n _ _ _ (by decide)) _) (Eq.trans (congrFun (x_up_n _ _ _ (by decide)) _) (Eq.trans (congrFun (x_up_n _ _ _ (by decide)) _) (Eq.trans (congrFun (x_up_n _ _ _ (by decide)) _) (Eq.trans (congrFun (x_up_n _ _ _ (by decide)) _) (Eq.trans (congrFun (x_up_n _ _ _ (by decide)) _) rfl))))))) ?_
  refine xr_putI fpX5_32 dX5_copy_92 s_28 rfl rfl rfl ?_
  exact xr_vret dX5_copy_95 rfl (⟨rfl, rfl, rfl, (E0_up (by decide) (E0_up (by decide) (E0_up (by decide) (E0_up (by decide) (E0_up (by decide) (E0_up (by decide) (E0_up (by decide) (E0_up0 e))))))))⟩)
set_option maxRecDepth 100000 in
set_option maxHeartbeats 4000000 in
theorem c0_copy_20 {l : Launch} {G : xG} {M : xM} {J : xJ} (e : E0 M) : x_M l G fX5_copy 0 0 0 [.ref (20), .ref (13)] x_SH M J (qE0 (none) J) := by
  refine xb_of pX5 (Nat.le_of_ble_eq_true rfl) rfl ?_
  refine xr_iconst (v := 0) dX5_copy_0 rfl ?_
  refine xr_istore_n (ls2 := [(2, .int (0)), (0, .ref (20)), (1, .ref (13))]) dX5_copy_1 (by decide) rfl ?_
  refine xr_iload_n dX5_copy_2 0 rfl ?_
  refine xr_aload_n dX5_copy_3 2 rfl ?_
  refine xb_get (v := 0) flX5_35 dX5_copy_4 s_13 rfl e.1 ?_
  refine xr_icmp_ge (tgt := 31) dX5_copy_7 rfl (fun _ => ?_) (fun c => absurd (by decide) c)
  refine xr_aload_n dX5_copy_31 1 rfl ?_
  refine xr_aload_n dX5_copy_32 2 rfl ?_
  refine xb_get (v := 0) flX5_35 dX5_copy_33 s_13 rfl e.1 ?_
  refine xr_putI fpX5_35 dX5_copy_36 s_20 rfl rfl rfl ?_
  refine xr_aload_n dX5_copy_39 1 rfl ?_
  refine xr_aload_n dX5_copy_40 2 rfl ?_
  refine xb_get (v := M 13 3) flX5_42 dX5_copy_41 s_13 rfl (Eq.trans (congrFun (x_up_n _ _ _ (by decide)) _) rfl) ?_
  refine xr_putI fpX5_42 dX5_copy_44 s_20 rfl rfl rfl ?_
  refine xr_aload_n dX5_copy_47 1 rfl ?_
  refine xr_aload_n dX5_copy_48 2 rfl ?_
  refine xb_get (v := M 13 4) flX5_22 dX5_copy_49 s_13 rfl (Eq.trans (congrFun (x_up_n _ _ _ (by decide)) _) (Eq.trans (congrFun (x_up_n _ _ _ (by decide)) _) rfl)) ?_
  refine xr_putI fpX5_22 dX5_copy_52 s_20 rfl rfl rfl ?_
  refine xr_aload_n dX5_copy_55 1 rfl ?_
  refine xr_aload_n dX5_copy_56 2 rfl ?_
  refine xb_get (v := M 13 5) flX5_26 dX5_copy_57 s_13 rfl (Eq.trans (congrFun (x_up_n _ _ _ (by decide)) _) (Eq.trans (congrFun (x_up_n _ _ _ (by decide)) _) (Eq.trans (congrFun (x_up_n _ _ _ (by decide)) _) rfl))) ?_
  refine xr_putI fpX5_26 dX5_copy_60 s_20 rfl rfl rfl ?_
  refine xr_aload_n dX5_copy_63 1 rfl ?_
  refine xr_aload_n dX5_copy_64 2 rfl ?_
  refine xb_get (v := M 13 6) flX5_45 dX5_copy_65 s_13 rfl (Eq.trans (congrFun (x_up_n _ _ _ (by decide)) _) (Eq.trans (congrFun (x_up_n _ _ _ (by decide)) _) (Eq.trans (congrFun (x_up_n _ _ _ (by decide)) _) (Eq.trans (congrFun (x_up_n _ _ _ (by decide)) _) rfl)))) ?_
  refine xr_putI fpX5_45 dX5_copy_68 s_20 rfl rfl rfl ?_
  refine xr_aload_n dX5_copy_71 1 rfl ?_
  refine xr_aload_n dX5_copy_72 2 rfl ?_
  refine xb_get (v := M 13 7) flX5_29 dX5_copy_73 s_13 rfl (Eq.trans (congrFun (x_up_n _ _ _ (by decide)) _) (Eq.trans (congrFun (x_up_n _ _ _ (by decide)) _) (Eq.trans (congrFun (x_up_n _ _ _ (by decide)) _) (Eq.trans (congrFun (x_up_n _ _ _ (by decide)) _) (Eq.trans (congrFun (x_up_n _ _ _ (by decide)) _) rfl))))) ?_
  refine xr_putI fpX5_29 dX5_copy_76 s_20 rfl rfl rfl ?_
  refine xr_aload_n dX5_copy_79 1 rfl ?_
  refine xr_aload_n dX5_copy_80 2 rfl ?_
  refine xb_get (v := M 13 8) flX5_48 dX5_copy_81 s_13 rfl (Eq.trans (congrFun (x_up_n _ _ _ (by decide)) _) (Eq.trans (congrFun (x_up_n _ _ _ (by decide)) _) (Eq.trans (congrFun (x_up_n _ _ _ (by decide)) _) (Eq.trans (congrFun (x_up_n _ _ _ (by decide)) _) (Eq.trans (congrFun (x_up_n _ _ _ (by decide)) _) (Eq.trans (congrFun (x_up_n _ _ _ (by decide)) _) rfl)))))) ?_
  refine xr_putI fpX5_48 dX5_copy_84 s_20 rfl rfl rfl ?_
  refine xr_aload_n dX5_copy_87 1 rfl ?_
  refine xr_aload_n dX5_copy_88 2 rfl ?_
  refine xb_get (v := M 13 9) flX5_32 dX5_copy_89 s_13 rfl (Eq.trans (congrFun (x_up_n _ _ _ (by decide)) _) (Eq.trans (congrFun (x_up_n _ _ _ (by decide)) _) (Eq.trans (congrFun (x_up_n _ _ _ (by decide)) _) (Eq.trans (congrFun (x_up_n _ _ _ (by decide)) _) (Eq.trans (congrFun (x_up_n _ _ _ (by decide)) _) (Eq.trans (congrFun (x_up_n _ _ _ (by decide)) _) (Eq.trans (congrFun (x_up_n _ _ _ (by decide)) _) rfl))))))) ?_
  refine xr_putI fpX5_32 dX5_copy_92 s_20 rfl rfl rfl ?_
  exact xr_vret dX5_copy_95 rfl (⟨rfl, rfl, rfl, (E0_up (by decide) (E0_up (by decide) (E0_up (by decide) (E0_up (by decide) (E0_up (by decide) (E0_up (by decide) (E0_up (by decide) (E0_up0 e))))))))⟩)
set_option maxRecDepth 100000 in
set_option maxHeartbeats 4000000 in
theorem c0_begin {l : Launch} {G : xG} {M : xM} {J : xJ} (e : E0 M) : x_M l G fX7_begin 1 0 0 [.ref (27)] x_SH M J (qE0 (none) J) := by
  refine xb_of pX7 (Nat.le_of_ble_eq_true rfl) rfl ?_
  refine xr_aload_n dX7_begin_0 0 rfl ?_
  refine xr_getR flX7_15 dX7_begin_1 s_27 rfl ?_
  refine xr_aload_n dX7_begin_4 0 rfl ?_
  refine xr_getR flX7_9 dX7_begin_5 s_27 rfl ?_
  refine xr_callV (As := [.ref (13)]) (rest := []) mlX7_18 (c0_copy_28 e) dX7_begin_8 s_28 rfl rfl (Nat.le_of_ble_eq_true rfl) (by decide) ⟨by decide, by decide⟩ (fun v s2 M1 J2 hq => ?_)
  obtain ⟨rfl, rfl, rfl, e2⟩ := hq
  try dsimp only [Option.toList, List.cons_append, List.nil_append]
  refine xr_aload_n dX7_begin_11 0 rfl ?_
  refine xr_iconst (v := 0) dX7_begin_12 rfl ?_
  refine xr_putI fpX7_24 dX7_begin_13 s_27 rfl rfl rfl ?_
  refine xr_aload_n dX7_begin_16 0 rfl ?_
  refine xr_iconst (v := 0) dX7_begin_17 rfl ?_
  refine xr_putI fpX7_28 dX7_begin_18 s_27 rfl rfl rfl ?_
  refine xr_aload_n dX7_begin_21 0 rfl ?_
  refine xr_iconst (v := -1) dX7_begin_22 rfl ?_
  refine xr_putI fpX7_31 dX7_begin_23 s_27 rfl rfl rfl ?_
  refine xr_aload_n dX7_begin_26 0 rfl ?_
  refine xr_iconst (v := -1) dX7_begin_27 rfl ?_
  refine xr_putI fpX7_34 dX7_begin_28 s_27 rfl rfl rfl ?_
  exact xr_vret dX7_begin_31 rfl (⟨rfl, rfl, rfl, (E0_up (by decide) (E0_up (by decide) (E0_up0 (E0_up0 e2))))⟩)
set_option maxRecDepth 100000 in
set_option maxHeartbeats 4000000 in
theorem c0_step {l : Launch} {G : xG} {M : xM} {J : xJ} (e : E0 M) : x_M l G fX7_step 2 0 0 [.ref (27)] x_SH M J (qE0 (none) J) := by
  refine xb_of pX7 (Nat.le_of_ble_eq_true rfl) rfl ?_
  refine xr_aload_n dX7_step_0 0 rfl ?_
  refine xr_getR flX7_15 dX7_step_1 s_27 rfl ?_
  refine xb_cV (As := []) (rest := []) mlX7_43 (c_isPushDue_28) dX7_step_4 s_28 rfl rfl (Nat.le_of_ble_eq_true rfl) (by decide) (by decide) ?_
  refine xb_beq (tgt := 52) dX7_step_7 rfl (fun c1 => ?_) (fun c1 => ?_)
  · refine xr_aload_n dX7_step_52 0 rfl ?_
    refine xb_get (v := M 27 2) flX7_24 dX7_step_53 s_27 rfl rfl ?_
    refine xr_aload_n dX7_step_56 0 rfl ?_
    refine xb_get (v := M 27 5) flX7_34 dX7_step_57 s_27 rfl rfl ?_
    refine xr_icmp_ne (tgt := 78) dX7_step_60 rfl (fun c2 => ?_) (fun c2 => ?_)
    · refine xr_aload_n dX7_step_78 0 rfl ?_
      refine xr_getR flX7_15 dX7_step_79 s_27 rfl ?_
      refine xr_callV (As := []) (rest := []) mlX7_58 (c0_settle_28 e) dX7_step_82 s_28 rfl rfl (Nat.le_of_ble_eq_true rfl) (by decide) ⟨by decide, by decide⟩ (fun v s2 M3 J2 hq => ?_)
      obtain ⟨rfl, rfl, rfl, e4⟩ := hq
      try dsimp only [Option.toList, List.cons_append, List.nil_append]
      refine xr_aload_n dX7_step_85 0 rfl ?_
      refine xr_dup dX7_step_86 rfl ?_
      refine xb_get (v := M3 27 2) flX7_24 dX7_step_87 s_27 rfl rfl ?_
      refine xr_iconst (v := 1) dX7_step_90 rfl ?_
      refine xr_iadd dX7_step_91 ?_
      refine xr_putI fpX7_24 dX7_step_92 s_27 rfl rfl rfl ?_
      exact xr_vret dX7_step_95 rfl (⟨rfl, rfl, rfl, (E0_up (by decide) e4)⟩)
    · refine xr_aload_n dX7_step_63 0 rfl ?_
      refine xr_getR flX7_15 dX7_step_64 s_27 rfl ?_
      refine xr_aload_n dX7_step_67 0 rfl ?_
      refine xb_get (v := M 27 6) flX7_37 dX7_step_68 s_27 rfl rfl ?_
      refine xr_aload_n dX7_step_71 0 rfl ?_
      refine xb_get (v := M 27 7) flX7_40 dX7_step_72 s_27 rfl rfl ?_
      refine xb_cV (As := [.int (M 27 6), .int (M 27 7)]) (rest := []) mlX7_54 (c0_push_28 (M 27 6) (M 27 7) e) dX7_step_75 s_28 rfl rfl (Nat.le_of_ble_eq_true rfl) (by decide) (by decide) ?_
      refine xr_aload_n dX7_step_78 0 rfl ?_
      refine xr_getR flX7_15 dX7_step_79 s_27 rfl ?_
      refine xr_callV (As := []) (rest := []) mlX7_58 (c0_settle_28 e) dX7_step_82 s_28 rfl rfl (Nat.le_of_ble_eq_true rfl) (by decide) ⟨by decide, by decide⟩ (fun v s2 M5 J2 hq => ?_)
      obtain ⟨rfl, rfl, rfl, e6⟩ := hq
      try dsimp only [Option.toList, List.cons_append, List.nil_append]
      refine xr_aload_n dX7_step_85 0 rfl ?_
      refine xr_dup dX7_step_86 rfl ?_
      refine xb_get (v := M5 27 2) flX7_24 dX7_step_87 s_27 rfl rfl ?_
      refine xr_iconst (v := 1) dX7_step_90 rfl ?_
      refine xr_iadd dX7_step_91 ?_
      refine xr_putI fpX7_24 dX7_step_92 s_27 rfl rfl rfl ?_
      exact xr_vret dX7_step_95 rfl (⟨rfl, rfl, rfl, (E0_up (by decide) e6)⟩)
  · refine xr_aload_n dX7_step_10 0 rfl ?_
    refine xb_get (v := M 27 3) flX7_28 dX7_step_11 s_27 rfl rfl ?_
    refine xr_aload_n dX7_step_14 0 rfl ?_
    refine xb_get (v := M 27 4) flX7_31 dX7_step_15 s_27 rfl rfl ?_
    refine xr_icmp_eq (tgt := 42) dX7_step_18 rfl (fun c7 => ?_) (fun c7 => ?_)
    · refine xr_aload_n dX7_step_42 0 rfl ?_
      refine xr_dup dX7_step_43 rfl ?_
      refine xb_get (v := M 27 3) flX7_28 dX7_step_44 s_27 rfl rfl ?_
      refine xr_iconst (v := 1) dX7_step_47 rfl ?_
      refine xr_iadd dX7_step_48 ?_
      refine xr_putI fpX7_28 dX7_step_49 s_27 rfl rfl rfl ?_
      refine xr_aload_n dX7_step_52 0 rfl ?_
      refine xb_get (v := M 27 2) flX7_24 dX7_step_53 s_27 rfl (Eq.trans (x_up_k _ _ _ (by decide)) rfl) ?_
      refine xr_aload_n dX7_step_56 0 rfl ?_
      refine xb_get (v := M 27 5) flX7_34 dX7_step_57 s_27 rfl (Eq.trans (x_up_k _ _ _ (by decide)) rfl) ?_
      refine xr_icmp_ne (tgt := 78) dX7_step_60 rfl (fun c8 => ?_) (fun c8 => ?_)
      · refine xr_aload_n dX7_step_78 0 rfl ?_
        refine xr_getR flX7_15 dX7_step_79 s_27 rfl ?_
        refine xr_callV (As := []) (rest := []) mlX7_58 (c0_settle_28 (E0_up (by decide) e)) dX7_step_82 s_28 rfl rfl (Nat.le_of_ble_eq_true rfl) (by decide) ⟨by decide, by decide⟩ (fun v s2 M9 J2 hq => ?_)
        obtain ⟨rfl, rfl, rfl, e10⟩ := hq
        try dsimp only [Option.toList, List.cons_append, List.nil_append]
        refine xr_aload_n dX7_step_85 0 rfl ?_
        refine xr_dup dX7_step_86 rfl ?_
        refine xb_get (v := M9 27 2) flX7_24 dX7_step_87 s_27 rfl rfl ?_
        refine xr_iconst (v := 1) dX7_step_90 rfl ?_
        refine xr_iadd dX7_step_91 ?_
        refine xr_putI fpX7_24 dX7_step_92 s_27 rfl rfl rfl ?_
        exact xr_vret dX7_step_95 rfl (⟨rfl, rfl, rfl, (E0_up (by decide) e10)⟩)
      · refine xr_aload_n dX7_step_63 0 rfl ?_
        refine xr_getR flX7_15 dX7_step_64 s_27 rfl ?_
        refine xr_aload_n dX7_step_67 0 rfl ?_
        refine xb_get (v := M 27 6) flX7_37 dX7_step_68 s_27 rfl (Eq.trans (x_up_k _ _ _ (by decide)) rfl) ?_
        refine xr_aload_n dX7_step_71 0 rfl ?_
        refine xb_get (v := M 27 7) flX7_40 dX7_step_72 s_27 rfl (Eq.trans (x_up_k _ _ _ (by decide)) rfl) ?_
        refine xb_cV (As := [.int (M 27 6), .int (M 27 7)]) (rest := []) mlX7_54 (c0_push_28 (M 27 6) (M 27 7) (E0_up (by decide) e)) dX7_step_75 s_28 rfl rfl (Nat.le_of_ble_eq_true rfl) (by decide) (by decide) ?_
        refine xr_aload_n dX7_step_78 0 rfl ?_
        refine xr_getR flX7_15 dX7_step_79 s_27 rfl ?_
        refine xr_callV (As := []) (rest := []) mlX7_58 (c0_settle_28 (E0_up (by decide) e)) dX7_step_82 s_28 rfl rfl (Nat.le_of_ble_eq_true rfl) (by decide) ⟨by decide, by decide⟩ (fun v s2 M11 J2 hq => ?_)
        obtain ⟨rfl, rfl, rfl, e12⟩ := hq
        try dsimp only [Option.toList, List.cons_append, List.nil_append]
        refine xr_aload_n dX7_step_85 0 rfl ?_
        refine xr_dup dX7_step_86 rfl ?_
        refine xb_get (v := M11 27 2) flX7_24 dX7_step_87 s_27 rfl rfl ?_
        refine xr_iconst (v := 1) dX7_step_90 rfl ?_
        refine xr_iadd dX7_step_91 ?_
        refine xr_putI fpX7_24 dX7_step_92 s_27 rfl rfl rfl ?_
        exact xr_vret dX7_step_95 rfl (⟨rfl, rfl, rfl, (E0_up (by decide) e12)⟩)
    · refine xr_aload_n dX7_step_21 0 rfl ?_
      refine xr_getR flX7_15 dX7_step_22 s_27 rfl ?_
      refine xr_aload_n dX7_step_25 0 rfl ?_
      refine xr_getR flX7_15 dX7_step_26 s_27 rfl ?_
      refine xb_get (v := M 28 7) flX7_47 dX7_step_29 s_28 rfl rfl ?_
      refine xr_aload_n dX7_step_32 0 rfl ?_
      refine xr_getR flX7_15 dX7_step_33 s_27 rfl ?_
      refine xb_cV (As := []) (rest := [.int (M 28 7), .ref (28)]) mlX7_50 (c_goalInTurn_28) dX7_step_36 s_28 rfl rfl (Nat.le_of_ble_eq_true rfl) (by decide) (by decide) ?_
      refine xb_cV (As := [.int (M 28 7), .int ((if (if M 28 5 = 0 then 0 else M 28 3 / M 28 5) - (if M 28 5 = 0 then 0 else M 28 3 / M 28 5) / 2 * 2 = 0 then 0 else 12))]) (rest := []) mlX7_54 (c0_push_28 (M 28 7) (if (if M 28 5 = 0 then 0 else M 28 3 / M 28 5) - (if M 28 5 = 0 then 0 else M 28 3 / M 28 5) / 2 * 2 = 0 then 0 else 12) e) dX7_step_39 s_28 rfl rfl (Nat.le_of_ble_eq_true rfl) (by decide) (by decide) ?_
      refine xr_aload_n dX7_step_42 0 rfl ?_
      refine xr_dup dX7_step_43 rfl ?_
      refine xb_get (v := M 27 3) flX7_28 dX7_step_44 s_27 rfl rfl ?_
      refine xr_iconst (v := 1) dX7_step_47 rfl ?_
      refine xr_iadd dX7_step_48 ?_
      refine xr_putI fpX7_28 dX7_step_49 s_27 rfl rfl rfl ?_
      refine xr_aload_n dX7_step_52 0 rfl ?_
      refine xb_get (v := M 27 2) flX7_24 dX7_step_53 s_27 rfl (Eq.trans (x_up_k _ _ _ (by decide)) rfl) ?_
      refine xr_aload_n dX7_step_56 0 rfl ?_
      refine xb_get (v := M 27 5) flX7_34 dX7_step_57 s_27 rfl (Eq.trans (x_up_k _ _ _ (by decide)) rfl) ?_
      refine xr_icmp_ne (tgt := 78) dX7_step_60 rfl (fun c13 => ?_) (fun c13 => ?_)
      · refine xr_aload_n dX7_step_78 0 rfl ?_
        refine xr_getR flX7_15 dX7_step_79 s_27 rfl ?_
        refine xr_callV (As := []) (rest := []) mlX7_58 (c0_settle_28 (E0_up (by decide) e)) dX7_step_82 s_28 rfl rfl (Nat.le_of_ble_eq_true rfl) (by decide) ⟨by decide, by decide⟩ (fun v s2 M14 J2 hq => ?_)
        obtain ⟨rfl, rfl, rfl, e15⟩ := hq
        try dsimp only [Option.toList, List.cons_append, List.nil_append]
        refine xr_aload_n dX7_step_85 0 rfl ?_
        refine xr_dup dX7_step_86 rfl ?_
        refine xb_get (v := M14 27 2) flX7_24 dX7_step_87 s_27 rfl rfl ?_
        refine xr_iconst (v := 1) dX7_step_90 rfl ?_
        refine xr_iadd dX7_step_91 ?_
        refine xr_putI fpX7_24 dX7_step_92 s_27 rfl rfl rfl ?_
        exact xr_vret dX7_step_95 rfl (⟨rfl, rfl, rfl, (E0_up (by decide) e15)⟩)
      · refine xr_aload_n dX7_step_63 0 rfl ?_
        refine xr_getR flX7_15 dX7_step_64 s_27 rfl ?_
        refine xr_aload_n dX7_step_67 0 rfl ?_
        refine xb_get (v := M 27 6) flX7_37 dX7_step_68 s_27 rfl (Eq.trans (x_up_k _ _ _ (by decide)) rfl) ?_
        refine xr_aload_n dX7_step_71 0 rfl ?_
        refine xb_get (v := M 27 7) flX7_40 dX7_step_72 s_27 rfl (Eq.trans (x_up_k _ _ _ (by decide)) rfl) ?_
        refine xb_cV (As := [.int (M 27 6), .int (M 27 7)]) (rest := []) mlX7_54 (c0_push_28 (M 27 6) (M 27 7) (E0_up (by decide) e)) dX7_step_75 s_28 rfl rfl (Nat.le_of_ble_eq_true rfl) (by decide) (by decide) ?_
        refine xr_aload_n dX7_step_78 0 rfl ?_
        refine xr_getR flX7_15 dX7_step_79 s_27 rfl ?_
        refine xr_callV (As := []) (rest := []) mlX7_58 (c0_settle_28 (E0_up (by decide) e)) dX7_step_82 s_28 rfl rfl (Nat.le_of_ble_eq_true rfl) (by decide) ⟨by decide, by decide⟩ (fun v s2 M16 J2 hq => ?_)
        obtain ⟨rfl, rfl, rfl, e17⟩ := hq
        try dsimp only [Option.toList, List.cons_append, List.nil_append]
        refine xr_aload_n dX7_step_85 0 rfl ?_
        refine xr_dup dX7_step_86 rfl ?_
        refine xb_get (v := M16 27 2) flX7_24 dX7_step_87 s_27 rfl rfl ?_
        refine xr_iconst (v := 1) dX7_step_90 rfl ?_
        refine xr_iadd dX7_step_91 ?_
        refine xr_putI fpX7_24 dX7_step_92 s_27 rfl rfl rfl ?_
        exact xr_vret dX7_step_95 rfl (⟨rfl, rfl, rfl, (E0_up (by decide) e17)⟩)
end
