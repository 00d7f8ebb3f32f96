section
-- ===== PART A: goes FIRST, ahead of the names: the tables' words, and 'selects' of the private methods out of them =====
/-- a private method of a class that the tables say can be made, by its rows of tables_1 -/
def lw_okq (q : MethodName × Nat) : Prop := (q.1.cls ≠ "java/lang/invoke/MethodHandle" ∧ q.1.cls ≠ "java/lang/invoke/VarHandle") ∧ Cond.instantiable q.1.cls q.2 ∈ tables_1 ∧ Cond.privateMethod q.1 ∈ tables_1 ∧ Cond.instanceMethod q.1 ∈ tables_1
theorem lw_p0 : lw_okq (⟨"OneGoCeiling", "error", "(I)I"⟩, 9) := ⟨⟨by decide +kernel, by decide +kernel⟩, List.mem_of_getElem? (i := 16) (by decide +kernel), List.mem_of_getElem? (i := 317) (by decide +kernel), List.mem_of_getElem? (i := 318) (by decide +kernel)⟩
theorem lw_p1 : lw_okq (⟨"OneGoCeiling", "textOf", "(I)LOneGoCeiling$Text;"⟩, 9) := ⟨⟨by decide +kernel, by decide +kernel⟩, List.mem_of_getElem? (i := 16) (by decide +kernel), List.mem_of_getElem? (i := 502) (by decide +kernel), List.mem_of_getElem? (i := 503) (by decide +kernel)⟩
theorem lw_p2 : lw_okq (⟨"OneGoCeiling$Reader", "readT", "(I)V"⟩, 5) := ⟨⟨by decide +kernel, by decide +kernel⟩, List.mem_of_getElem? (i := 157) (by decide +kernel), List.mem_of_getElem? (i := 514) (by decide +kernel), List.mem_of_getElem? (i := 515) (by decide +kernel)⟩
theorem lw_p3 : lw_okq (⟨"OneGoCeiling$Reader", "readA", "(I)V"⟩, 5) := ⟨⟨by decide +kernel, by decide +kernel⟩, List.mem_of_getElem? (i := 157) (by decide +kernel), List.mem_of_getElem? (i := 518) (by decide +kernel), List.mem_of_getElem? (i := 519) (by decide +kernel)⟩
theorem lw_p4 : lw_okq (⟨"OneGoCeiling$Reader", "readB", "(I)V"⟩, 5) := ⟨⟨by decide +kernel, by decide +kernel⟩, List.mem_of_getElem? (i := 157) (by decide +kernel), List.mem_of_getElem? (i := 522) (by decide +kernel), List.mem_of_getElem? (i := 523) (by decide +kernel)⟩
theorem lw_p5 : lw_okq (⟨"OneGoCeiling$Reader", "readS", "(I)V"⟩, 5) := ⟨⟨by decide +kernel, by decide +kernel⟩, List.mem_of_getElem? (i := 157) (by decide +kernel), List.mem_of_getElem? (i := 526) (by decide +kernel), List.mem_of_getElem? (i := 527) (by decide +kernel)⟩
theorem lw_p6 : lw_okq (⟨"OneGoCeiling$Reader", "readP", "(I)V"⟩, 5) := ⟨⟨by decide +kernel, by decide +kernel⟩, List.mem_of_getElem? (i := 157) (by decide +kernel), List.mem_of_getElem? (i := 530) (by decide +kernel), List.mem_of_getElem? (i := 531) (by decide +kernel)⟩
theorem lw_p7 : lw_okq (⟨"OneGoCeiling$Reader", "readQ", "(I)V"⟩, 5) := ⟨⟨by decide +kernel, by decide +kernel⟩, List.mem_of_getElem? (i := 157) (by decide +kernel), List.mem_of_getElem? (i := 534) (by decide +kernel), List.mem_of_getElem? (i := 535) (by decide +kernel)⟩
theorem lw_p8 : lw_okq (⟨"OneGoCeiling$Reader", "next", "()I"⟩, 5) := ⟨⟨by decide +kernel, by decide +kernel⟩, List.mem_of_getElem? (i := 157) (by decide +kernel), List.mem_of_getElem? (i := 538) (by decide +kernel), List.mem_of_getElem? (i := 539) (by decide +kernel)⟩
theorem lw_p9 : lw_okq (⟨"OneGoCeiling$Reader", "readNumber", "()V"⟩, 5) := ⟨⟨by decide +kernel, by decide +kernel⟩, List.mem_of_getElem? (i := 157) (by decide +kernel), List.mem_of_getElem? (i := 547) (by decide +kernel), List.mem_of_getElem? (i := 548) (by decide +kernel)⟩
theorem lw_p10 : lw_okq (⟨"OneGoCeiling$Reader", "emit", "(I)V"⟩, 5) := ⟨⟨by decide +kernel, by decide +kernel⟩, List.mem_of_getElem? (i := 157) (by decide +kernel), List.mem_of_getElem? (i := 556) (by decide +kernel), List.mem_of_getElem? (i := 557) (by decide +kernel)⟩
theorem lw_p11 : lw_okq (⟨"OneGoCeiling$Reader", "nextIs", "(I)Z"⟩, 5) := ⟨⟨by decide +kernel, by decide +kernel⟩, List.mem_of_getElem? (i := 157) (by decide +kernel), List.mem_of_getElem? (i := 560) (by decide +kernel), List.mem_of_getElem? (i := 561) (by decide +kernel)⟩
theorem lw_p12 : lw_okq (⟨"OneGoCeiling$Ceiling", "openCan", "()V"⟩, 10) := ⟨⟨by decide +kernel, by decide +kernel⟩, List.mem_of_getElem? (i := 30) (by decide +kernel), List.mem_of_getElem? (i := 599) (by decide +kernel), List.mem_of_getElem? (i := 600) (by decide +kernel)⟩
theorem lw_p13 : lw_okq (⟨"OneGoCeiling$State", "draw", "(I)I"⟩, 7) := ⟨⟨by decide +kernel, by decide +kernel⟩, List.mem_of_getElem? (i := 24) (by decide +kernel), List.mem_of_getElem? (i := 632) (by decide +kernel), List.mem_of_getElem? (i := 633) (by decide +kernel)⟩
theorem lw_p14 : lw_okq (⟨"OneGoCeiling", "sheetOf", "(I)LOneGoCeiling$Sheet;"⟩, 9) := ⟨⟨by decide +kernel, by decide +kernel⟩, List.mem_of_getElem? (i := 16) (by decide +kernel), List.mem_of_getElem? (i := 683) (by decide +kernel), List.mem_of_getElem? (i := 684) (by decide +kernel)⟩
theorem lw_p15 : lw_okq (⟨"OneGoCeiling$Thought", "extendOrder", "(II)V"⟩, 9) := ⟨⟨by decide +kernel, by decide +kernel⟩, List.mem_of_getElem? (i := 203) (by decide +kernel), List.mem_of_getElem? (i := 743) (by decide +kernel), List.mem_of_getElem? (i := 744) (by decide +kernel)⟩
def lw_privs_1 : List (MethodName × Nat) := [(⟨"OneGoCeiling", "error", "(I)I"⟩, 9), (⟨"OneGoCeiling", "textOf", "(I)LOneGoCeiling$Text;"⟩, 9), (⟨"OneGoCeiling$Reader", "readT", "(I)V"⟩, 5), (⟨"OneGoCeiling$Reader", "readA", "(I)V"⟩, 5), (⟨"OneGoCeiling$Reader", "readB", "(I)V"⟩, 5), (⟨"OneGoCeiling$Reader", "readS", "(I)V"⟩, 5), (⟨"OneGoCeiling$Reader", "readP", "(I)V"⟩, 5), (⟨"OneGoCeiling$Reader", "readQ", "(I)V"⟩, 5), (⟨"OneGoCeiling$Reader", "next", "()I"⟩, 5), (⟨"OneGoCeiling$Reader", "readNumber", "()V"⟩, 5), (⟨"OneGoCeiling$Reader", "emit", "(I)V"⟩, 5), (⟨"OneGoCeiling$Reader", "nextIs", "(I)Z"⟩, 5), (⟨"OneGoCeiling$Ceiling", "openCan", "()V"⟩, 10), (⟨"OneGoCeiling$State", "draw", "(I)I"⟩, 7), (⟨"OneGoCeiling", "sheetOf", "(I)LOneGoCeiling$Sheet;"⟩, 9), (⟨"OneGoCeiling$Thought", "extendOrder", "(II)V"⟩, 9)]
theorem lw_r1 : ∀ q ∈ lw_privs_1, lw_okq q := List.forall_mem_cons.mpr ⟨lw_p0, List.forall_mem_cons.mpr ⟨lw_p1, List.forall_mem_cons.mpr ⟨lw_p2, List.forall_mem_cons.mpr ⟨lw_p3, List.forall_mem_cons.mpr ⟨lw_p4, List.forall_mem_cons.mpr ⟨lw_p5, List.forall_mem_cons.mpr ⟨lw_p6, List.forall_mem_cons.mpr ⟨lw_p7, List.forall_mem_cons.mpr ⟨lw_p8, List.forall_mem_cons.mpr ⟨lw_p9, List.forall_mem_cons.mpr ⟨lw_p10, List.forall_mem_cons.mpr ⟨lw_p11, List.forall_mem_cons.mpr ⟨lw_p12, List.forall_mem_cons.mpr ⟨lw_p13, List.forall_mem_cons.mpr ⟨lw_p14, List.forall_mem_cons.mpr ⟨lw_p15, fun _ h => absurd h List.not_mem_nil⟩⟩⟩⟩⟩⟩⟩⟩⟩⟩⟩⟩⟩⟩⟩⟩
theorem lw_p16 : lw_okq (⟨"OneGoCeiling$Thought", "seenBeside", "(I)I"⟩, 9) := ⟨⟨by decide +kernel, by decide +kernel⟩, List.mem_of_getElem? (i := 203) (by decide +kernel), List.mem_of_getElem? (i := 748) (by decide +kernel), List.mem_of_getElem? (i := 749) (by decide +kernel)⟩
theorem lw_p17 : lw_okq (⟨"OneGoCeiling", "isLaterStrip", "(I)Z"⟩, 9) := ⟨⟨by decide +kernel, by decide +kernel⟩, List.mem_of_getElem? (i := 16) (by decide +kernel), List.mem_of_getElem? (i := 776) (by decide +kernel), List.mem_of_getElem? (i := 777) (by decide +kernel)⟩
theorem lw_p18 : lw_okq (⟨"OneGoCeiling$Voices", "own", "(III)I"⟩, 4) := ⟨⟨by decide +kernel, by decide +kernel⟩, List.mem_of_getElem? (i := 241) (by decide +kernel), List.mem_of_getElem? (i := 859) (by decide +kernel), List.mem_of_getElem? (i := 860) (by decide +kernel)⟩
theorem lw_p19 : lw_okq (⟨"OneGoCeiling$Voices", "from", "(IIII)I"⟩, 4) := ⟨⟨by decide +kernel, by decide +kernel⟩, List.mem_of_getElem? (i := 241) (by decide +kernel), List.mem_of_getElem? (i := 863) (by decide +kernel), List.mem_of_getElem? (i := 864) (by decide +kernel)⟩
theorem lw_p20 : lw_okq (⟨"OneGoCeiling$Voices", "say", "(IIII)I"⟩, 4) := ⟨⟨by decide +kernel, by decide +kernel⟩, List.mem_of_getElem? (i := 241) (by decide +kernel), List.mem_of_getElem? (i := 874) (by decide +kernel), List.mem_of_getElem? (i := 875) (by decide +kernel)⟩
theorem lw_p21 : lw_okq (⟨"OneGoCeilingModel", "bare", "(II)V"⟩, 30) := ⟨⟨by decide +kernel, by decide +kernel⟩, List.mem_of_getElem? (i := 1013) (by decide +kernel), List.mem_of_getElem? (i := 1019) (by decide +kernel), List.mem_of_getElem? (i := 1020) (by decide +kernel)⟩
theorem lw_p22 : lw_okq (⟨"OneGoCeilingModel", "errs", "(I)I"⟩, 30) := ⟨⟨by decide +kernel, by decide +kernel⟩, List.mem_of_getElem? (i := 1013) (by decide +kernel), List.mem_of_getElem? (i := 1122) (by decide +kernel), List.mem_of_getElem? (i := 1123) (by decide +kernel)⟩
theorem lw_p23 : lw_okq (⟨"OneGoCeilingModel", "cells", "()I"⟩, 30) := ⟨⟨by decide +kernel, by decide +kernel⟩, List.mem_of_getElem? (i := 1013) (by decide +kernel), List.mem_of_getElem? (i := 1127) (by decide +kernel), List.mem_of_getElem? (i := 1128) (by decide +kernel)⟩
theorem lw_p24 : lw_okq (⟨"OneGoCeilingModel", "isCell", "(I)Z"⟩, 30) := ⟨⟨by decide +kernel, by decide +kernel⟩, List.mem_of_getElem? (i := 1013) (by decide +kernel), List.mem_of_getElem? (i := 1139) (by decide +kernel), List.mem_of_getElem? (i := 1140) (by decide +kernel)⟩
theorem lw_p25 : lw_okq (⟨"OneGoCeilingModel", "whenOf", "(I)I"⟩, 30) := ⟨⟨by decide +kernel, by decide +kernel⟩, List.mem_of_getElem? (i := 1013) (by decide +kernel), List.mem_of_getElem? (i := 1143) (by decide +kernel), List.mem_of_getElem? (i := 1144) (by decide +kernel)⟩
theorem lw_p26 : lw_okq (⟨"OneGoCeilingModel", "whiteOf", "(I)I"⟩, 30) := ⟨⟨by decide +kernel, by decide +kernel⟩, List.mem_of_getElem? (i := 1013) (by decide +kernel), List.mem_of_getElem? (i := 1147) (by decide +kernel), List.mem_of_getElem? (i := 1148) (by decide +kernel)⟩
theorem lw_p27 : lw_okq (⟨"OneGoCeilingModel", "driesAt", "(I)I"⟩, 30) := ⟨⟨by decide +kernel, by decide +kernel⟩, List.mem_of_getElem? (i := 1013) (by decide +kernel), List.mem_of_getElem? (i := 1151) (by decide +kernel), List.mem_of_getElem? (i := 1152) (by decide +kernel)⟩
theorem lw_p28 : lw_okq (⟨"OneGoCeilingModel", "lawOf", "(IIII)I"⟩, 30) := ⟨⟨by decide +kernel, by decide +kernel⟩, List.mem_of_getElem? (i := 1013) (by decide +kernel), List.mem_of_getElem? (i := 1155) (by decide +kernel), List.mem_of_getElem? (i := 1156) (by decide +kernel)⟩
theorem lw_p29 : lw_okq (⟨"OneGoCeilingModel", "walks", "(IIII)I"⟩, 30) := ⟨⟨by decide +kernel, by decide +kernel⟩, List.mem_of_getElem? (i := 1013) (by decide +kernel), List.mem_of_getElem? (i := 1162) (by decide +kernel), List.mem_of_getElem? (i := 1163) (by decide +kernel)⟩
theorem lw_p30 : lw_okq (⟨"OneGoCeilingModel", "whole", "()I"⟩, 30) := ⟨⟨by decide +kernel, by decide +kernel⟩, List.mem_of_getElem? (i := 1013) (by decide +kernel), List.mem_of_getElem? (i := 1166) (by decide +kernel), List.mem_of_getElem? (i := 1167) (by decide +kernel)⟩
theorem lw_p31 : lw_okq (⟨"OneGoCeilingModel", "both", "()I"⟩, 30) := ⟨⟨by decide +kernel, by decide +kernel⟩, List.mem_of_getElem? (i := 1013) (by decide +kernel), List.mem_of_getElem? (i := 1170) (by decide +kernel), List.mem_of_getElem? (i := 1171) (by decide +kernel)⟩
def lw_privs_2 : List (MethodName × Nat) := [(⟨"OneGoCeiling$Thought", "seenBeside", "(I)I"⟩, 9), (⟨"OneGoCeiling", "isLaterStrip", "(I)Z"⟩, 9), (⟨"OneGoCeiling$Voices", "own", "(III)I"⟩, 4), (⟨"OneGoCeiling$Voices", "from", "(IIII)I"⟩, 4), (⟨"OneGoCeiling$Voices", "say", "(IIII)I"⟩, 4), (⟨"OneGoCeilingModel", "bare", "(II)V"⟩, 30), (⟨"OneGoCeilingModel", "errs", "(I)I"⟩, 30), (⟨"OneGoCeilingModel", "cells", "()I"⟩, 30), (⟨"OneGoCeilingModel", "isCell", "(I)Z"⟩, 30), (⟨"OneGoCeilingModel", "whenOf", "(I)I"⟩, 30), (⟨"OneGoCeilingModel", "whiteOf", "(I)I"⟩, 30), (⟨"OneGoCeilingModel", "driesAt", "(I)I"⟩, 30), (⟨"OneGoCeilingModel", "lawOf", "(IIII)I"⟩, 30), (⟨"OneGoCeilingModel", "walks", "(IIII)I"⟩, 30), (⟨"OneGoCeilingModel", "whole", "()I"⟩, 30), (⟨"OneGoCeilingModel", "both", "()I"⟩, 30)]
theorem lw_r2 : ∀ q ∈ lw_privs_2, lw_okq q := List.forall_mem_cons.mpr ⟨lw_p16, List.forall_mem_cons.mpr ⟨lw_p17, List.forall_mem_cons.mpr ⟨lw_p18, List.forall_mem_cons.mpr ⟨lw_p19, List.forall_mem_cons.mpr ⟨lw_p20, List.forall_mem_cons.mpr ⟨lw_p21, List.forall_mem_cons.mpr ⟨lw_p22, List.forall_mem_cons.mpr ⟨lw_p23, List.forall_mem_cons.mpr ⟨lw_p24, List.forall_mem_cons.mpr ⟨lw_p25, List.forall_mem_cons.mpr ⟨lw_p26, List.forall_mem_cons.mpr ⟨lw_p27, List.forall_mem_cons.mpr ⟨lw_p28, List.forall_mem_cons.mpr ⟨lw_p29, List.forall_mem_cons.mpr ⟨lw_p30, List.forall_mem_cons.mpr ⟨lw_p31, fun _ h => absurd h List.not_mem_nil⟩⟩⟩⟩⟩⟩⟩⟩⟩⟩⟩⟩⟩⟩⟩⟩
theorem lw_p32 : lw_okq (⟨"OneGoCeilingModel", "compared", "()I"⟩, 30) := ⟨⟨by decide +kernel, by decide +kernel⟩, List.mem_of_getElem? (i := 1013) (by decide +kernel), List.mem_of_getElem? (i := 1174) (by decide +kernel), List.mem_of_getElem? (i := 1175) (by decide +kernel)⟩
theorem lw_p33 : lw_okq (⟨"OneGoCeilingModel", "sum", "()I"⟩, 30) := ⟨⟨by decide +kernel, by decide +kernel⟩, List.mem_of_getElem? (i := 1013) (by decide +kernel), List.mem_of_getElem? (i := 1178) (by decide +kernel), List.mem_of_getElem? (i := 1179) (by decide +kernel)⟩
theorem lw_p34 : lw_okq (⟨"OneGoCeilingModel", "product", "()I"⟩, 30) := ⟨⟨by decide +kernel, by decide +kernel⟩, List.mem_of_getElem? (i := 1013) (by decide +kernel), List.mem_of_getElem? (i := 1182) (by decide +kernel), List.mem_of_getElem? (i := 1183) (by decide +kernel)⟩
theorem lw_p35 : lw_okq (⟨"OneGoCeilingModel", "factor", "()I"⟩, 30) := ⟨⟨by decide +kernel, by decide +kernel⟩, List.mem_of_getElem? (i := 1013) (by decide +kernel), List.mem_of_getElem? (i := 1186) (by decide +kernel), List.mem_of_getElem? (i := 1187) (by decide +kernel)⟩
theorem lw_p36 : lw_okq (⟨"OneGoCeilingModel", "byteAt", "(I)I"⟩, 30) := ⟨⟨by decide +kernel, by decide +kernel⟩, List.mem_of_getElem? (i := 1013) (by decide +kernel), List.mem_of_getElem? (i := 1190) (by decide +kernel), List.mem_of_getElem? (i := 1191) (by decide +kernel)⟩
theorem lw_p37 : lw_okq (⟨"OneGoCeilingModel", "number", "()I"⟩, 30) := ⟨⟨by decide +kernel, by decide +kernel⟩, List.mem_of_getElem? (i := 1013) (by decide +kernel), List.mem_of_getElem? (i := 1197) (by decide +kernel), List.mem_of_getElem? (i := 1198) (by decide +kernel)⟩
theorem lw_p38 : lw_okq (⟨"OneGoCeilingModel", "named", "(I)I"⟩, 30) := ⟨⟨by decide +kernel, by decide +kernel⟩, List.mem_of_getElem? (i := 1013) (by decide +kernel), List.mem_of_getElem? (i := 1201) (by decide +kernel), List.mem_of_getElem? (i := 1202) (by decide +kernel)⟩
theorem lw_p39 : lw_okq (⟨"OneGoCeilingModel", "fails", "()I"⟩, 30) := ⟨⟨by decide +kernel, by decide +kernel⟩, List.mem_of_getElem? (i := 1013) (by decide +kernel), List.mem_of_getElem? (i := 1205) (by decide +kernel), List.mem_of_getElem? (i := 1206) (by decide +kernel)⟩
theorem lw_p40 : lw_okq (⟨"OneGoCeilingModel", "seamAt", "(I)I"⟩, 30) := ⟨⟨by decide +kernel, by decide +kernel⟩, List.mem_of_getElem? (i := 1013) (by decide +kernel), List.mem_of_getElem? (i := 1209) (by decide +kernel), List.mem_of_getElem? (i := 1210) (by decide +kernel)⟩
theorem lw_p41 : lw_okq (⟨"OneGoCeilingModel", "isSeam", "(I)Z"⟩, 30) := ⟨⟨by decide +kernel, by decide +kernel⟩, List.mem_of_getElem? (i := 1013) (by decide +kernel), List.mem_of_getElem? (i := 1213) (by decide +kernel), List.mem_of_getElem? (i := 1214) (by decide +kernel)⟩
theorem lw_p42 : lw_okq (⟨"OneGoCeilingModel", "isHand", "(I)Z"⟩, 30) := ⟨⟨by decide +kernel, by decide +kernel⟩, List.mem_of_getElem? (i := 1013) (by decide +kernel), List.mem_of_getElem? (i := 1226) (by decide +kernel), List.mem_of_getElem? (i := 1227) (by decide +kernel)⟩
theorem lw_p43 : lw_okq (⟨"OneGoCeilingModel", "kindOf", "(I)I"⟩, 30) := ⟨⟨by decide +kernel, by decide +kernel⟩, List.mem_of_getElem? (i := 1013) (by decide +kernel), List.mem_of_getElem? (i := 1230) (by decide +kernel), List.mem_of_getElem? (i := 1231) (by decide +kernel)⟩
theorem lw_p44 : lw_okq (⟨"OneGoCeilingModel", "mOf", "(I)I"⟩, 30) := ⟨⟨by decide +kernel, by decide +kernel⟩, List.mem_of_getElem? (i := 1013) (by decide +kernel), List.mem_of_getElem? (i := 1234) (by decide +kernel), List.mem_of_getElem? (i := 1235) (by decide +kernel)⟩
theorem lw_p45 : lw_okq (⟨"OneGoCeilingModel", "moveAll", "([I[I)V"⟩, 30) := ⟨⟨by decide +kernel, by decide +kernel⟩, List.mem_of_getElem? (i := 1013) (by decide +kernel), List.mem_of_getElem? (i := 1272) (by decide +kernel), List.mem_of_getElem? (i := 1273) (by decide +kernel)⟩
theorem lw_p46 : lw_okq (⟨"OneGoCeilingModel", "isStrip", "(I)Z"⟩, 30) := ⟨⟨by decide +kernel, by decide +kernel⟩, List.mem_of_getElem? (i := 1013) (by decide +kernel), List.mem_of_getElem? (i := 1280) (by decide +kernel), List.mem_of_getElem? (i := 1281) (by decide +kernel)⟩
theorem lw_p47 : lw_okq (⟨"OneGoCeilingModel", "rollsBy", "(III)V"⟩, 30) := ⟨⟨by decide +kernel, by decide +kernel⟩, List.mem_of_getElem? (i := 1013) (by decide +kernel), List.mem_of_getElem? (i := 1285) (by decide +kernel), List.mem_of_getElem? (i := 1286) (by decide +kernel)⟩
def lw_privs_3 : List (MethodName × Nat) := [(⟨"OneGoCeilingModel", "compared", "()I"⟩, 30), (⟨"OneGoCeilingModel", "sum", "()I"⟩, 30), (⟨"OneGoCeilingModel", "product", "()I"⟩, 30), (⟨"OneGoCeilingModel", "factor", "()I"⟩, 30), (⟨"OneGoCeilingModel", "byteAt", "(I)I"⟩, 30), (⟨"OneGoCeilingModel", "number", "()I"⟩, 30), (⟨"OneGoCeilingModel", "named", "(I)I"⟩, 30), (⟨"OneGoCeilingModel", "fails", "()I"⟩, 30), (⟨"OneGoCeilingModel", "seamAt", "(I)I"⟩, 30), (⟨"OneGoCeilingModel", "isSeam", "(I)Z"⟩, 30), (⟨"OneGoCeilingModel", "isHand", "(I)Z"⟩, 30), (⟨"OneGoCeilingModel", "kindOf", "(I)I"⟩, 30), (⟨"OneGoCeilingModel", "mOf", "(I)I"⟩, 30), (⟨"OneGoCeilingModel", "moveAll", "([I[I)V"⟩, 30), (⟨"OneGoCeilingModel", "isStrip", "(I)Z"⟩, 30), (⟨"OneGoCeilingModel", "rollsBy", "(III)V"⟩, 30)]
theorem lw_r3 : ∀ q ∈ lw_privs_3, lw_okq q := List.forall_mem_cons.mpr ⟨lw_p32, List.forall_mem_cons.mpr ⟨lw_p33, List.forall_mem_cons.mpr ⟨lw_p34, List.forall_mem_cons.mpr ⟨lw_p35, List.forall_mem_cons.mpr ⟨lw_p36, List.forall_mem_cons.mpr ⟨lw_p37, List.forall_mem_cons.mpr ⟨lw_p38, List.forall_mem_cons.mpr ⟨lw_p39, List.forall_mem_cons.mpr ⟨lw_p40, List.forall_mem_cons.mpr ⟨lw_p41, List.forall_mem_cons.mpr ⟨lw_p42, List.forall_mem_cons.mpr ⟨lw_p43, List.forall_mem_cons.mpr ⟨lw_p44, List.forall_mem_cons.mpr ⟨lw_p45, List.forall_mem_cons.mpr ⟨lw_p46, List.forall_mem_cons.mpr ⟨lw_p47, fun _ h => absurd h List.not_mem_nil⟩⟩⟩⟩⟩⟩⟩⟩⟩⟩⟩⟩⟩⟩⟩⟩
theorem lw_p48 : lw_okq (⟨"OneGoCeilingModel", "rolls", "(IIII)V"⟩, 30) := ⟨⟨by decide +kernel, by decide +kernel⟩, List.mem_of_getElem? (i := 1013) (by decide +kernel), List.mem_of_getElem? (i := 1289) (by decide +kernel), List.mem_of_getElem? (i := 1290) (by decide +kernel)⟩
theorem lw_p49 : lw_okq (⟨"OneGoCeilingModel", "drawn", "(I)I"⟩, 30) := ⟨⟨by decide +kernel, by decide +kernel⟩, List.mem_of_getElem? (i := 1013) (by decide +kernel), List.mem_of_getElem? (i := 1301) (by decide +kernel), List.mem_of_getElem? (i := 1302) (by decide +kernel)⟩
theorem lw_p50 : lw_okq (⟨"OneGoCeilingModel", "seen", "()I"⟩, 30) := ⟨⟨by decide +kernel, by decide +kernel⟩, List.mem_of_getElem? (i := 1013) (by decide +kernel), List.mem_of_getElem? (i := 1306) (by decide +kernel), List.mem_of_getElem? (i := 1307) (by decide +kernel)⟩
theorem lw_p51 : lw_okq (⟨"OneGoCeilingModel", "shows", "(II)I"⟩, 30) := ⟨⟨by decide +kernel, by decide +kernel⟩, List.mem_of_getElem? (i := 1013) (by decide +kernel), List.mem_of_getElem? (i := 1310) (by decide +kernel), List.mem_of_getElem? (i := 1311) (by decide +kernel)⟩
theorem lw_p52 : lw_okq (⟨"OneGoCeilingModel", "seenBy", "(I)I"⟩, 30) := ⟨⟨by decide +kernel, by decide +kernel⟩, List.mem_of_getElem? (i := 1013) (by decide +kernel), List.mem_of_getElem? (i := 1326) (by decide +kernel), List.mem_of_getElem? (i := 1327) (by decide +kernel)⟩
theorem lw_p53 : lw_okq (⟨"OneGoCeilingModel", "leastSeen", "(I)I"⟩, 30) := ⟨⟨by decide +kernel, by decide +kernel⟩, List.mem_of_getElem? (i := 1013) (by decide +kernel), List.mem_of_getElem? (i := 1334) (by decide +kernel), List.mem_of_getElem? (i := 1335) (by decide +kernel)⟩
theorem lw_p54 : lw_okq (⟨"OneGoCeilingModel", "tables", "()V"⟩, 30) := ⟨⟨by decide +kernel, by decide +kernel⟩, List.mem_of_getElem? (i := 1013) (by decide +kernel), List.mem_of_getElem? (i := 1338) (by decide +kernel), List.mem_of_getElem? (i := 1339) (by decide +kernel)⟩
theorem lw_p55 : lw_okq (⟨"OneGoCeilingModel", "goesOn", "()Z"⟩, 30) := ⟨⟨by decide +kernel, by decide +kernel⟩, List.mem_of_getElem? (i := 1013) (by decide +kernel), List.mem_of_getElem? (i := 1342) (by decide +kernel), List.mem_of_getElem? (i := 1343) (by decide +kernel)⟩
theorem lw_p56 : lw_okq (⟨"OneGoCeilingModel", "isLater", "(I)Z"⟩, 30) := ⟨⟨by decide +kernel, by decide +kernel⟩, List.mem_of_getElem? (i := 1013) (by decide +kernel), List.mem_of_getElem? (i := 1354) (by decide +kernel), List.mem_of_getElem? (i := 1355) (by decide +kernel)⟩
theorem lw_p57 : lw_okq (⟨"OneGoCeilingModel", "seenAway", "(III)I"⟩, 30) := ⟨⟨by decide +kernel, by decide +kernel⟩, List.mem_of_getElem? (i := 1013) (by decide +kernel), List.mem_of_getElem? (i := 1358) (by decide +kernel), List.mem_of_getElem? (i := 1359) (by decide +kernel)⟩
theorem lw_p58 : lw_okq (⟨"OneGoCeilingModel", "rollsSo", "(IIII)Z"⟩, 30) := ⟨⟨by decide +kernel, by decide +kernel⟩, List.mem_of_getElem? (i := 1013) (by decide +kernel), List.mem_of_getElem? (i := 1378) (by decide +kernel), List.mem_of_getElem? (i := 1379) (by decide +kernel)⟩
theorem lw_p59 : lw_okq (⟨"OneGoCeilingModel", "loadsIn", "(II)I"⟩, 30) := ⟨⟨by decide +kernel, by decide +kernel⟩, List.mem_of_getElem? (i := 1013) (by decide +kernel), List.mem_of_getElem? (i := 1394) (by decide +kernel), List.mem_of_getElem? (i := 1395) (by decide +kernel)⟩
theorem lw_p60 : lw_okq (⟨"OneGoCeilingModel", "ran", "(I)V"⟩, 30) := ⟨⟨by decide +kernel, by decide +kernel⟩, List.mem_of_getElem? (i := 1013) (by decide +kernel), List.mem_of_getElem? (i := 1398) (by decide +kernel), List.mem_of_getElem? (i := 1399) (by decide +kernel)⟩
theorem lw_p61 : lw_okq (⟨"OneGoCeilingModel", "rollsIn", "(II)I"⟩, 30) := ⟨⟨by decide +kernel, by decide +kernel⟩, List.mem_of_getElem? (i := 1013) (by decide +kernel), List.mem_of_getElem? (i := 1402) (by decide +kernel), List.mem_of_getElem? (i := 1403) (by decide +kernel)⟩
theorem lw_p62 : lw_okq (⟨"OneGoCeilingModel", "driesIn", "(II)I"⟩, 30) := ⟨⟨by decide +kernel, by decide +kernel⟩, List.mem_of_getElem? (i := 1013) (by decide +kernel), List.mem_of_getElem? (i := 1406) (by decide +kernel), List.mem_of_getElem? (i := 1407) (by decide +kernel)⟩
theorem lw_p63 : lw_okq (⟨"OneGoCeilingModel", "tellsIn", "(II)I"⟩, 30) := ⟨⟨by decide +kernel, by decide +kernel⟩, List.mem_of_getElem? (i := 1013) (by decide +kernel), List.mem_of_getElem? (i := 1410) (by decide +kernel), List.mem_of_getElem? (i := 1411) (by decide +kernel)⟩
def lw_privs_4 : List (MethodName × Nat) := [(⟨"OneGoCeilingModel", "rolls", "(IIII)V"⟩, 30), (⟨"OneGoCeilingModel", "drawn", "(I)I"⟩, 30), (⟨"OneGoCeilingModel", "seen", "()I"⟩, 30), (⟨"OneGoCeilingModel", "shows", "(II)I"⟩, 30), (⟨"OneGoCeilingModel", "seenBy", "(I)I"⟩, 30), (⟨"OneGoCeilingModel", "leastSeen", "(I)I"⟩, 30), (⟨"OneGoCeilingModel", "tables", "()V"⟩, 30), (⟨"OneGoCeilingModel", "goesOn", "()Z"⟩, 30), (⟨"OneGoCeilingModel", "isLater", "(I)Z"⟩, 30), (⟨"OneGoCeilingModel", "seenAway", "(III)I"⟩, 30), (⟨"OneGoCeilingModel", "rollsSo", "(IIII)Z"⟩, 30), (⟨"OneGoCeilingModel", "loadsIn", "(II)I"⟩, 30), (⟨"OneGoCeilingModel", "ran", "(I)V"⟩, 30), (⟨"OneGoCeilingModel", "rollsIn", "(II)I"⟩, 30), (⟨"OneGoCeilingModel", "driesIn", "(II)I"⟩, 30), (⟨"OneGoCeilingModel", "tellsIn", "(II)I"⟩, 30)]
theorem lw_r4 : ∀ q ∈ lw_privs_4, lw_okq q := List.forall_mem_cons.mpr ⟨lw_p48, List.forall_mem_cons.mpr ⟨lw_p49, List.forall_mem_cons.mpr ⟨lw_p50, List.forall_mem_cons.mpr ⟨lw_p51, List.forall_mem_cons.mpr ⟨lw_p52, List.forall_mem_cons.mpr ⟨lw_p53, List.forall_mem_cons.mpr ⟨lw_p54, List.forall_mem_cons.mpr ⟨lw_p55, List.forall_mem_cons.mpr ⟨lw_p56, List.forall_mem_cons.mpr ⟨lw_p57, List.forall_mem_cons.mpr ⟨lw_p58, List.forall_mem_cons.mpr ⟨lw_p59, List.forall_mem_cons.mpr ⟨lw_p60, List.forall_mem_cons.mpr ⟨lw_p61, List.forall_mem_cons.mpr ⟨lw_p62, List.forall_mem_cons.mpr ⟨lw_p63, fun _ h => absurd h List.not_mem_nil⟩⟩⟩⟩⟩⟩⟩⟩⟩⟩⟩⟩⟩⟩⟩⟩
theorem lw_p64 : lw_okq (⟨"OneGoCeilingModel", "rolledMany", "()I"⟩, 30) := ⟨⟨by decide +kernel, by decide +kernel⟩, List.mem_of_getElem? (i := 1013) (by decide +kernel), List.mem_of_getElem? (i := 1461) (by decide +kernel), List.mem_of_getElem? (i := 1462) (by decide +kernel)⟩
def lw_privs_5 : List (MethodName × Nat) := [(⟨"OneGoCeilingModel", "rolledMany", "()I"⟩, 30)]
theorem lw_r5 : ∀ q ∈ lw_privs_5, lw_okq q := List.forall_mem_cons.mpr ⟨lw_p64, fun _ h => absurd h List.not_mem_nil⟩
def lw_privs : List (MethodName × Nat) := lw_privs_1 ++ (lw_privs_2 ++ (lw_privs_3 ++ (lw_privs_4 ++ (lw_privs_5))))
def lw_tbl : List Cond := k2_sels lw_privs ++ tables_1
theorem lw_privs_ok : ∀ q ∈ lw_privs, lw_okq q := by
  show ∀ q ∈ lw_privs_1 ++ (lw_privs_2 ++ (lw_privs_3 ++ (lw_privs_4 ++ (lw_privs_5)))), lw_okq q
  exact List.forall_mem_append.mpr ⟨lw_r1, List.forall_mem_append.mpr ⟨lw_r2, List.forall_mem_append.mpr ⟨lw_r3, List.forall_mem_append.mpr ⟨lw_r4, lw_r5⟩⟩⟩⟩
end
section
/-! ===== BEGIN words of one list among another's, by their places ===== -/
theorem goodIn_r {big : List Cond} (ws : List Cond) (ps : List Nat) (hp : ws = ps.filterMap (fun i => big[i]?)) (h : ws.all goodWord = true) : GoodIn big ws := by
  intro w hw
  have h1 := List.all_eq_true.mp h w hw
  rw [hp] at hw
  obtain ⟨i, -, hi⟩ := List.mem_filterMap.mp hw
  have hm : w ∈ big := by first | exact List.mem_of_getElem? hi | exact List.getElem?_mem hi
  exact ⟨hm, good_of_word h1⟩
theorem goodIn_app {big a b : List Cond} (ha : GoodIn big a) (hb : GoodIn big b) : GoodIn big (a ++ b) := fun w h => (List.mem_append.mp h).elim (ha w) (hb w)
theorem goodIn_ca {big a b : List Cond} {c : Cond} (ha : GoodIn big (c :: a)) (hb : GoodIn big b) : GoodIn big (c :: (a ++ b)) := fun w h => (List.mem_cons.mp h).elim (fun e => ha w (List.mem_cons.mpr (Or.inl e))) (fun h => (List.mem_append.mp h).elim (fun h => ha w (List.mem_cons.mpr (Or.inr h))) (hb w))
theorem goodIn_sub {big ws : List Cond} (hm : ∀ w ∈ ws, w ∈ big) (h : ws.all goodWord = true) : GoodIn big ws := fun w hw => ⟨hm w hw, good_of_word (List.all_eq_true.mp h w hw)⟩
/-! ===== END ===== -/

/-! ===== BEGIN printed: names, fields, word lists, decode rows ===== -/
def RX0 : String := "OneGoCeiling$Ceiling"
def TX0 : u_T := fun k => match k with
  | 0 => ("OneGoCeiling$Ceiling", "whens", "LOneGoCeiling$Row;", true)
  | 1 => ("OneGoCeiling$Ceiling", "whites", "LOneGoCeiling$Row;", true)
  | 2 => ("OneGoCeiling$Ceiling", "rows", "I", false)
  | 3 => ("OneGoCeiling$Ceiling", "strips", "I", false)
  | 4 => ("OneGoCeiling$Ceiling", "minute", "I", false)
  | 5 => ("OneGoCeiling$Ceiling", "heat", "I", false)
  | 6 => ("OneGoCeiling$Ceiling", "left", "I", false)
  | 7 => ("OneGoCeiling$Ceiling", "canWhite", "I", false)
  | 8 => ("OneGoCeiling$Ceiling", "canSize", "I", false)
  | _ => ("OneGoCeiling$Ceiling", "cansBegun", "I", false)
def tyX0 : Nat → FieldType := fun k => match k with
  | 0 => .object "OneGoCeiling$Row"
  | 1 => .object "OneGoCeiling$Row"
  | 2 => .int
  | 3 => .int
  | 4 => .int
  | 5 => .int
  | 6 => .int
  | 7 => .int
  | 8 => .int
  | _ => .int
abbrev wsX00 : List Cond := u_ws RX0 TX0 10
theorem nmX0 : ∀ a, a < 10 → ∀ b, b < 10 → a ≠ b → (TX0 a).2.1 ≠ (TX0 b).2.1 := by decide +kernel
theorem tyX0_ok : ∀ k, k < 10 → parseFieldDescriptor (TX0 k).2.2.1 = some (tyX0 k) := by decide +kernel
abbrev cX0_init : ByteArray := prog_2_method_1_code
def yX0_init : MethodName := ⟨RX0, "<init>", "()V"⟩
abbrev cX0_build : ByteArray := prog_2_method_2_code
def yX0_build : MethodName := ⟨RX0, "build", "(II)V"⟩
abbrev cX0_rows : ByteArray := prog_2_method_3_code
def yX0_rows : MethodName := ⟨RX0, "rows", "()I"⟩
abbrev cX0_strips : ByteArray := prog_2_method_4_code
def yX0_strips : MethodName := ⟨RX0, "strips", "()I"⟩
abbrev cX0_cells : ByteArray := prog_2_method_5_code
def yX0_cells : MethodName := ⟨RX0, "cells", "()I"⟩
abbrev cX0_minute : ByteArray := prog_2_method_6_code
def yX0_minute : MethodName := ⟨RX0, "minute", "()I"⟩
abbrev cX0_heat : ByteArray := prog_2_method_7_code
def yX0_heat : MethodName := ⟨RX0, "heat", "()I"⟩
abbrev cX0_left : ByteArray := prog_2_method_8_code
def yX0_left : MethodName := ⟨RX0, "left", "()I"⟩
abbrev cX0_canWhite : ByteArray := prog_2_method_9_code
def yX0_canWhite : MethodName := ⟨RX0, "canWhite", "()I"⟩
abbrev cX0_canSize : ByteArray := prog_2_method_10_code
def yX0_canSize : MethodName := ⟨RX0, "canSize", "()I"⟩
abbrev cX0_cansBegun : ByteArray := prog_2_method_11_code
def yX0_cansBegun : MethodName := ⟨RX0, "cansBegun", "()I"⟩
abbrev cX0_isCell : ByteArray := prog_2_method_12_code
def yX0_isCell : MethodName := ⟨RX0, "isCell", "(I)Z"⟩
abbrev cX0_isStrip : ByteArray := prog_2_method_13_code
def yX0_isStrip : MethodName := ⟨RX0, "isStrip", "(I)Z"⟩
abbrev cX0_rowOf : ByteArray := prog_2_method_14_code
def yX0_rowOf : MethodName := ⟨RX0, "rowOf", "(I)I"⟩
abbrev cX0_stripOf : ByteArray := prog_2_method_15_code
def yX0_stripOf : MethodName := ⟨RX0, "stripOf", "(I)I"⟩
abbrev cX0_whenAt : ByteArray := prog_2_method_16_code
def yX0_whenAt : MethodName := ⟨RX0, "whenAt", "(II)I"⟩
abbrev cX0_whiteAt : ByteArray := prog_2_method_17_code
def yX0_whiteAt : MethodName := ⟨RX0, "whiteAt", "(II)I"⟩
abbrev cX0_rolledCells : ByteArray := prog_2_method_18_code
def yX0_rolledCells : MethodName := ⟨RX0, "rolledCells", "()I"⟩
abbrev cX0_isSetting : ByteArray := prog_2_method_19_code
def yX0_isSetting : MethodName := ⟨RX0, "isSetting", "(II)Z"⟩
abbrev cX0_change : ByteArray := prog_2_method_20_code
def yX0_change : MethodName := ⟨RX0, "change", "(II)I"⟩
abbrev cX0_warmTo : ByteArray := prog_2_method_21_code
def yX0_warmTo : MethodName := ⟨RX0, "warmTo", "(I)V"⟩
abbrev cX0_mayBeRolled : ByteArray := prog_2_method_22_code
def yX0_mayBeRolled : MethodName := ⟨RX0, "mayBeRolled", "()Z"⟩
abbrev cX0_letPass : ByteArray := prog_2_method_23_code
def yX0_letPass : MethodName := ⟨RX0, "letPass", "(I)V"⟩
abbrev cX0_letPassWithinBounds : ByteArray := prog_2_method_24_code
def yX0_letPassWithinBounds : MethodName := ⟨RX0, "letPassWithinBounds", "(I)V"⟩
abbrev cX0_paint : ByteArray := prog_2_method_25_code
def yX0_paint : MethodName := ⟨RX0, "paint", "(IIIZ)V"⟩
abbrev cX0_openCan : ByteArray := prog_2_method_26_code
def yX0_openCan : MethodName := ⟨RX0, "openCan", "()V"⟩
abbrev cX0_whiten : ByteArray := prog_2_method_27_code
def yX0_whiten : MethodName := ⟨RX0, "whiten", "(LOneGoCeiling$Row;)I"⟩
abbrev cX0_firstOtherWhen : ByteArray := prog_2_method_28_code
def yX0_firstOtherWhen : MethodName := ⟨RX0, "firstOtherWhen", "(LOneGoCeiling$Row;)I"⟩
abbrev cX0_take : ByteArray := prog_2_method_29_code
def yX0_take : MethodName := ⟨RX0, "take", "(LOneGoCeiling$Ceiling;)V"⟩
def RX1 : String := "OneGoCeiling$Crew"
def TX1 : u_T := fun k => match k with
  | 0 => ("OneGoCeiling$Crew", "kinds", "LOneGoCeiling$Row;", true)
  | _ => ("OneGoCeiling$Crew", "ms", "LOneGoCeiling$Row;", true)
def tyX1 : Nat → FieldType := fun k => match k with
  | 0 => .object "OneGoCeiling$Row"
  | _ => .object "OneGoCeiling$Row"
abbrev wsX10 : List Cond := u_ws RX1 TX1 2
theorem nmX1 : ∀ a, a < 2 → ∀ b, b < 2 → a ≠ b → (TX1 a).2.1 ≠ (TX1 b).2.1 := by decide +kernel
theorem tyX1_ok : ∀ k, k < 2 → parseFieldDescriptor (TX1 k).2.2.1 = some (tyX1 k) := by decide +kernel
abbrev cX1_init : ByteArray := prog_3_method_1_code
def yX1_init : MethodName := ⟨RX1, "<init>", "()V"⟩
abbrev cX1_size : ByteArray := prog_3_method_2_code
def yX1_size : MethodName := ⟨RX1, "size", "()I"⟩
abbrev cX1_isFull : ByteArray := prog_3_method_3_code
def yX1_isFull : MethodName := ⟨RX1, "isFull", "()Z"⟩
abbrev cX1_has : ByteArray := prog_3_method_4_code
def yX1_has : MethodName := ⟨RX1, "has", "(I)Z"⟩
abbrev cX1_kindOf : ByteArray := prog_3_method_5_code
def yX1_kindOf : MethodName := ⟨RX1, "kindOf", "(I)I"⟩
abbrev cX1_numberOf : ByteArray := prog_3_method_6_code
def yX1_numberOf : MethodName := ⟨RX1, "numberOf", "(I)I"⟩
abbrev cX1_join : ByteArray := prog_3_method_7_code
def yX1_join : MethodName := ⟨RX1, "join", "(I)I"⟩
abbrev cX1_turnInto : ByteArray := prog_3_method_8_code
def yX1_turnInto : MethodName := ⟨RX1, "turnInto", "(II)I"⟩
abbrev cX1_take : ByteArray := prog_3_method_9_code
def yX1_take : MethodName := ⟨RX1, "take", "(LOneGoCeiling$Crew;)V"⟩
def RX2 : String := "OneGoCeiling$Eye"
def TX2 : u_T := fun k => match k with
  | 0 => ("OneGoCeiling$Eye", "dries", "LOneGoCeiling$Text;", true)
  | 1 => ("OneGoCeiling$Eye", "light", "LOneGoCeiling$Text;", true)
  | 2 => ("OneGoCeiling$Eye", "knownDries", "LOneGoCeiling$Row;", true)
  | _ => ("OneGoCeiling$Eye", "knownLight", "LOneGoCeiling$Row;", true)
def tyX2 : Nat → FieldType := fun k => match k with
  | 0 => .object "OneGoCeiling$Text"
  | 1 => .object "OneGoCeiling$Text"
  | 2 => .object "OneGoCeiling$Row"
  | _ => .object "OneGoCeiling$Row"
abbrev wsX20 : List Cond := u_ws RX2 TX2 4
theorem nmX2 : ∀ a, a < 4 → ∀ b, b < 4 → a ≠ b → (TX2 a).2.1 ≠ (TX2 b).2.1 := by decide +kernel
theorem tyX2_ok : ∀ k, k < 4 → parseFieldDescriptor (TX2 k).2.2.1 = some (tyX2 k) := by decide +kernel
abbrev cX2_init : ByteArray := prog_4_method_1_code
def yX2_init : MethodName := ⟨RX2, "<init>", "(LOneGoCeiling$Text;LOneGoCeiling$Text;)V"⟩
abbrev cX2_forget : ByteArray := prog_4_method_2_code
def yX2_forget : MethodName := ⟨RX2, "forget", "()V"⟩
abbrev cX2_driesOf : ByteArray := prog_4_method_3_code
def yX2_driesOf : MethodName := ⟨RX2, "driesOf", "(III)I"⟩
abbrev cX2_lightOf : ByteArray := prog_4_method_4_code
def yX2_lightOf : MethodName := ⟨RX2, "lightOf", "(III)I"⟩
abbrev cX2_isSeam : ByteArray := prog_4_method_5_code
def yX2_isSeam : MethodName := ⟨RX2, "isSeam", "(LOneGoCeiling$Ceiling;IIIII)Z"⟩
abbrev cX2_seenBetween : ByteArray := prog_4_method_6_code
def yX2_seenBetween : MethodName := ⟨RX2, "seenBetween", "(LOneGoCeiling$Ceiling;IIII)I"⟩
abbrev cX2_seen : ByteArray := prog_4_method_7_code
def yX2_seen : MethodName := ⟨RX2, "seen", "(LOneGoCeiling$Ceiling;)I"⟩
abbrev cX2_countSeams : ByteArray := prog_4_method_8_code
def yX2_countSeams : MethodName := ⟨RX2, "countSeams", "(LOneGoCeiling$Ceiling;)I"⟩
def RX3 : String := "OneGoCeiling$Kinds"
def TX3 : u_T := fun k => match k with
  | _ => ("", "", "", false)
def tyX3 : Nat → FieldType := fun k => match k with
  | _ => .int
abbrev wsX30 : List Cond := u_ws RX3 TX3 0
theorem nmX3 : ∀ a, a < 0 → ∀ b, b < 0 → a ≠ b → (TX3 a).2.1 ≠ (TX3 b).2.1 := by decide +kernel
theorem tyX3_ok : ∀ k, k < 0 → parseFieldDescriptor (TX3 k).2.2.1 = some (tyX3 k) := by decide +kernel
abbrev cX3_isKind : ByteArray := prog_5_method_2_code
def yX3_isKind : MethodName := ⟨RX3, "isKind", "(I)Z"⟩
abbrev cX3_isKindAndNumber : ByteArray := prog_5_method_3_code
def yX3_isKindAndNumber : MethodName := ⟨RX3, "isKindAndNumber", "(I)Z"⟩
abbrev cX3_above : ByteArray := prog_5_method_4_code
def yX3_above : MethodName := ⟨RX3, "above", "(I)I"⟩
abbrev cX3_isUnder : ByteArray := prog_5_method_5_code
def yX3_isUnder : MethodName := ⟨RX3, "isUnder", "(II)Z"⟩
abbrev cX3_pace : ByteArray := prog_5_method_6_code
def yX3_pace : MethodName := ⟨RX3, "pace", "(III)I"⟩
abbrev cX3_load : ByteArray := prog_5_method_7_code
def yX3_load : MethodName := ⟨RX3, "load", "(II)I"⟩
abbrev cX3_uses : ByteArray := prog_5_method_8_code
def yX3_uses : MethodName := ⟨RX3, "uses", "(II)I"⟩
abbrev cX3_minutesFor : ByteArray := prog_5_method_9_code
def yX3_minutesFor : MethodName := ⟨RX3, "minutesFor", "(III)I"⟩
abbrev cX3_leastBy : ByteArray := prog_5_method_10_code
def yX3_leastBy : MethodName := ⟨RX3, "leastBy", "(LOneGoCeiling$Row;II)I"⟩
abbrev cX3_doesAt : ByteArray := prog_5_method_11_code
def yX3_doesAt : MethodName := ⟨RX3, "doesAt", "(LOneGoCeiling$Row;III)Z"⟩
def RX4 : String := "OneGoCeiling$Reader"
def TX4 : u_T := fun k => match k with
  | 0 => ("OneGoCeiling$Reader", "steps", "LOneGoCeiling$Row;", true)
  | 1 => ("OneGoCeiling$Reader", "tape", "LOneGoCeiling$Row;", false)
  | 2 => ("OneGoCeiling$Reader", "target", "LOneGoCeiling$Text;", false)
  | 3 => ("OneGoCeiling$Reader", "at", "I", false)
  | _ => ("OneGoCeiling$Reader", "fits", "Z", false)
def tyX4 : Nat → FieldType := fun k => match k with
  | 0 => .object "OneGoCeiling$Row"
  | 1 => .object "OneGoCeiling$Row"
  | 2 => .object "OneGoCeiling$Text"
  | 3 => .int
  | _ => .boolean
abbrev wsX40 : List Cond := u_ws RX4 TX4 5
theorem nmX4 : ∀ a, a < 5 → ∀ b, b < 5 → a ≠ b → (TX4 a).2.1 ≠ (TX4 b).2.1 := by decide +kernel
theorem tyX4_ok : ∀ k, k < 5 → parseFieldDescriptor (TX4 k).2.2.1 = some (tyX4 k) := by decide +kernel
abbrev cX4_init : ByteArray := prog_6_method_1_code
def yX4_init : MethodName := ⟨RX4, "<init>", "()V"⟩
abbrev cX4_read : ByteArray := prog_6_method_2_code
def yX4_read : MethodName := ⟨RX4, "read", "(LOneGoCeiling$Row;LOneGoCeiling$Text;)I"⟩
abbrev cX4_next : ByteArray := prog_6_method_3_code
def yX4_next : MethodName := ⟨RX4, "next", "()I"⟩
abbrev cX4_nextIs : ByteArray := prog_6_method_4_code
def yX4_nextIs : MethodName := ⟨RX4, "nextIs", "(I)Z"⟩
abbrev cX4_emit : ByteArray := prog_6_method_5_code
def yX4_emit : MethodName := ⟨RX4, "emit", "(I)V"⟩
abbrev cX4_readT : ByteArray := prog_6_method_6_code
def yX4_readT : MethodName := ⟨RX4, "readT", "(I)V"⟩
abbrev cX4_readA : ByteArray := prog_6_method_7_code
def yX4_readA : MethodName := ⟨RX4, "readA", "(I)V"⟩
abbrev cX4_readB : ByteArray := prog_6_method_8_code
def yX4_readB : MethodName := ⟨RX4, "readB", "(I)V"⟩
abbrev cX4_readS : ByteArray := prog_6_method_9_code
def yX4_readS : MethodName := ⟨RX4, "readS", "(I)V"⟩
abbrev cX4_readP : ByteArray := prog_6_method_10_code
def yX4_readP : MethodName := ⟨RX4, "readP", "(I)V"⟩
abbrev cX4_readQ : ByteArray := prog_6_method_11_code
def yX4_readQ : MethodName := ⟨RX4, "readQ", "(I)V"⟩
abbrev cX4_readNumber : ByteArray := prog_6_method_12_code
def yX4_readNumber : MethodName := ⟨RX4, "readNumber", "()V"⟩
abbrev cX4_isDigit : ByteArray := prog_6_method_13_code
def yX4_isDigit : MethodName := ⟨RX4, "isDigit", "(I)Z"⟩
def RX5 : String := "OneGoCeiling$Row"
def TX5 : u_T := fun k => match k with
  | 0 => ("OneGoCeiling$Row", "numbers", "[I", true)
  | _ => ("OneGoCeiling$Row", "length", "I", false)
def tyX5 : Nat → FieldType := fun k => match k with
  | 0 => .array .int
  | _ => .int
abbrev wsX50 : List Cond := u_ws RX5 TX5 2
theorem nmX5 : ∀ a, a < 2 → ∀ b, b < 2 → a ≠ b → (TX5 a).2.1 ≠ (TX5 b).2.1 := by decide +kernel
theorem tyX5_ok : ∀ k, k < 2 → parseFieldDescriptor (TX5 k).2.2.1 = some (tyX5 k) := by decide +kernel
abbrev cX5_init : ByteArray := prog_7_method_1_code
def yX5_init : MethodName := ⟨RX5, "<init>", "(I)V"⟩
abbrev cX5_length : ByteArray := prog_7_method_2_code
def yX5_length : MethodName := ⟨RX5, "length", "()I"⟩
abbrev cX5_has : ByteArray := prog_7_method_3_code
def yX5_has : MethodName := ⟨RX5, "has", "(I)Z"⟩
abbrev cX5_hasRun : ByteArray := prog_7_method_4_code
def yX5_hasRun : MethodName := ⟨RX5, "hasRun", "(II)Z"⟩
abbrev cX5_at : ByteArray := prog_7_method_5_code
def yX5_at : MethodName := ⟨RX5, "at", "(I)I"⟩
abbrev cX5_write : ByteArray := prog_7_method_6_code
def yX5_write : MethodName := ⟨RX5, "write", "(II)V"⟩
abbrev cX5_add : ByteArray := prog_7_method_7_code
def yX5_add : MethodName := ⟨RX5, "add", "(I)Z"⟩
abbrev cX5_clear : ByteArray := prog_7_method_8_code
def yX5_clear : MethodName := ⟨RX5, "clear", "()V"⟩
abbrev cX5_fill : ByteArray := prog_7_method_9_code
def yX5_fill : MethodName := ⟨RX5, "fill", "(II)V"⟩
abbrev cX5_take : ByteArray := prog_7_method_10_code
def yX5_take : MethodName := ⟨RX5, "take", "(LOneGoCeiling$Row;)V"⟩
abbrev cX5_takeRun : ByteArray := prog_7_method_11_code
def yX5_takeRun : MethodName := ⟨RX5, "takeRun", "(ILOneGoCeiling$Row;II)V"⟩
def RX6 : String := "OneGoCeiling$Sheet"
def TX6 : u_T := fun k => match k with
  | 0 => ("OneGoCeiling$Sheet", "numbers", "LOneGoCeiling$Row;", true)
  | _ => ("OneGoCeiling$Sheet", "bits", "I", false)
def tyX6 : Nat → FieldType := fun k => match k with
  | 0 => .object "OneGoCeiling$Row"
  | _ => .int
abbrev wsX60 : List Cond := u_ws RX6 TX6 2
theorem nmX6 : ∀ a, a < 2 → ∀ b, b < 2 → a ≠ b → (TX6 a).2.1 ≠ (TX6 b).2.1 := by decide +kernel
theorem tyX6_ok : ∀ k, k < 2 → parseFieldDescriptor (TX6 k).2.2.1 = some (tyX6 k) := by decide +kernel
abbrev cX6_init : ByteArray := prog_8_method_1_code
def yX6_init : MethodName := ⟨RX6, "<init>", "()V"⟩
abbrev cX6_isWidth : ByteArray := prog_8_method_2_code
def yX6_isWidth : MethodName := ⟨RX6, "isWidth", "(I)Z"⟩
abbrev cX6_isMissing : ByteArray := prog_8_method_3_code
def yX6_isMissing : MethodName := ⟨RX6, "isMissing", "()Z"⟩
abbrev cX6_bits : ByteArray := prog_8_method_4_code
def yX6_bits : MethodName := ⟨RX6, "bits", "()I"⟩
abbrev cX6_remove : ByteArray := prog_8_method_5_code
def yX6_remove : MethodName := ⟨RX6, "remove", "()V"⟩
abbrev cX6_renew : ByteArray := prog_8_method_6_code
def yX6_renew : MethodName := ⟨RX6, "renew", "(II)V"⟩
abbrev cX6_write : ByteArray := prog_8_method_7_code
def yX6_write : MethodName := ⟨RX6, "write", "(II)V"⟩
def RX7 : String := "OneGoCeiling$State"
def TX7 : u_T := fun k => match k with
  | 0 => ("OneGoCeiling$State", "ceiling", "LOneGoCeiling$Ceiling;", true)
  | 1 => ("OneGoCeiling$State", "crew", "LOneGoCeiling$Crew;", true)
  | 2 => ("OneGoCeiling$State", "dries", "LOneGoCeiling$Text;", true)
  | 3 => ("OneGoCeiling$State", "light", "LOneGoCeiling$Text;", true)
  | 4 => ("OneGoCeiling$State", "tape", "LOneGoCeiling$Row;", true)
  | 5 => ("OneGoCeiling$State", "waiting", "LOneGoCeiling$Row;", true)
  | _ => ("OneGoCeiling$State", "z", "I", false)
def tyX7 : Nat → FieldType := fun k => match k with
  | 0 => .object "OneGoCeiling$Ceiling"
  | 1 => .object "OneGoCeiling$Crew"
  | 2 => .object "OneGoCeiling$Text"
  | 3 => .object "OneGoCeiling$Text"
  | 4 => .object "OneGoCeiling$Row"
  | 5 => .object "OneGoCeiling$Row"
  | _ => .int
abbrev wsX70 : List Cond := u_ws RX7 TX7 7
theorem nmX7 : ∀ a, a < 7 → ∀ b, b < 7 → a ≠ b → (TX7 a).2.1 ≠ (TX7 b).2.1 := by decide +kernel
theorem tyX7_ok : ∀ k, k < 7 → parseFieldDescriptor (TX7 k).2.2.1 = some (tyX7 k) := by decide +kernel
abbrev cX7_init : ByteArray := prog_9_method_1_code
def yX7_init : MethodName := ⟨RX7, "<init>", "()V"⟩
abbrev cX7_take : ByteArray := prog_9_method_2_code
def yX7_take : MethodName := ⟨RX7, "take", "(LOneGoCeiling$State;)V"⟩
abbrev cX7_passDay : ByteArray := prog_9_method_3_code
def yX7_passDay : MethodName := ⟨RX7, "passDay", "()V"⟩
abbrev cX7_draw : ByteArray := prog_9_method_4_code
def yX7_draw : MethodName := ⟨RX7, "draw", "(I)I"⟩
def RX8 : String := "OneGoCeiling$Text"
def TX8 : u_T := fun k => match k with
  | 0 => ("OneGoCeiling$Text", "use", "I", true)
  | 1 => ("OneGoCeiling$Text", "steps", "LOneGoCeiling$Row;", true)
  | _ => ("OneGoCeiling$Text", "stack", "LOneGoCeiling$Row;", true)
def tyX8 : Nat → FieldType := fun k => match k with
  | 0 => .int
  | 1 => .object "OneGoCeiling$Row"
  | _ => .object "OneGoCeiling$Row"
abbrev wsX80 : List Cond := u_ws RX8 TX8 3
theorem nmX8 : ∀ a, a < 3 → ∀ b, b < 3 → a ≠ b → (TX8 a).2.1 ≠ (TX8 b).2.1 := by decide +kernel
theorem tyX8_ok : ∀ k, k < 3 → parseFieldDescriptor (TX8 k).2.2.1 = some (tyX8 k) := by decide +kernel
abbrev cX8_init : ByteArray := prog_10_method_1_code
def yX8_init : MethodName := ⟨RX8, "<init>", "(I)V"⟩
abbrev cX8_nameOf : ByteArray := prog_10_method_2_code
def yX8_nameOf : MethodName := ⟨RX8, "nameOf", "(I)I"⟩
abbrev cX8_takeSteps : ByteArray := prog_10_method_3_code
def yX8_takeSteps : MethodName := ⟨RX8, "takeSteps", "(LOneGoCeiling$Row;)V"⟩
abbrev cX8_take : ByteArray := prog_10_method_4_code
def yX8_take : MethodName := ⟨RX8, "take", "(LOneGoCeiling$Text;)V"⟩
abbrev cX8_value : ByteArray := prog_10_method_5_code
def yX8_value : MethodName := ⟨RX8, "value", "(III)I"⟩
abbrev cX8_held : ByteArray := prog_10_method_6_code
def yX8_held : MethodName := ⟨RX8, "held", "(I)I"⟩
abbrev cX8_join : ByteArray := prog_10_method_7_code
def yX8_join : MethodName := ⟨RX8, "join", "(III)I"⟩
def RX9 : String := "OneGoCeiling$Thought"
def TX9 : u_T := fun k => match k with
  | 0 => ("OneGoCeiling$Thought", "eye", "LOneGoCeiling$Eye;", true)
  | 1 => ("OneGoCeiling$Thought", "ceiling", "LOneGoCeiling$Ceiling;", true)
  | 2 => ("OneGoCeiling$Thought", "strips", "LOneGoCeiling$Row;", true)
  | 3 => ("OneGoCeiling$Thought", "places", "LOneGoCeiling$Row;", true)
  | 4 => ("OneGoCeiling$Thought", "bestStrips", "LOneGoCeiling$Row;", true)
  | 5 => ("OneGoCeiling$Thought", "seenByPlaces", "LOneGoCeiling$Row;", true)
  | 6 => ("OneGoCeiling$Thought", "seenWithout", "LOneGoCeiling$Row;", true)
  | 7 => ("OneGoCeiling$Thought", "seenWith", "LOneGoCeiling$Row;", true)
  | _ => ("OneGoCeiling$Thought", "best", "I", false)
def tyX9 : Nat → FieldType := fun k => match k with
  | 0 => .object "OneGoCeiling$Eye"
  | 1 => .object "OneGoCeiling$Ceiling"
  | 2 => .object "OneGoCeiling$Row"
  | 3 => .object "OneGoCeiling$Row"
  | 4 => .object "OneGoCeiling$Row"
  | 5 => .object "OneGoCeiling$Row"
  | 6 => .object "OneGoCeiling$Row"
  | 7 => .object "OneGoCeiling$Row"
  | _ => .int
abbrev wsX90 : List Cond := u_ws RX9 TX9 9
theorem nmX9 : ∀ a, a < 9 → ∀ b, b < 9 → a ≠ b → (TX9 a).2.1 ≠ (TX9 b).2.1 := by decide +kernel
theorem tyX9_ok : ∀ k, k < 9 → parseFieldDescriptor (TX9 k).2.2.1 = some (tyX9 k) := by decide +kernel
abbrev cX9_init : ByteArray := prog_11_method_1_code
def yX9_init : MethodName := ⟨RX9, "<init>", "(LOneGoCeiling$Eye;)V"⟩
abbrev cX9_begin : ByteArray := prog_11_method_2_code
def yX9_begin : MethodName := ⟨RX9, "begin", "(LOneGoCeiling$State;)V"⟩
abbrev cX9_rollNext : ByteArray := prog_11_method_3_code
def yX9_rollNext : MethodName := ⟨RX9, "rollNext", "(LOneGoCeiling$State;II)V"⟩
abbrev cX9_rollAll : ByteArray := prog_11_method_4_code
def yX9_rollAll : MethodName := ⟨RX9, "rollAll", "(LOneGoCeiling$State;I)V"⟩
abbrev cX9_cansBegun : ByteArray := prog_11_method_5_code
def yX9_cansBegun : MethodName := ⟨RX9, "cansBegun", "()I"⟩
abbrev cX9_seenNow : ByteArray := prog_11_method_6_code
def yX9_seenNow : MethodName := ⟨RX9, "seenNow", "()I"⟩
abbrev cX9_warmTo : ByteArray := prog_11_method_7_code
def yX9_warmTo : MethodName := ⟨RX9, "warmTo", "(I)V"⟩
abbrev cX9_takeOrder : ByteArray := prog_11_method_8_code
def yX9_takeOrder : MethodName := ⟨RX9, "takeOrder", "(LOneGoCeiling$Row;I)Z"⟩
abbrev cX9_seenByOrder : ByteArray := prog_11_method_9_code
def yX9_seenByOrder : MethodName := ⟨RX9, "seenByOrder", "()I"⟩
abbrev cX9_best : ByteArray := prog_11_method_10_code
def yX9_best : MethodName := ⟨RX9, "best", "()I"⟩
abbrev cX9_bestStripAt : ByteArray := prog_11_method_11_code
def yX9_bestStripAt : MethodName := ⟨RX9, "bestStripAt", "(I)I"⟩
abbrev cX9_findBelow : ByteArray := prog_11_method_12_code
def yX9_findBelow : MethodName := ⟨RX9, "findBelow", "(I)V"⟩
abbrev cX9_extendOrder : ByteArray := prog_11_method_13_code
def yX9_extendOrder : MethodName := ⟨RX9, "extendOrder", "(II)V"⟩
abbrev cX9_seenBeside : ByteArray := prog_11_method_14_code
def yX9_seenBeside : MethodName := ⟨RX9, "seenBeside", "(I)I"⟩
abbrev cX9_weightAt : ByteArray := prog_11_method_15_code
def yX9_weightAt : MethodName := ⟨RX9, "weightAt", "(III)I"⟩
abbrev cX9_weighPlaces : ByteArray := prog_11_method_16_code
def yX9_weighPlaces : MethodName := ⟨RX9, "weighPlaces", "()V"⟩
abbrev cX9_weighPauses : ByteArray := prog_11_method_17_code
def yX9_weighPauses : MethodName := ⟨RX9, "weighPauses", "(I)V"⟩
abbrev cX9_seenCalledAhead : ByteArray := prog_11_method_18_code
def yX9_seenCalledAhead : MethodName := ⟨RX9, "seenCalledAhead", "(I)I"⟩
abbrev cX9_worstStrip : ByteArray := prog_11_method_19_code
def yX9_worstStrip : MethodName := ⟨RX9, "worstStrip", "()I"⟩
abbrev cX9_longestPause : ByteArray := prog_11_method_20_code
def yX9_longestPause : MethodName := ⟨RX9, "longestPause", "(II)I"⟩
abbrev cX9_waysOfPauses : ByteArray := prog_11_method_21_code
def yX9_waysOfPauses : MethodName := ⟨RX9, "waysOfPauses", "()I"⟩
abbrev cX9_waysSeenAtMost : ByteArray := prog_11_method_22_code
def yX9_waysSeenAtMost : MethodName := ⟨RX9, "waysSeenAtMost", "(I)I"⟩
def RX10 : String := "OneGoCeiling$Voices"
def TX10 : u_T := fun k => match k with
  | 0 => ("OneGoCeiling$Voices", "heard", "LOneGoCeiling$Row;", true)
  | 1 => ("OneGoCeiling$Voices", "number", "I", false)
  | 2 => ("OneGoCeiling$Voices", "kind", "I", false)
  | _ => ("OneGoCeiling$Voices", "m", "I", false)
def tyX10 : Nat → FieldType := fun k => match k with
  | 0 => .object "OneGoCeiling$Row"
  | 1 => .int
  | 2 => .int
  | _ => .int
abbrev wsX100 : List Cond := u_ws RX10 TX10 4
theorem nmX10 : ∀ a, a < 4 → ∀ b, b < 4 → a ≠ b → (TX10 a).2.1 ≠ (TX10 b).2.1 := by decide +kernel
theorem tyX10_ok : ∀ k, k < 4 → parseFieldDescriptor (TX10 k).2.2.1 = some (tyX10 k) := by decide +kernel
abbrev cX10_init : ByteArray := prog_12_method_1_code
def yX10_init : MethodName := ⟨RX10, "<init>", "()V"⟩
abbrev cX10_heard : ByteArray := prog_12_method_2_code
def yX10_heard : MethodName := ⟨RX10, "heard", "()LOneGoCeiling$Row;"⟩
abbrev cX10_speak : ByteArray := prog_12_method_3_code
def yX10_speak : MethodName := ⟨RX10, "speak", "(LOneGoCeiling$Crew;III)I"⟩
abbrev cX10_own : ByteArray := prog_12_method_4_code
def yX10_own : MethodName := ⟨RX10, "own", "(III)I"⟩
abbrev cX10_from : ByteArray := prog_12_method_5_code
def yX10_from : MethodName := ⟨RX10, "from", "(IIII)I"⟩
abbrev cX10_bodyOf : ByteArray := prog_12_method_6_code
def yX10_bodyOf : MethodName := ⟨RX10, "bodyOf", "(II)I"⟩
abbrev cX10_say : ByteArray := prog_12_method_7_code
def yX10_say : MethodName := ⟨RX10, "say", "(IIII)I"⟩
def RX11 : String := "OneGoCeiling"
def TX11 : u_T := fun k => match k with
  | 0 => ("OneGoCeiling", "now", "LOneGoCeiling$State;", true)
  | 1 => ("OneGoCeiling", "kept", "LOneGoCeiling$State;", true)
  | 2 => ("OneGoCeiling", "reader", "LOneGoCeiling$Reader;", true)
  | 3 => ("OneGoCeiling", "eye", "LOneGoCeiling$Eye;", true)
  | 4 => ("OneGoCeiling", "thought", "LOneGoCeiling$Thought;", true)
  | 5 => ("OneGoCeiling", "voices", "LOneGoCeiling$Voices;", true)
  | 6 => ("OneGoCeiling", "sheets", "[LOneGoCeiling$Sheet;", true)
  | 7 => ("OneGoCeiling", "errors", "LOneGoCeiling$Row;", true)
  | _ => ("OneGoCeiling", "images", "I", false)
def tyX11 : Nat → FieldType := fun k => match k with
  | 0 => .object "OneGoCeiling$State"
  | 1 => .object "OneGoCeiling$State"
  | 2 => .object "OneGoCeiling$Reader"
  | 3 => .object "OneGoCeiling$Eye"
  | 4 => .object "OneGoCeiling$Thought"
  | 5 => .object "OneGoCeiling$Voices"
  | 6 => .array (.object "OneGoCeiling$Sheet")
  | 7 => .object "OneGoCeiling$Row"
  | _ => .int
abbrev wsX110 : List Cond := u_ws RX11 TX11 9
theorem nmX11 : ∀ a, a < 9 → ∀ b, b < 9 → a ≠ b → (TX11 a).2.1 ≠ (TX11 b).2.1 := by decide +kernel
theorem tyX11_ok : ∀ k, k < 9 → parseFieldDescriptor (TX11 k).2.2.1 = some (tyX11 k) := by decide +kernel
abbrev cX11_init : ByteArray := prog_1_method_1_code
def yX11_init : MethodName := ⟨RX11, "<init>", "()V"⟩
abbrev cX11_ceiling : ByteArray := prog_1_method_2_code
def yX11_ceiling : MethodName := ⟨RX11, "ceiling", "(II)I"⟩
abbrev cX11_set : ByteArray := prog_1_method_3_code
def yX11_set : MethodName := ⟨RX11, "set", "(II)I"⟩
abbrev cX11_ofCell : ByteArray := prog_1_method_4_code
def yX11_ofCell : MethodName := ⟨RX11, "ofCell", "(II)I"⟩
abbrev cX11_hand : ByteArray := prog_1_method_5_code
def yX11_hand : MethodName := ⟨RX11, "hand", "(I)I"⟩
abbrev cX11_ofHand : ByteArray := prog_1_method_6_code
def yX11_ofHand : MethodName := ⟨RX11, "ofHand", "(II)I"⟩
abbrev cX11_become : ByteArray := prog_1_method_7_code
def yX11_become : MethodName := ⟨RX11, "become", "(II)I"⟩
abbrev cX11_as : ByteArray := prog_1_method_8_code
def yX11_as : MethodName := ⟨RX11, "as", "(II)I"⟩
abbrev cX11_feed : ByteArray := prog_1_method_9_code
def yX11_feed : MethodName := ⟨RX11, "feed", "(JI)I"⟩
abbrev cX11_text : ByteArray := prog_1_method_10_code
def yX11_text : MethodName := ⟨RX11, "text", "(I)I"⟩
abbrev cX11_law : ByteArray := prog_1_method_11_code
def yX11_law : MethodName := ⟨RX11, "law", "(IIII)I"⟩
abbrev cX11_roll : ByteArray := prog_1_method_12_code
def yX11_roll : MethodName := ⟨RX11, "roll", "(III)I"⟩
abbrev cX11_minutes : ByteArray := prog_1_method_13_code
def yX11_minutes : MethodName := ⟨RX11, "minutes", "(I)I"⟩
abbrev cX11_days : ByteArray := prog_1_method_14_code
def yX11_days : MethodName := ⟨RX11, "days", "(I)I"⟩
abbrev cX11_seams : ByteArray := prog_1_method_15_code
def yX11_seams : MethodName := ⟨RX11, "seams", "(I)I"⟩
abbrev cX11_done : ByteArray := prog_1_method_16_code
def yX11_done : MethodName := ⟨RX11, "done", "(II)I"⟩
abbrev cX11_order : ByteArray := prog_1_method_17_code
def yX11_order : MethodName := ⟨RX11, "order", "(II)I"⟩
abbrev cX11_clean : ByteArray := prog_1_method_18_code
def yX11_clean : MethodName := ⟨RX11, "clean", "(II)I"⟩
abbrev cX11_called : ByteArray := prog_1_method_19_code
def yX11_called : MethodName := ⟨RX11, "called", "(III)I"⟩
abbrev cX11_worst : ByteArray := prog_1_method_20_code
def yX11_worst : MethodName := ⟨RX11, "worst", "(III)I"⟩
abbrev cX11_howLong : ByteArray := prog_1_method_21_code
def yX11_howLong : MethodName := ⟨RX11, "howLong", "(II)I"⟩
abbrev cX11_cans : ByteArray := prog_1_method_22_code
def yX11_cans : MethodName := ⟨RX11, "cans", "(I)I"⟩
abbrev cX11_whose : ByteArray := prog_1_method_23_code
def yX11_whose : MethodName := ⟨RX11, "whose", "(III)I"⟩
abbrev cX11_odds : ByteArray := prog_1_method_24_code
def yX11_odds : MethodName := ⟨RX11, "odds", "(IIII)I"⟩
abbrev cX11_seed : ByteArray := prog_1_method_25_code
def yX11_seed : MethodName := ⟨RX11, "seed", "(I)I"⟩
abbrev cX11_voice : ByteArray := prog_1_method_26_code
def yX11_voice : MethodName := ⟨RX11, "voice", "(III)I"⟩
abbrev cX11_trace : ByteArray := prog_1_method_27_code
def yX11_trace : MethodName := ⟨RX11, "trace", "(I)I"⟩
abbrev cX11_sheet : ByteArray := prog_1_method_28_code
def yX11_sheet : MethodName := ⟨RX11, "sheet", "(III)I"⟩
abbrev cX11_put : ByteArray := prog_1_method_29_code
def yX11_put : MethodName := ⟨RX11, "put", "(III)I"⟩
abbrev cX11_move : ByteArray := prog_1_method_30_code
def yX11_move : MethodName := ⟨RX11, "move", "(IIIII)I"⟩
abbrev cX11_whites : ByteArray := prog_1_method_31_code
def yX11_whites : MethodName := ⟨RX11, "whites", "(I)I"⟩
abbrev cX11_judge : ByteArray := prog_1_method_32_code
def yX11_judge : MethodName := ⟨RX11, "judge", "(I)I"⟩
abbrev cX11_image : ByteArray := prog_1_method_33_code
def yX11_image : MethodName := ⟨RX11, "image", "()I"⟩
abbrev cX11_restore : ByteArray := prog_1_method_34_code
def yX11_restore : MethodName := ⟨RX11, "restore", "()I"⟩
abbrev cX11_tell : ByteArray := prog_1_method_35_code
def yX11_tell : MethodName := ⟨RX11, "tell", "(I)I"⟩
abbrev cX11_check : ByteArray := prog_1_method_36_code
def yX11_check : MethodName := ⟨RX11, "check", "()I"⟩
abbrev cX11_count : ByteArray := prog_1_method_37_code
def yX11_count : MethodName := ⟨RX11, "count", "(I)I"⟩
abbrev cX11_told : ByteArray := prog_1_method_38_code
def yX11_told : MethodName := ⟨RX11, "told", "(I)I"⟩
abbrev cX11_error : ByteArray := prog_1_method_39_code
def yX11_error : MethodName := ⟨RX11, "error", "(I)I"⟩
abbrev cX11_within : ByteArray := prog_1_method_40_code
def yX11_within : MethodName := ⟨RX11, "within", "(III)Z"⟩
abbrev cX11_isLaterStrip : ByteArray := prog_1_method_41_code
def yX11_isLaterStrip : MethodName := ⟨RX11, "isLaterStrip", "(I)Z"⟩
abbrev cX11_textOf : ByteArray := prog_1_method_42_code
def yX11_textOf : MethodName := ⟨RX11, "textOf", "(I)LOneGoCeiling$Text;"⟩
abbrev cX11_sheetOf : ByteArray := prog_1_method_43_code
def yX11_sheetOf : MethodName := ⟨RX11, "sheetOf", "(I)LOneGoCeiling$Sheet;"⟩
def RX12 : String := "OneGoCeilingModel"
def TX12 : u_T := fun k => match k with
  | 0 => ("OneGoCeilingModel", "row", "[I", true)
  | 1 => ("OneGoCeilingModel", "kept", "[I", true)
  | 2 => ("OneGoCeilingModel", "tried", "[I", true)
  | 3 => ("OneGoCeilingModel", "before", "[I", true)
  | 4 => ("OneGoCeilingModel", "isKept", "Z", false)
  | 5 => ("OneGoCeilingModel", "images", "I", false)
  | 6 => ("OneGoCeilingModel", "found", "[I", true)
  | 7 => ("OneGoCeilingModel", "dry", "[I", true)
  | 8 => ("OneGoCeilingModel", "shown", "[I", true)
  | 9 => ("OneGoCeilingModel", "isTabled", "Z", false)
  | 10 => ("OneGoCeilingModel", "use", "I", false)
  | 11 => ("OneGoCeilingModel", "at", "I", false)
  | 12 => ("OneGoCeilingModel", "end", "I", false)
  | 13 => ("OneGoCeilingModel", "open", "I", false)
  | 14 => ("OneGoCeilingModel", "namedA", "I", false)
  | 15 => ("OneGoCeilingModel", "namedB", "I", false)
  | 16 => ("OneGoCeilingModel", "namedC", "I", false)
  | 17 => ("OneGoCeilingModel", "good", "Z", false)
  | 18 => ("OneGoCeilingModel", "cansBegun", "I", false)
  | 19 => ("OneGoCeilingModel", "bitsOf", "[I", true)
  | 20 => ("OneGoCeilingModel", "sizeOf", "[I", true)
  | 21 => ("OneGoCeilingModel", "sheets", "[I", true)
  | 22 => ("OneGoCeilingModel", "moved", "[I", true)
  | 23 => ("OneGoCeilingModel", "order", "[I", true)
  | 24 => ("OneGoCeilingModel", "bestOrder", "[I", true)
  | 25 => ("OneGoCeilingModel", "traced", "[I", true)
  | 26 => ("OneGoCeilingModel", "tracedMany", "I", false)
  | 27 => ("OneGoCeilingModel", "voiceKind", "I", false)
  | 28 => ("OneGoCeilingModel", "voiceN", "I", false)
  | _ => ("OneGoCeilingModel", "voiceM", "I", false)
def tyX12 : Nat → FieldType := fun k => match k with
  | 0 => .array .int
  | 1 => .array .int
  | 2 => .array .int
  | 3 => .array .int
  | 4 => .boolean
  | 5 => .int
  | 6 => .array .int
  | 7 => .array .int
  | 8 => .array .int
  | 9 => .boolean
  | 10 => .int
  | 11 => .int
  | 12 => .int
  | 13 => .int
  | 14 => .int
  | 15 => .int
  | 16 => .int
  | 17 => .boolean
  | 18 => .int
  | 19 => .array .int
  | 20 => .array .int
  | 21 => .array .int
  | 22 => .array .int
  | 23 => .array .int
  | 24 => .array .int
  | 25 => .array .int
  | 26 => .int
  | 27 => .int
  | 28 => .int
  | _ => .int
abbrev wsX120 : List Cond := u_ws RX12 TX12 30
theorem nmX12 : ∀ a, a < 30 → ∀ b, b < 30 → a ≠ b → (TX12 a).2.1 ≠ (TX12 b).2.1 := by decide +kernel
theorem tyX12_ok : ∀ k, k < 30 → parseFieldDescriptor (TX12 k).2.2.1 = some (tyX12 k) := by decide +kernel
abbrev cX12_init : ByteArray := prog_14_method_1_code
def yX12_init : MethodName := ⟨RX12, "<init>", "()V"⟩
abbrev cX12_in : ByteArray := prog_14_method_2_code
def yX12_in : MethodName := ⟨RX12, "in", "(III)Z"⟩
abbrev cX12_errs : ByteArray := prog_14_method_3_code
def yX12_errs : MethodName := ⟨RX12, "errs", "(I)I"⟩
abbrev cX12_held : ByteArray := prog_14_method_4_code
def yX12_held : MethodName := ⟨RX12, "held", "(III)I"⟩
abbrev cX12_moveAll : ByteArray := prog_14_method_5_code
def yX12_moveAll : MethodName := ⟨RX12, "moveAll", "([I[I)V"⟩
abbrev cX12_bare : ByteArray := prog_14_method_6_code
def yX12_bare : MethodName := ⟨RX12, "bare", "(II)V"⟩
abbrev cX12_cells : ByteArray := prog_14_method_7_code
def yX12_cells : MethodName := ⟨RX12, "cells", "()I"⟩
abbrev cX12_whenOf : ByteArray := prog_14_method_8_code
def yX12_whenOf : MethodName := ⟨RX12, "whenOf", "(I)I"⟩
abbrev cX12_whiteOf : ByteArray := prog_14_method_9_code
def yX12_whiteOf : MethodName := ⟨RX12, "whiteOf", "(I)I"⟩
abbrev cX12_ceiling : ByteArray := prog_14_method_10_code
def yX12_ceiling : MethodName := ⟨RX12, "ceiling", "(II)I"⟩
abbrev cX12_set : ByteArray := prog_14_method_11_code
def yX12_set : MethodName := ⟨RX12, "set", "(II)I"⟩
abbrev cX12_isCell : ByteArray := prog_14_method_12_code
def yX12_isCell : MethodName := ⟨RX12, "isCell", "(I)Z"⟩
abbrev cX12_isStrip : ByteArray := prog_14_method_13_code
def yX12_isStrip : MethodName := ⟨RX12, "isStrip", "(I)Z"⟩
abbrev cX12_driesAt : ByteArray := prog_14_method_14_code
def yX12_driesAt : MethodName := ⟨RX12, "driesAt", "(I)I"⟩
abbrev cX12_shows : ByteArray := prog_14_method_15_code
def yX12_shows : MethodName := ⟨RX12, "shows", "(II)I"⟩
abbrev cX12_tables : ByteArray := prog_14_method_16_code
def yX12_tables : MethodName := ⟨RX12, "tables", "()V"⟩
abbrev cX12_isSeam : ByteArray := prog_14_method_17_code
def yX12_isSeam : MethodName := ⟨RX12, "isSeam", "(I)Z"⟩
abbrev cX12_seamAt : ByteArray := prog_14_method_18_code
def yX12_seamAt : MethodName := ⟨RX12, "seamAt", "(I)I"⟩
abbrev cX12_ofCell : ByteArray := prog_14_method_19_code
def yX12_ofCell : MethodName := ⟨RX12, "ofCell", "(II)I"⟩
abbrev cX12_isHand : ByteArray := prog_14_method_20_code
def yX12_isHand : MethodName := ⟨RX12, "isHand", "(I)Z"⟩
abbrev cX12_kindOf : ByteArray := prog_14_method_21_code
def yX12_kindOf : MethodName := ⟨RX12, "kindOf", "(I)I"⟩
abbrev cX12_mOf : ByteArray := prog_14_method_22_code
def yX12_mOf : MethodName := ⟨RX12, "mOf", "(I)I"⟩
abbrev cX12_hand : ByteArray := prog_14_method_23_code
def yX12_hand : MethodName := ⟨RX12, "hand", "(I)I"⟩
abbrev cX12_paceOf : ByteArray := prog_14_method_24_code
def yX12_paceOf : MethodName := ⟨RX12, "paceOf", "(III)I"⟩
abbrev cX12_loadOf : ByteArray := prog_14_method_25_code
def yX12_loadOf : MethodName := ⟨RX12, "loadOf", "(II)I"⟩
abbrev cX12_usesOf : ByteArray := prog_14_method_26_code
def yX12_usesOf : MethodName := ⟨RX12, "usesOf", "(II)I"⟩
abbrev cX12_ofHand : ByteArray := prog_14_method_27_code
def yX12_ofHand : MethodName := ⟨RX12, "ofHand", "(II)I"⟩
abbrev cX12_become : ByteArray := prog_14_method_28_code
def yX12_become : MethodName := ⟨RX12, "become", "(II)I"⟩
abbrev cX12_above : ByteArray := prog_14_method_29_code
def yX12_above : MethodName := ⟨RX12, "above", "(I)I"⟩
abbrev cX12_as : ByteArray := prog_14_method_30_code
def yX12_as : MethodName := ⟨RX12, "as", "(II)I"⟩
abbrev cX12_byteAt : ByteArray := prog_14_method_31_code
def yX12_byteAt : MethodName := ⟨RX12, "byteAt", "(I)I"⟩
abbrev cX12_isDigit : ByteArray := prog_14_method_32_code
def yX12_isDigit : MethodName := ⟨RX12, "isDigit", "(I)Z"⟩
abbrev cX12_fails : ByteArray := prog_14_method_33_code
def yX12_fails : MethodName := ⟨RX12, "fails", "()I"⟩
abbrev cX12_number : ByteArray := prog_14_method_34_code
def yX12_number : MethodName := ⟨RX12, "number", "()I"⟩
abbrev cX12_named : ByteArray := prog_14_method_35_code
def yX12_named : MethodName := ⟨RX12, "named", "(I)I"⟩
abbrev cX12_factor : ByteArray := prog_14_method_36_code
def yX12_factor : MethodName := ⟨RX12, "factor", "()I"⟩
abbrev cX12_product : ByteArray := prog_14_method_37_code
def yX12_product : MethodName := ⟨RX12, "product", "()I"⟩
abbrev cX12_sum : ByteArray := prog_14_method_38_code
def yX12_sum : MethodName := ⟨RX12, "sum", "()I"⟩
abbrev cX12_compared : ByteArray := prog_14_method_39_code
def yX12_compared : MethodName := ⟨RX12, "compared", "()I"⟩
abbrev cX12_both : ByteArray := prog_14_method_40_code
def yX12_both : MethodName := ⟨RX12, "both", "()I"⟩
abbrev cX12_whole : ByteArray := prog_14_method_41_code
def yX12_whole : MethodName := ⟨RX12, "whole", "()I"⟩
abbrev cX12_walks : ByteArray := prog_14_method_42_code
def yX12_walks : MethodName := ⟨RX12, "walks", "(IIII)I"⟩
abbrev cX12_lawOf : ByteArray := prog_14_method_43_code
def yX12_lawOf : MethodName := ⟨RX12, "lawOf", "(IIII)I"⟩
abbrev cX12_law : ByteArray := prog_14_method_44_code
def yX12_law : MethodName := ⟨RX12, "law", "(IIII)I"⟩
abbrev cX12_feed : ByteArray := prog_14_method_45_code
def yX12_feed : MethodName := ⟨RX12, "feed", "(JI)I"⟩
abbrev cX12_text : ByteArray := prog_14_method_46_code
def yX12_text : MethodName := ⟨RX12, "text", "(I)I"⟩
abbrev cX12_rolls : ByteArray := prog_14_method_47_code
def yX12_rolls : MethodName := ⟨RX12, "rolls", "(IIII)V"⟩
abbrev cX12_rollsBy : ByteArray := prog_14_method_48_code
def yX12_rollsBy : MethodName := ⟨RX12, "rollsBy", "(III)V"⟩
abbrev cX12_roll : ByteArray := prog_14_method_49_code
def yX12_roll : MethodName := ⟨RX12, "roll", "(III)I"⟩
abbrev cX12_minutes : ByteArray := prog_14_method_50_code
def yX12_minutes : MethodName := ⟨RX12, "minutes", "(I)I"⟩
abbrev cX12_drawn : ByteArray := prog_14_method_51_code
def yX12_drawn : MethodName := ⟨RX12, "drawn", "(I)I"⟩
abbrev cX12_days : ByteArray := prog_14_method_52_code
def yX12_days : MethodName := ⟨RX12, "days", "(I)I"⟩
abbrev cX12_seen : ByteArray := prog_14_method_53_code
def yX12_seen : MethodName := ⟨RX12, "seen", "()I"⟩
abbrev cX12_seams : ByteArray := prog_14_method_54_code
def yX12_seams : MethodName := ⟨RX12, "seams", "(I)I"⟩
abbrev cX12_isSheet : ByteArray := prog_14_method_55_code
def yX12_isSheet : MethodName := ⟨RX12, "isSheet", "(I)Z"⟩
abbrev cX12_seenBy : ByteArray := prog_14_method_56_code
def yX12_seenBy : MethodName := ⟨RX12, "seenBy", "(I)I"⟩
abbrev cX12_done : ByteArray := prog_14_method_57_code
def yX12_done : MethodName := ⟨RX12, "done", "(II)I"⟩
abbrev cX12_goesOn : ByteArray := prog_14_method_58_code
def yX12_goesOn : MethodName := ⟨RX12, "goesOn", "()Z"⟩
abbrev cX12_leastSeen : ByteArray := prog_14_method_59_code
def yX12_leastSeen : MethodName := ⟨RX12, "leastSeen", "(I)I"⟩
abbrev cX12_order : ByteArray := prog_14_method_60_code
def yX12_order : MethodName := ⟨RX12, "order", "(II)I"⟩
abbrev cX12_clean : ByteArray := prog_14_method_61_code
def yX12_clean : MethodName := ⟨RX12, "clean", "(II)I"⟩
abbrev cX12_seenAway : ByteArray := prog_14_method_62_code
def yX12_seenAway : MethodName := ⟨RX12, "seenAway", "(III)I"⟩
abbrev cX12_isLater : ByteArray := prog_14_method_63_code
def yX12_isLater : MethodName := ⟨RX12, "isLater", "(I)Z"⟩
abbrev cX12_called : ByteArray := prog_14_method_64_code
def yX12_called : MethodName := ⟨RX12, "called", "(III)I"⟩
abbrev cX12_worst : ByteArray := prog_14_method_65_code
def yX12_worst : MethodName := ⟨RX12, "worst", "(III)I"⟩
abbrev cX12_howLong : ByteArray := prog_14_method_66_code
def yX12_howLong : MethodName := ⟨RX12, "howLong", "(II)I"⟩
abbrev cX12_cans : ByteArray := prog_14_method_67_code
def yX12_cans : MethodName := ⟨RX12, "cans", "(I)I"⟩
abbrev cX12_rollsSo : ByteArray := prog_14_method_68_code
def yX12_rollsSo : MethodName := ⟨RX12, "rollsSo", "(IIII)Z"⟩
abbrev cX12_whose : ByteArray := prog_14_method_69_code
def yX12_whose : MethodName := ⟨RX12, "whose", "(III)I"⟩
abbrev cX12_odds : ByteArray := prog_14_method_70_code
def yX12_odds : MethodName := ⟨RX12, "odds", "(IIII)I"⟩
abbrev cX12_seed : ByteArray := prog_14_method_71_code
def yX12_seed : MethodName := ⟨RX12, "seed", "(I)I"⟩
abbrev cX12_ran : ByteArray := prog_14_method_72_code
def yX12_ran : MethodName := ⟨RX12, "ran", "(I)V"⟩
abbrev cX12_loadsIn : ByteArray := prog_14_method_73_code
def yX12_loadsIn : MethodName := ⟨RX12, "loadsIn", "(II)I"⟩
abbrev cX12_driesIn : ByteArray := prog_14_method_74_code
def yX12_driesIn : MethodName := ⟨RX12, "driesIn", "(II)I"⟩
abbrev cX12_rollsIn : ByteArray := prog_14_method_75_code
def yX12_rollsIn : MethodName := ⟨RX12, "rollsIn", "(II)I"⟩
abbrev cX12_tellsIn : ByteArray := prog_14_method_76_code
def yX12_tellsIn : MethodName := ⟨RX12, "tellsIn", "(II)I"⟩
abbrev cX12_voice : ByteArray := prog_14_method_77_code
def yX12_voice : MethodName := ⟨RX12, "voice", "(III)I"⟩
abbrev cX12_trace : ByteArray := prog_14_method_78_code
def yX12_trace : MethodName := ⟨RX12, "trace", "(I)I"⟩
abbrev cX12_narrow : ByteArray := prog_14_method_79_code
def yX12_narrow : MethodName := ⟨RX12, "narrow", "(II)I"⟩
abbrev cX12_sheet : ByteArray := prog_14_method_80_code
def yX12_sheet : MethodName := ⟨RX12, "sheet", "(III)I"⟩
abbrev cX12_put : ByteArray := prog_14_method_81_code
def yX12_put : MethodName := ⟨RX12, "put", "(III)I"⟩
abbrev cX12_move : ByteArray := prog_14_method_82_code
def yX12_move : MethodName := ⟨RX12, "move", "(IIIII)I"⟩
abbrev cX12_whites : ByteArray := prog_14_method_83_code
def yX12_whites : MethodName := ⟨RX12, "whites", "(I)I"⟩
abbrev cX12_judge : ByteArray := prog_14_method_84_code
def yX12_judge : MethodName := ⟨RX12, "judge", "(I)I"⟩
abbrev cX12_image : ByteArray := prog_14_method_85_code
def yX12_image : MethodName := ⟨RX12, "image", "()I"⟩
abbrev cX12_restore : ByteArray := prog_14_method_86_code
def yX12_restore : MethodName := ⟨RX12, "restore", "()I"⟩
abbrev cX12_tell : ByteArray := prog_14_method_87_code
def yX12_tell : MethodName := ⟨RX12, "tell", "(I)I"⟩
abbrev cX12_check : ByteArray := prog_14_method_88_code
def yX12_check : MethodName := ⟨RX12, "check", "()I"⟩
abbrev cX12_rolledMany : ByteArray := prog_14_method_89_code
def yX12_rolledMany : MethodName := ⟨RX12, "rolledMany", "()I"⟩
abbrev cX12_count : ByteArray := prog_14_method_90_code
def yX12_count : MethodName := ⟨RX12, "count", "(I)I"⟩
abbrev cX12_told : ByteArray := prog_14_method_91_code
def yX12_told : MethodName := ⟨RX12, "told", "(I)I"⟩
def RJ9 : String := "java/lang/Math"
def TJ9 : u_T := fun k => match k with
  | _ => ("", "", "", false)
def tyJ9 : Nat → FieldType := fun k => match k with
  | _ => .int
abbrev wsJ90 : List Cond := u_ws RJ9 TJ9 0
theorem nmJ9 : ∀ a, a < 0 → ∀ b, b < 0 → a ≠ b → (TJ9 a).2.1 ≠ (TJ9 b).2.1 := by decide +kernel
theorem tyJ9_ok : ∀ k, k < 0 → parseFieldDescriptor (TJ9 k).2.2.1 = some (tyJ9 k) := by decide +kernel
abbrev cJ9_abs_0f7a4 : ByteArray := prog_15_method_59_code
def yJ9_abs_0f7a4 : MethodName := ⟨RJ9, "abs", "(I)I"⟩
abbrev cJ9_max_7cf53 : ByteArray := prog_15_method_65_code
def yJ9_max_7cf53 : MethodName := ⟨RJ9, "max", "(II)I"⟩
abbrev cJ9_min_7cf53 : ByteArray := prog_15_method_69_code
def yJ9_min_7cf53 : MethodName := ⟨RJ9, "min", "(II)I"⟩
def RL : String := "OneGoCeilingLaw"
abbrev cL_law : ByteArray := code
def yL_law : MethodName := ⟨RL, "law", "([I)Z"⟩
abbrev vwCl : List vw_C := [(RX0, TX0, 10), (RX1, TX1, 2), (RX2, TX2, 4), (RX4, TX4, 5), (RX5, TX5, 2), (RX6, TX6, 2), (RX7, TX7, 7), (RX8, TX8, 3), (RX9, TX9, 9), (RX10, TX10, 4), (RX11, TX11, 9), (RX12, TX12, 30)]
end
section
/-! THE THOUGHT MACHINE: cells have numbers (0, 1, .. as they are made) instead of addresses; a method is walked over them, and what it says is true of the machine -/
abbrev AE : Type := (Nat × (Nat → Int32)) ⊕ ((Nat × (Nat → Option Nat)) ⊕ (Nat × List Value))
abbrev AH : Type := Nat × (Nat → AE)
abbrev MI : Type := MethodName × ByteArray × Nat × Option FieldType × Nat
abbrev XT : Type := Option (Nat × (Nat → Int32))
def cv (b base : Nat) (v : Value) : Value := match v with
  | .ref a => .ref (base + a)
  | .float _ => .ref b
  | w => w
def ce (b base : Nat) (cA : ClassId) (x : AE) : va_E := match x with
  | .inl a => .inl (cA, a.1, .inl a.2)
  | .inr (.inl a) => .inl (cA, a.1, .inr (.inr (.inr (.inr (fun j => (a.2 j).map (fun k => base + k))))))
  | .inr (.inr o) => .inr (o.1, o.2.map (cv b base))
def ak (cA : ClassId) (x : AE) (s : State) : Prop := match x with
  | .inl _ => ArrOfT s cA .int ∧ va_RA s cA .int
  | .inr (.inl _) => ArrOfT s cA (.object "OneGoCeiling$Sheet") ∧ va_RA s cA (.object "OneGoCeiling$Sheet")
  | .inr (.inr _) => True
def hset (h : AH) (i : Nat) (x : AE) : AH := (h.1, fun j => if j = i then x else h.2 j)
def hnew (h : AH) (x : AE) : AH := (h.1 + 1, fun j => if j = h.1 then x else h.2 j)
def iA (base : Nat) : Nat → Prop := fun q => base ≤ q
def Hp (D : va_G) (b base : Nat) (s : State) (h : AH) (H : Heap) : Prop :=
  ∃ cA : Nat → ClassId, H.size = base + h.1 ∧ (∀ i, i < h.1 → va_at D vwCl (base + i, ce b base (cA i) (h.2 i)) H) ∧ ∀ i, i < h.1 → ak (cA i) (h.2 i) s
def lAB : List Int32 := [-1, 0, 0, 0, 1, 2, 3]
def lBO : List Int32 := [10, 11, 12, 13, 0, 0, 20, 0, 0, 30, 0, 0, 40, 0, 0, 0, 0, 0, 50, 51, 0, 60, 0, 0, 0, 0, 0, 70]
def fAB : Nat → Value := fun j => .int (lAB.getD j 0)
def fBO : Nat → Value := fun j => .int (lBO.getD j 0)
def Sa (base : Nat) (U : State) (H : Heap) : Prop := ∃ t, va_Z "OneGoCeiling$Kinds" "ABOVE" "[I" (.ref t) (iA base) U H ∧ va_T .int t 7 fAB (iA base) U H
def Sb (base : Nat) (U : State) (H : Heap) : Prop := ∃ t, va_Z "OneGoCeiling$Voices" "BODIES" "[I" (.ref t) (iA base) U H ∧ va_T .int t 28 fBO (iA base) U H
def Sc (b base : Nat) (X : XT) (U : State) (H : Heap) : Prop := ∀ L xs, X = some (L, xs) → va_X b L xs U H ∧ b < base
def Wd (D : va_G) (b base : Nat) (X : XT) (h : AH) (U : State) : Prop :=
  va_K D vwCl [] U ∧ va_AO "OneGoCeiling$Sheet" U ∧ Sa base U U.heap ∧ Sb base U U.heap ∧ Sc b base X U U.heap ∧ Hp D b base U h U.heap
def rmd (d mc ms : Nat) : Room := { frames := d, cells := mc, slots := ms, locals := 41 * d }
def lw_g : List Cond := lw_tbl.filter goodWord
def wsM (μ : MI) : List Cond := .code μ.1 μ.2.1 μ.2.2.1 μ.2.2.2.1 :: lw_g
def QM (D : va_G) (b base : Nat) (X : XT) (Q : Option Value → AH → Prop) : Array Value → State → Outcome → State → Prop := fun _ st o t =>
  (∃ v h', o = .returned (v.map (cv b base)) ∧ Q v h' ∧ Wd D b base X h' t) ∧ st.heap.size ≤ t.heap.size ∧ ∀ q, q < base → t.heap[q]? = st.heap[q]?
/-- a method's contract, by a heap -/
def CT (d mc ms : Nat) (μ : MI) (as : List Value) (h : AH) (Q : Option Value → AH → Prop) : Prop :=
  ∀ (l : Launch) (D : va_G) (b base : Nat) (X : XT), Met l μ.1 (wsM μ) (rmd d mc ms) (fun args U => args = (as.map (cv b base)).toArray ∧ Wd D b base X h U) (QM D b base X Q) mc ms (iA base)
def lget : List (Option Value) → Nat → Option Value
  | [], _ => none
  | v :: _, 0 => v
  | _ :: l, i + 1 => lget l i
def lset : List (Option Value) → Nat → Value → List (Option Value)
  | [], _, _ => []
  | _ :: l, 0, v => some v :: l
  | w :: l, i + 1, v => w :: lset l i v
def lvl (f : Value → Value) : Nat → List (Option Value) → List (Nat × Value)
  | _, [] => []
  | i, none :: l => lvl f (i + 1) l
  | i, some v :: l => (i, f v) :: lvl f (i + 1) l
def lok : List (Option Value) → Nat → Bool
  | some (.long _) :: _, 1 => false
  | some (.double _) :: _, 1 => false
  | [], _ => true
  | _, 0 => true
  | _ :: l, i + 1 => lok l i
def ent : List Value → List (Option Value)
  | [] => []
  | .long x :: l => some (.long x) :: none :: ent l
  | .double x :: l => some (.double x) :: none :: ent l
  | v :: l => some v :: ent l
def pad : Nat → List (Option Value) → List (Option Value)
  | 0, l => l
  | n + 1, [] => none :: pad n []
  | n + 1, v :: l => v :: pad n l
def Re (μ : MI) (pc : Nat) (v : Option Value) : Prop := match v with
  | none => decode μ.2.1 pc = .ok (.return_, 1) ∧ μ.2.2.2.1 = none
  | some (.int x) => decode μ.2.1 pc = .ok (.ireturn, 1) ∧ ∃ ty, μ.2.2.2.1 = some ty ∧ narrow ty (.int x) = .int x
  | some w => decode μ.2.1 pc = .ok (.areturn, 1) ∧ (∃ ty, μ.2.2.2.1 = some ty ∧ ((∃ n, ty = .object n) ∨ ∃ t, ty = .array t)) ∧ (w = .null ∨ ∃ a, w = .ref a)
def Cx (μ : MI) (b base : Nat) (X : XT) (D : va_G) (p : Program) (s : State) (m : MethodId) (args : Array Value) (meth : Method) (c : Code) : Prop :=
  p.tables.exec = Jvm.exec ∧ c.code = μ.2.1 ∧ c.maxLocals = μ.2.2.1 ∧ meth.sig.returnType = μ.2.2.2.1 ∧ s.vm.findClass μ.1.cls = some m.cls ∧ meth.locks = false ∧ (μ.1.name = "<init>" → meth.name = "<init>") ∧ (∀ w ∈ lw_g, w.before args s = true) ∧ va_K D vwCl [] s ∧ va_AO "OneGoCeiling$Sheet" s ∧ Sa base s s.heap ∧ Sb base s s.heap ∧ Sc b base X s s.heap ∧ base ≤ s.heap.size
/-- from this instruction on, with these locals, this stack, any heap of P: the method ends with Q -/
def AW (XS : XT → Prop) (R : Room) (μ : MI) (kc ks pc : Nat) (ls : List (Option Value)) (st : List Value) (P : AH → Prop) (Q : Option Value → AH → Prop) : Prop :=
  ∀ (p : Program) (l : Launch) (e : Env) (s : State) (m : MethodId) (args : Array Value) (below : List Frame) (meth : Method) (c : Code) (D : va_G) (b base : Nat) (X : XT) (Z : State → Prop),
    XS X → Cx μ b base X D p s m args meth c →
    (∀ (pc : Nat) (v : Option Value) (h : AH) (H : Heap) (locs : List Loc) (lsA : Array Slot), Q v h → Re μ pc v → Hp D b base s h H → va_S (iA base) s.heap H locs → W p l e R s m args below meth c H locs R.cells R.slots Z (F0 m pc lsA (v.toList.map (cv b base)))) →
    ∀ (h : AH) (H : Heap) (locs : List Loc) (lsA : Array Slot), P h → Hp D b base s h H → va_S (iA base) s.heap H locs → lv_has lsA μ.2.2.1 (lvl (cv b base) 0 ls) → W p l e R s m args below meth c H locs kc ks Z (F0 m pc lsA (st.map (cv b base)))
-- ===== plain facts =====
theorem cv_cat (b base : Nat) (v : Value) : (cv b base v).category = v.category := by cases v <;> rfl
theorem lvl_mem {f : Value → Value} : ∀ {ls : List (Option Value)} {i : Nat} {q : Nat × Value}, q ∈ lvl f i ls ↔ ∃ j v, q = (i + j, f v) ∧ lget ls j = some v := by
  intro ls
  induction ls with
  | nil => intro i q; simp [lvl, lget]
  | cons w l ih =>
    intro i q
    cases w with
    | none =>
      rw [lvl, ih]
      constructor
      · rintro ⟨j, v, rfl, h⟩
        exact ⟨j + 1, v, by rw [show i + (j + 1) = i + 1 + j by omega], h⟩
      · rintro ⟨j, v, rfl, h⟩
        cases j with
        | zero => cases h
        | succ j => exact ⟨j, v, by rw [show i + (j + 1) = i + 1 + j by omega], h⟩
    | some w =>
      rw [lvl, List.mem_cons, ih]
      constructor
      · rintro (rfl | ⟨j, v, rfl, h⟩)
        · exact ⟨0, w, rfl, rfl⟩
        · exact ⟨j + 1, v, by rw [show i + (j + 1) = i + 1 + j by omega], h⟩
      · rintro ⟨j, v, rfl, h⟩
        cases j with
        | zero => cases h; exact Or.inl rfl
        | succ j => exact Or.inr ⟨j, v, by rw [show i + (j + 1) = i + 1 + j by omega], h⟩
theorem lget_ok {f : Value → Value} {ls : List (Option Value)} {lsA : Array Slot} {n i : Nat} {v : Value} (h : lv_has lsA n (lvl f 0 ls)) (hl : lget ls i = some v) : lsA[i]? = some (.val (f v)) :=
  h.2.2 (i, f v) (lvl_mem.mpr ⟨i, v, by rw [Nat.zero_add], hl⟩)
theorem lget_lset : ∀ {ls : List (Option Value)} {i j : Nat} {v w : Value}, lget (lset ls i v) j = some w → (j = i ∧ w = v) ∨ (j ≠ i ∧ lget ls j = some w) := by
  intro ls
  induction ls with
  | nil => intro i j v w h; simp [lset, lget] at h
  | cons x l ih =>
    intro i j v w h
    cases i with
    | zero =>
      cases j with
      | zero => simp only [lset, lget, Option.some.injEq] at h; exact Or.inl ⟨rfl, h.symm⟩
      | succ j => exact Or.inr ⟨by omega, h⟩
    | succ i =>
      cases j with
      | zero => exact Or.inr ⟨by omega, h⟩
      | succ j =>
        rcases ih (i := i) (j := j) (v := v) (w := w) h with ⟨a, b⟩ | ⟨a, b⟩
        · exact Or.inl ⟨by omega, b⟩
        · exact Or.inr ⟨by omega, b⟩
theorem lok_ok : ∀ {ls : List (Option Value)} {i : Nat} {v : Value}, lok ls (i + 1) = true → lget ls i = some v → v.category = 1 := by
  intro ls
  induction ls with
  | nil => intro i v _ h; simp [lget] at h
  | cons x l ih =>
    intro i v hk h
    cases i with
    | zero =>
      simp only [lget] at h
      subst h
      cases v <;> first | rfl | (simp [lok] at hk)
    | succ i =>
      have hk2 : lok l (i + 1) = true := by
        cases x with
        | none => exact hk
        | some y => cases y <;> exact hk
      exact ih hk2 h
/-- a store of one slot -/
theorem lset_ok {f : Value → Value} {ls : List (Option Value)} {lsA : Array Slot} {n i : Nat} {v : Value} (hf : ∀ w, (f w).category = w.category) (hk : lok ls i = true)
    (h : lv_has lsA n ((i, f v) :: (lvl f 0 ls).filter (fun q => !(q.1 == i) && !(q.1 + 1 == i && q.2.category == 2)))) : lv_has lsA n (lvl f 0 (lset ls i v)) := by
  refine ⟨h.1, h.2.1, fun q hq => h.2.2 q ?_⟩
  obtain ⟨j, w, rfl, hj⟩ := lvl_mem.mp hq
  rw [Nat.zero_add]
  rcases lget_lset hj with ⟨rfl, rfl⟩ | ⟨hne, hg⟩
  · exact List.mem_cons_self
  · refine List.mem_cons_of_mem _ (List.mem_filter.mpr ⟨lvl_mem.mpr ⟨j, w, by rw [Nat.zero_add], hg⟩, ?_⟩)
    simp only [Bool.and_eq_true, Bool.not_eq_true', beq_eq_false_iff_ne, ne_eq, Bool.and_eq_false_imp, beq_iff_eq]
    refine ⟨hne, fun e => ?_⟩
    subst e
    rw [hf, lok_ok hk hg]
    decide
theorem lget_pad : ∀ {n : Nat} {ls : List (Option Value)} {i : Nat} {v : Value}, lget (pad n ls) i = some v → lget ls i = some v := by
  intro n
  induction n with
  | zero => intro ls i v h; exact h
  | succ n ih =>
    intro ls i v h
    cases ls with
    | nil =>
      cases i with
      | zero => simp [pad, lget] at h
      | succ i => have := ih (ls := []) (i := i) h; simp [lget] at this
    | cons x l =>
      cases i with
      | zero => exact h
      | succ i => exact ih (ls := l) (i := i) h
theorem ent_ok {f : Value → Value} (hf : ∀ w, (f w).category = w.category) : ∀ (as : List Value) (i : Nat) (q : Nat × Value), q ∈ lvl f i (ent as) → q ∈ lv_args i (as.map f) := by
  intro as
  induction as with
  | nil => intro i q h; simp [ent, lvl] at h
  | cons v l ih =>
    intro i q h
    rw [List.map_cons, lv_args, hf]
    cases v with
    | long x =>
      simp only [ent, lvl, List.mem_cons] at h
      rcases h with h | h
      · exact List.mem_cons.mpr (Or.inl h)
      · exact List.mem_cons_of_mem _ (ih _ _ h)
    | double x =>
      simp only [ent, lvl, List.mem_cons] at h
      rcases h with h | h
      · exact List.mem_cons.mpr (Or.inl h)
      · exact List.mem_cons_of_mem _ (ih _ _ h)
    | _ =>
      simp only [ent, lvl, List.mem_cons] at h
      rcases h with h | h
      · exact List.mem_cons.mpr (Or.inl h)
      · exact List.mem_cons_of_mem _ (ih _ _ h)
theorem ent_pad {f : Value → Value} (hf : ∀ w, (f w).category = w.category) {as : List Value} {lsA : Array Slot} {n : Nat} (h : lv_has lsA n (lv_args 0 (as.map f))) : lv_has lsA n (lvl f 0 (pad n (ent as))) := by
  refine ⟨h.1, h.2.1, fun q hq => h.2.2 q ?_⟩
  obtain ⟨j, w, rfl, hj⟩ := lvl_mem.mp hq
  exact ent_ok hf as 0 _ (lvl_mem.mpr ⟨j, w, rfl, lget_pad hj⟩)
theorem cat_sum (b base : Nat) (st : List Value) : ((st.map (cv b base)).map fun v => v.category).sum = (st.map fun v => v.category).sum := by
  rw [List.map_map]
  congr 1
  exact List.map_congr_left fun v _ => cv_cat b base v
theorem lwg_in : ∀ w ∈ lw_g, w ∈ lw_tbl := fun w h => (List.mem_filter.mp h).1
theorem lwg_good : ∀ w ∈ lw_g, (w.onTables && w.keeps) = true ∨ ∃ ty, w = .arrayClass ty := fun w h => good_of_word (List.mem_filter.mp h).2
theorem lwg_at (i : Nat) {w : Cond} (h : lw_tbl[i]? = some w) (h2 : goodWord w = true) : w ∈ lw_g := List.mem_filter.mpr ⟨List.mem_of_getElem? h, h2⟩
theorem lwg_ws {μ : MI} (hc : Cond.code μ.1 μ.2.1 μ.2.2.1 μ.2.2.2.1 ∈ lw_g) : GoodIn lw_g (wsM μ) := fun w hw => by
  rcases List.mem_cons.mp hw with rfl | h
  · exact ⟨hc, lwg_good _ hc⟩
  · exact ⟨h, lwg_good _ h⟩
theorem hset_same (h : AH) (i : Nat) (x : AE) : (hset h i x).2 i = x := if_pos rfl
theorem hset_ne (h : AH) {i j : Nat} (x : AE) (n : j ≠ i) : (hset h i x).2 j = h.2 j := if_neg n
theorem hset_1 (h : AH) (i : Nat) (x : AE) : (hset h i x).1 = h.1 := rfl
end
section
section RowsA
variable {XS : XT → Prop} {R : Room} {μ : MI} {kc ks pc : Nat} {ls : List (Option Value)} {st : List Value} {P : AH → Prop} {Q : Option Value → AH → Prop}
theorem aw_P {P' : AH → Prop} (hp : ∀ h, P h → P' h) (kk : AW XS R μ kc ks pc ls st P' Q) : AW XS R μ kc ks pc ls st P Q := by
  intro p l e s m args below meth c D b base X Z hX hc hz h H locs lsA hP
  exact kk p l e s m args below meth c D b base X Z hX hc hz h H locs lsA (hp h hP)
theorem aw_at (kk : ∀ h, P h → AW XS R μ kc ks pc ls st (fun g => g = h) Q) : AW XS R μ kc ks pc ls st P Q := by
  intro p l e s m args below meth c D b base X Z hX hc hz h H locs lsA hP
  exact kk h hP p l e s m args below meth c D b base X Z hX hc hz h H locs lsA rfl
theorem aw_ex {α : Type} {F : α → AH → Prop} (kk : ∀ x, AW XS R μ kc ks pc ls st (F x) Q) : AW XS R μ kc ks pc ls st (fun h => ∃ x, F x h) Q := by
  intro p l e s m args below meth c D b base X Z hX hc hz h H locs lsA hP
  obtain ⟨x, hx⟩ := hP
  exact kk x p l e s m args below meth c D b base X Z hX hc hz h H locs lsA hx
theorem aw_pr {G : Prop} (kk : G → AW XS R μ kc ks pc ls st P Q) : AW XS R μ kc ks pc ls st (fun h => G ∧ P h) Q := by
  intro p l e s m args below meth c D b base X Z hX hc hz h H locs lsA hP
  exact kk hP.1 p l e s m args below meth c D b base X Z hX hc hz h H locs lsA hP.2
theorem aw_pc {pc' : Nat} (e0 : pc = pc') (kk : AW XS R μ kc ks pc' ls st P Q) : AW XS R μ kc ks pc ls st P Q := e0 ▸ kk
theorem aw_lk {ls' : List (Option Value)} (h0 : ∀ i v, lget ls' i = some v → lget ls i = some v) (kk : AW XS R μ kc ks pc ls' st P Q) : AW XS R μ kc ks pc ls st P Q := by
  intro p l e s m args below meth c D b base X Z hX hc hz h H locs lsA hP hH hS hL
  refine kk p l e s m args below meth c D b base X Z hX hc hz h H locs lsA hP hH hS ⟨hL.1, hL.2.1, fun q hq => ?_⟩
  obtain ⟨j, v, rfl, hj⟩ := lvl_mem.mp hq
  exact hL.2.2 _ (lvl_mem.mpr ⟨j, v, rfl, h0 j v hj⟩)
theorem r_iconst {n : Int} {v : Int32} (hf : decode μ.2.1 pc = .ok (.iconst n, 1)) (hv : Int32.ofInt n = v) (kk : AW XS R μ kc ks (pc + 1) ls (.int v :: st) P Q) : AW XS R μ kc ks pc ls st P Q := by
  intro p l e s m args below meth c D b base X Z hX hc hz h H locs lsA hP hH hS hL
  exact lv_iconst hc.1 hc.2.1 hf hv (kk p l e s m args below meth c D b base X Z hX hc hz h H locs lsA hP hH hS hL)
theorem r_bipush {n : Int} {v : Int32} (hf : decode μ.2.1 pc = .ok (.bipush n, 2)) (hv : (Int8.ofInt n).toInt32 = v) (kk : AW XS R μ kc ks (pc + 2) ls (.int v :: st) P Q) : AW XS R μ kc ks pc ls st P Q := by
  intro p l e s m args below meth c D b base X Z hX hc hz h H locs lsA hP hH hS hL
  exact lv_bipush hc.1 hc.2.1 hf hv (kk p l e s m args below meth c D b base X Z hX hc hz h H locs lsA hP hH hS hL)
theorem r_sipush {n : Int} {v : Int32} (hf : decode μ.2.1 pc = .ok (.sipush n, 3)) (hv : (Int16.ofInt n).toInt32 = v) (kk : AW XS R μ kc ks (pc + 3) ls (.int v :: st) P Q) : AW XS R μ kc ks pc ls st P Q := by
  intro p l e s m args below meth c D b base X Z hX hc hz h H locs lsA hP hH hS hL
  exact lv_sipush hc.1 hc.2.1 hf hv (kk p l e s m args below meth c D b base X Z hX hc hz h H locs lsA hP hH hS hL)
theorem r_ldc {i : Nat} {v : Int32} (hf : decode μ.2.1 pc = .ok (.ldc i, 2)) (hw : Cond.constant μ.1.cls i v ∈ lw_g) (kk : AW XS R μ kc ks (pc + 2) ls (.int v :: st) P Q) : AW XS R μ kc ks pc ls st P Q := by
  intro p l e s m args below meth c D b base X Z hX hc hz h H locs lsA hP hH hS hL
  exact lv_ldc hc.1 hc.2.1 hc.2.2.2.2.1 (hc.2.2.2.2.2.2.2.1 _ hw) hf (kk p l e s m args below meth c D b base X Z hX hc hz h H locs lsA hP hH hS hL)
theorem r_ldcw {i : Nat} {v : Int32} (hf : decode μ.2.1 pc = .ok (.ldc_w i, 3)) (hw : Cond.constant μ.1.cls i v ∈ lw_g) (kk : AW XS R μ kc ks (pc + 3) ls (.int v :: st) P Q) : AW XS R μ kc ks pc ls st P Q := by
  intro p l e s m args below meth c D b base X Z hX hc hz h H locs lsA hP hH hS hL
  exact lv_ldcw hc.1 hc.2.1 hc.2.2.2.2.1 (hc.2.2.2.2.2.2.2.1 _ hw) hf (kk p l e s m args below meth c D b base X Z hX hc hz h H locs lsA hP hH hS hL)
theorem r_ldc2 {i : Nat} {v : Int64} (hf : decode μ.2.1 pc = .ok (.ldc2_w i, 3)) (hw : Cond.constantLong μ.1.cls i v ∈ lw_g) (kk : AW XS R μ kc ks (pc + 3) ls (.long v :: st) P Q) : AW XS R μ kc ks pc ls st P Q := by
  intro p l e s m args below meth c D b base X Z hX hc hz h H locs lsA hP hH hS hL
  exact lv_ldc2 hc.1 hc.2.1 hc.2.2.2.2.1 (hc.2.2.2.2.2.2.2.1 _ hw) hf (kk p l e s m args below meth c D b base X Z hX hc hz h H locs lsA hP hH hS hL)
theorem r_iload_n {k : Fin 4} {x : Int32} (hf : decode μ.2.1 pc = .ok (.iload_n k, 1)) (hl : lget ls k = some (.int x)) (kk : AW XS R μ kc ks (pc + 1) ls (.int x :: st) P Q) : AW XS R μ kc ks pc ls st P Q := by
  intro p l e s m args below meth c D b base X Z hX hc hz h H locs lsA hP hH hS hL
  exact lv_iload_n hc.1 hc.2.1 hf rfl (lget_ok hL hl) (kk p l e s m args below meth c D b base X Z hX hc hz h H locs lsA hP hH hS hL)
theorem r_iload {i : Nat} {x : Int32} (hf : decode μ.2.1 pc = .ok (.iload i, 2)) (hl : lget ls i = some (.int x)) (kk : AW XS R μ kc ks (pc + 2) ls (.int x :: st) P Q) : AW XS R μ kc ks pc ls st P Q := by
  intro p l e s m args below meth c D b base X Z hX hc hz h H locs lsA hP hH hS hL
  exact lv_iload hc.1 hc.2.1 hf (lget_ok hL hl) (kk p l e s m args below meth c D b base X Z hX hc hz h H locs lsA hP hH hS hL)
theorem r_lload_n {k : Fin 4} {x : Int64} (hf : decode μ.2.1 pc = .ok (.lload_n k, 1)) (hl : lget ls k = some (.long x)) (kk : AW XS R μ kc ks (pc + 1) ls (.long x :: st) P Q) : AW XS R μ kc ks pc ls st P Q := by
  intro p l e s m args below meth c D b base X Z hX hc hz h H locs lsA hP hH hS hL
  exact lv_lload_n hc.1 hc.2.1 hf rfl (lget_ok hL hl) (kk p l e s m args below meth c D b base X Z hX hc hz h H locs lsA hP hH hS hL)
theorem r_aload_n {k : Fin 4} {x : Nat} (hf : decode μ.2.1 pc = .ok (.aload_n k, 1)) (hl : lget ls k = some (.ref x)) (kk : AW XS R μ kc ks (pc + 1) ls (.ref x :: st) P Q) : AW XS R μ kc ks pc ls st P Q := by
  intro p l e s m args below meth c D b base X Z hX hc hz h H locs lsA hP hH hS hL
  exact lv_aload_n hc.1 hc.2.1 hf rfl (lget_ok hL hl) (kk p l e s m args below meth c D b base X Z hX hc hz h H locs lsA hP hH hS hL)
theorem r_aload {i : Nat} {x : Nat} (hf : decode μ.2.1 pc = .ok (.aload i, 2)) (hl : lget ls i = some (.ref x)) (kk : AW XS R μ kc ks (pc + 2) ls (.ref x :: st) P Q) : AW XS R μ kc ks pc ls st P Q := by
  intro p l e s m args below meth c D b base X Z hX hc hz h H locs lsA hP hH hS hL
  exact lv_aload hc.1 hc.2.1 hf (lget_ok hL hl) (kk p l e s m args below meth c D b base X Z hX hc hz h H locs lsA hP hH hS hL)
theorem r_aload_nN {k : Fin 4} (hf : decode μ.2.1 pc = .ok (.aload_n k, 1)) (hl : lget ls k = some .null) (kk : AW XS R μ kc ks (pc + 1) ls (.null :: st) P Q) : AW XS R μ kc ks pc ls st P Q := by
  intro p l e s m args below meth c D b base X Z hX hc hz h H locs lsA hP hH hS hL
  exact lv_aload_nN hc.1 hc.2.1 hf rfl (lget_ok hL hl) (kk p l e s m args below meth c D b base X Z hX hc hz h H locs lsA hP hH hS hL)
theorem r_aloadN {i : Nat} (hf : decode μ.2.1 pc = .ok (.aload i, 2)) (hl : lget ls i = some .null) (kk : AW XS R μ kc ks (pc + 2) ls (.null :: st) P Q) : AW XS R μ kc ks pc ls st P Q := by
  intro p l e s m args below meth c D b base X Z hX hc hz h H locs lsA hP hH hS hL
  exact lv_aloadN hc.1 hc.2.1 hf (lget_ok hL hl) (kk p l e s m args below meth c D b base X Z hX hc hz h H locs lsA hP hH hS hL)
theorem r_aload_nX {k : Fin 4} {z : UInt32} (hf : decode μ.2.1 pc = .ok (.aload_n k, 1)) (hl : lget ls k = some (.float z)) (kk : AW XS R μ kc ks (pc + 1) ls (.float z :: st) P Q) : AW XS R μ kc ks pc ls st P Q := by
  intro p l e s m args below meth c D b base X Z hX hc hz h H locs lsA hP hH hS hL
  exact lv_aload_n hc.1 hc.2.1 hf rfl (lget_ok hL hl) (kk p l e s m args below meth c D b base X Z hX hc hz h H locs lsA hP hH hS hL)
theorem r_istore_n {k : Fin 4} {i : Nat} {x : Int32} (hf : decode μ.2.1 pc = .ok (.istore_n k, 1)) (hi : (k : Nat) = i) (hn : i < μ.2.2.1) (hk : lok ls i = true) (kk : AW XS R μ kc ks (pc + 1) (lset ls i (.int x)) st P Q) : AW XS R μ kc ks pc ls ((.int x) :: st) P Q := by
  intro p l e s m args below meth c D b base X Z hX hc hz h H locs lsA hP hH hS hL
  exact lv_istore_n hc.1 hc.2.1 hf hi hL hn rfl (fun ls' hl' => kk p l e s m args below meth c D b base X Z hX hc hz h H locs ls' hP hH hS (lset_ok (cv_cat b base) hk hl'))
theorem r_istore {i : Nat} {x : Int32} (hf : decode μ.2.1 pc = .ok (.istore i, 2)) (hn : i < μ.2.2.1) (hk : lok ls i = true) (kk : AW XS R μ kc ks (pc + 2) (lset ls i (.int x)) st P Q) : AW XS R μ kc ks pc ls ((.int x) :: st) P Q := by
  intro p l e s m args below meth c D b base X Z hX hc hz h H locs lsA hP hH hS hL
  exact lv_istore hc.1 hc.2.1 hf hL hn rfl (fun ls' hl' => kk p l e s m args below meth c D b base X Z hX hc hz h H locs ls' hP hH hS (lset_ok (cv_cat b base) hk hl'))
theorem r_astore_n {k : Fin 4} {i : Nat} {x : Nat} (hf : decode μ.2.1 pc = .ok (.astore_n k, 1)) (hi : (k : Nat) = i) (hn : i < μ.2.2.1) (hk : lok ls i = true) (kk : AW XS R μ kc ks (pc + 1) (lset ls i (.ref x)) st P Q) : AW XS R μ kc ks pc ls ((.ref x) :: st) P Q := by
  intro p l e s m args below meth c D b base X Z hX hc hz h H locs lsA hP hH hS hL
  exact lv_astore_n hc.1 hc.2.1 hf hi hL hn rfl (fun ls' hl' => kk p l e s m args below meth c D b base X Z hX hc hz h H locs ls' hP hH hS (lset_ok (cv_cat b base) hk hl'))
theorem r_astore {i : Nat} {x : Nat} (hf : decode μ.2.1 pc = .ok (.astore i, 2)) (hn : i < μ.2.2.1) (hk : lok ls i = true) (kk : AW XS R μ kc ks (pc + 2) (lset ls i (.ref x)) st P Q) : AW XS R μ kc ks pc ls ((.ref x) :: st) P Q := by
  intro p l e s m args below meth c D b base X Z hX hc hz h H locs lsA hP hH hS hL
  exact lv_astore hc.1 hc.2.1 hf hL hn rfl (fun ls' hl' => kk p l e s m args below meth c D b base X Z hX hc hz h H locs ls' hP hH hS (lset_ok (cv_cat b base) hk hl'))
theorem r_astore_nN {k : Fin 4} {i : Nat}  (hf : decode μ.2.1 pc = .ok (.astore_n k, 1)) (hi : (k : Nat) = i) (hn : i < μ.2.2.1) (hk : lok ls i = true) (kk : AW XS R μ kc ks (pc + 1) (lset ls i .null) st P Q) : AW XS R μ kc ks pc ls (.null :: st) P Q := by
  intro p l e s m args below meth c D b base X Z hX hc hz h H locs lsA hP hH hS hL
  exact lv_astore_nN hc.1 hc.2.1 hf hi hL hn rfl (fun ls' hl' => kk p l e s m args below meth c D b base X Z hX hc hz h H locs ls' hP hH hS (lset_ok (cv_cat b base) hk hl'))
theorem r_astoreN {i : Nat}  (hf : decode μ.2.1 pc = .ok (.astore i, 2)) (hn : i < μ.2.2.1) (hk : lok ls i = true) (kk : AW XS R μ kc ks (pc + 2) (lset ls i .null) st P Q) : AW XS R μ kc ks pc ls (.null :: st) P Q := by
  intro p l e s m args below meth c D b base X Z hX hc hz h H locs lsA hP hH hS hL
  exact lv_astoreN hc.1 hc.2.1 hf hL hn rfl (fun ls' hl' => kk p l e s m args below meth c D b base X Z hX hc hz h H locs ls' hP hH hS (lset_ok (cv_cat b base) hk hl'))
theorem rk_at {f : Value → Value} {ls : List (Option Value)} {i : Nat} {v : Value} (h : lget ls i = some v) : ∃ k : Nat, (lvl f 0 ls)[k]? = some (i, f v) := by
  obtain ⟨k, hk⟩ := List.getElem?_of_mem (lvl_mem.mpr ⟨i, v, by rw [Nat.zero_add], h⟩ : (i, f v) ∈ lvl f 0 ls)
  exact ⟨k, hk⟩
theorem r_iinc {i : Nat} {n : Int} {x v : Int32} (hf : decode μ.2.1 pc = .ok (.iinc i n, 3)) (hl : lget ls i = some (.int x)) (hv : x + Int32.ofInt n = v) (hn : i < μ.2.2.1) (hk : lok ls i = true) (kk : AW XS R μ kc ks (pc + 3) (lset ls i (.int v)) st P Q) : AW XS R μ kc ks pc ls st P Q := by
  intro p l e s m args below meth c D b base X Z hX hc hz h H locs lsA hP hH hS hL
  obtain ⟨k, hk2⟩ := rk_at (f := cv b base) hl
  exact lv_iinc hc.1 hc.2.1 hf hL hk2 hv hn rfl (fun ls' hl' => kk p l e s m args below meth c D b base X Z hX hc hz h H locs ls' hP hH hS (lset_ok (v := .int v) (cv_cat b base) hk hl'))
theorem r_iadd {x y : Int32} (hf : decode μ.2.1 pc = .ok (.iadd, 1)) (kk : AW XS R μ kc ks (pc + 1) ls (.int (x + y) :: st) P Q) : AW XS R μ kc ks pc ls (.int y :: .int x :: st) P Q := by
  intro p l e s m args below meth c D b base X Z hX hc hz h H locs lsA hP hH hS hL
  exact lv_iadd hc.1 hc.2.1 hf (kk p l e s m args below meth c D b base X Z hX hc hz h H locs lsA hP hH hS hL)
theorem r_isub {x y : Int32} (hf : decode μ.2.1 pc = .ok (.isub, 1)) (kk : AW XS R μ kc ks (pc + 1) ls (.int (x - y) :: st) P Q) : AW XS R μ kc ks pc ls (.int y :: .int x :: st) P Q := by
  intro p l e s m args below meth c D b base X Z hX hc hz h H locs lsA hP hH hS hL
  exact lv_isub hc.1 hc.2.1 hf (kk p l e s m args below meth c D b base X Z hX hc hz h H locs lsA hP hH hS hL)
theorem r_imul {x y : Int32} (hf : decode μ.2.1 pc = .ok (.imul, 1)) (kk : AW XS R μ kc ks (pc + 1) ls (.int (x * y) :: st) P Q) : AW XS R μ kc ks pc ls (.int y :: .int x :: st) P Q := by
  intro p l e s m args below meth c D b base X Z hX hc hz h H locs lsA hP hH hS hL
  exact lv_imul hc.1 hc.2.1 hf (kk p l e s m args below meth c D b base X Z hX hc hz h H locs lsA hP hH hS hL)
theorem r_iand {x y : Int32} (hf : decode μ.2.1 pc = .ok (.iand, 1)) (kk : AW XS R μ kc ks (pc + 1) ls (.int (x &&& y) :: st) P Q) : AW XS R μ kc ks pc ls (.int y :: .int x :: st) P Q := by
  intro p l e s m args below meth c D b base X Z hX hc hz h H locs lsA hP hH hS hL
  exact lv_iand hc.1 hc.2.1 hf (kk p l e s m args below meth c D b base X Z hX hc hz h H locs lsA hP hH hS hL)
theorem r_ior {x y : Int32} (hf : decode μ.2.1 pc = .ok (.ior, 1)) (kk : AW XS R μ kc ks (pc + 1) ls (.int (x ||| y) :: st) P Q) : AW XS R μ kc ks pc ls (.int y :: .int x :: st) P Q := by
  intro p l e s m args below meth c D b base X Z hX hc hz h H locs lsA hP hH hS hL
  exact lv_ior hc.1 hc.2.1 hf (kk p l e s m args below meth c D b base X Z hX hc hz h H locs lsA hP hH hS hL)
theorem r_ixor {x y : Int32} (hf : decode μ.2.1 pc = .ok (.ixor, 1)) (kk : AW XS R μ kc ks (pc + 1) ls (.int (x ^^^ y) :: st) P Q) : AW XS R μ kc ks pc ls (.int y :: .int x :: st) P Q := by
  intro p l e s m args below meth c D b base X Z hX hc hz h H locs lsA hP hH hS hL
  exact lv_ixor hc.1 hc.2.1 hf (kk p l e s m args below meth c D b base X Z hX hc hz h H locs lsA hP hH hS hL)
theorem r_ishl {x y : Int32} (hf : decode μ.2.1 pc = .ok (.ishl, 1)) (kk : AW XS R μ kc ks (pc + 1) ls (.int (x <<< (y &&& 31)) :: st) P Q) : AW XS R μ kc ks pc ls (.int y :: .int x :: st) P Q := by
  intro p l e s m args below meth c D b base X Z hX hc hz h H locs lsA hP hH hS hL
  exact lv_ishl hc.1 hc.2.1 hf (kk p l e s m args below meth c D b base X Z hX hc hz h H locs lsA hP hH hS hL)
theorem r_ishr {x y : Int32} (hf : decode μ.2.1 pc = .ok (.ishr, 1)) (kk : AW XS R μ kc ks (pc + 1) ls (.int (x >>> (y &&& 31)) :: st) P Q) : AW XS R μ kc ks pc ls (.int y :: .int x :: st) P Q := by
  intro p l e s m args below meth c D b base X Z hX hc hz h H locs lsA hP hH hS hL
  exact lv_ishr hc.1 hc.2.1 hf (kk p l e s m args below meth c D b base X Z hX hc hz h H locs lsA hP hH hS hL)
theorem r_ineg {x : Int32} (hf : decode μ.2.1 pc = .ok (.ineg, 1)) (kk : AW XS R μ kc ks (pc + 1) ls (.int (-x) :: st) P Q) : AW XS R μ kc ks pc ls (.int x :: st) P Q := by
  intro p l e s m args below meth c D b base X Z hX hc hz h H locs lsA hP hH hS hL
  exact lv_ineg hc.1 hc.2.1 hf (kk p l e s m args below meth c D b base X Z hX hc hz h H locs lsA hP hH hS hL)
theorem r_idiv {x y : Int32} (hf : decode μ.2.1 pc = .ok (.idiv, 1)) (hne : ¬ y = 0) (kk : AW XS R μ kc ks (pc + 1) ls (.int (x / y) :: st) P Q) : AW XS R μ kc ks pc ls (.int y :: .int x :: st) P Q := by
  intro p l e s m args below meth c D b base X Z hX hc hz h H locs lsA hP hH hS hL
  exact lv_idiv hc.1 hc.2.1 hf hne (kk p l e s m args below meth c D b base X Z hX hc hz h H locs lsA hP hH hS hL)
theorem r_irem {x y v : Int32} (hf : decode μ.2.1 pc = .ok (.irem, 1)) (hne : ¬ y = 0) (hv : x - x / y * y = v) (kk : AW XS R μ kc ks (pc + 1) ls (.int v :: st) P Q) : AW XS R μ kc ks pc ls (.int y :: .int x :: st) P Q := by
  intro p l e s m args below meth c D b base X Z hX hc hz h H locs lsA hP hH hS hL
  subst hv
  exact lv_irem hc.1 hc.2.1 hf hne (kk p l e s m args below meth c D b base X Z hX hc hz h H locs lsA hP hH hS hL)
theorem r_iushr {x y v : Int32} (hf : decode μ.2.1 pc = .ok (.iushr, 1)) (hv : (x.toUInt32 >>> (y.toUInt32 &&& Int32.toUInt32 31)).toInt32 = v) (kk : AW XS R μ kc ks (pc + 1) ls (.int v :: st) P Q) : AW XS R μ kc ks pc ls (.int y :: .int x :: st) P Q := by
  intro p l e s m args below meth c D b base X Z hX hc hz h H locs lsA hP hH hS hL
  exact lv_iushr hc.1 hc.2.1 hf hv (kk p l e s m args below meth c D b base X Z hX hc hz h H locs lsA hP hH hS hL)
theorem r_i2l {x : Int32} (hf : decode μ.2.1 pc = .ok (.i2l, 1)) (kk : AW XS R μ kc ks (pc + 1) ls (.long x.toInt64 :: st) P Q) : AW XS R μ kc ks pc ls (.int x :: st) P Q := by
  intro p l e s m args below meth c D b base X Z hX hc hz h H locs lsA hP hH hS hL
  exact lv_i2l hc.1 hc.2.1 hf rfl (kk p l e s m args below meth c D b base X Z hX hc hz h H locs lsA hP hH hS hL)
theorem r_l2i {x : Int64} (hf : decode μ.2.1 pc = .ok (.l2i, 1)) (kk : AW XS R μ kc ks (pc + 1) ls (.int x.toInt32 :: st) P Q) : AW XS R μ kc ks pc ls (.long x :: st) P Q := by
  intro p l e s m args below meth c D b base X Z hX hc hz h H locs lsA hP hH hS hL
  exact lv_l2i hc.1 hc.2.1 hf rfl (kk p l e s m args below meth c D b base X Z hX hc hz h H locs lsA hP hH hS hL)
theorem r_i2b {x : Int32} (hf : decode μ.2.1 pc = .ok (.i2b, 1)) (kk : AW XS R μ kc ks (pc + 1) ls (.int x.toInt8.toInt32 :: st) P Q) : AW XS R μ kc ks pc ls (.int x :: st) P Q := by
  intro p l e s m args below meth c D b base X Z hX hc hz h H locs lsA hP hH hS hL
  exact lv_i2b hc.1 hc.2.1 hf rfl (kk p l e s m args below meth c D b base X Z hX hc hz h H locs lsA hP hH hS hL)
theorem r_i2s {x : Int32} (hf : decode μ.2.1 pc = .ok (.i2s, 1)) (kk : AW XS R μ kc ks (pc + 1) ls (.int x.toInt16.toInt32 :: st) P Q) : AW XS R μ kc ks pc ls (.int x :: st) P Q := by
  intro p l e s m args below meth c D b base X Z hX hc hz h H locs lsA hP hH hS hL
  exact lv_i2s hc.1 hc.2.1 hf rfl (kk p l e s m args below meth c D b base X Z hX hc hz h H locs lsA hP hH hS hL)
theorem r_land {x y : Int64} (hf : decode μ.2.1 pc = .ok (.land, 1)) (kk : AW XS R μ kc ks (pc + 1) ls (.long (x &&& y) :: st) P Q) : AW XS R μ kc ks pc ls (.long y :: .long x :: st) P Q := by
  intro p l e s m args below meth c D b base X Z hX hc hz h H locs lsA hP hH hS hL
  exact lv_land hc.1 hc.2.1 hf (kk p l e s m args below meth c D b base X Z hX hc hz h H locs lsA hP hH hS hL)
theorem r_lor {x y : Int64} (hf : decode μ.2.1 pc = .ok (.lor, 1)) (kk : AW XS R μ kc ks (pc + 1) ls (.long (x ||| y) :: st) P Q) : AW XS R μ kc ks pc ls (.long y :: .long x :: st) P Q := by
  intro p l e s m args below meth c D b base X Z hX hc hz h H locs lsA hP hH hS hL
  exact lv_lor hc.1 hc.2.1 hf (kk p l e s m args below meth c D b base X Z hX hc hz h H locs lsA hP hH hS hL)
theorem r_lshl {x : Int64} {y : Int32} (hf : decode μ.2.1 pc = .ok (.lshl, 1)) (kk : AW XS R μ kc ks (pc + 1) ls (.long (x <<< (y.toInt64 &&& 63)) :: st) P Q) : AW XS R μ kc ks pc ls (.int y :: .long x :: st) P Q := by
  intro p l e s m args below meth c D b base X Z hX hc hz h H locs lsA hP hH hS hL
  exact lv_lshl hc.1 hc.2.1 hf rfl (kk p l e s m args below meth c D b base X Z hX hc hz h H locs lsA hP hH hS hL)
theorem r_lshr {x : Int64} {y : Int32} (hf : decode μ.2.1 pc = .ok (.lshr, 1)) (kk : AW XS R μ kc ks (pc + 1) ls (.long (x >>> (y.toInt64 &&& 63)) :: st) P Q) : AW XS R μ kc ks pc ls (.int y :: .long x :: st) P Q := by
  intro p l e s m args below meth c D b base X Z hX hc hz h H locs lsA hP hH hS hL
  exact lv_lshr hc.1 hc.2.1 hf rfl (kk p l e s m args below meth c D b base X Z hX hc hz h H locs lsA hP hH hS hL)
theorem r_lushr {x : Int64} {y : Int32} (hf : decode μ.2.1 pc = .ok (.lushr, 1)) (kk : AW XS R μ kc ks (pc + 1) ls (.long ((x.toUInt64 >>> (y.toInt64.toUInt64 &&& Int64.toUInt64 63)).toInt64) :: st) P Q) : AW XS R μ kc ks pc ls (.int y :: .long x :: st) P Q := by
  intro p l e s m args below meth c D b base X Z hX hc hz h H locs lsA hP hH hS hL
  exact lv_lushr hc.1 hc.2.1 hf rfl (kk p l e s m args below meth c D b base X Z hX hc hz h H locs lsA hP hH hS hL)
theorem r_null (hf : decode μ.2.1 pc = .ok (.aconst_null, 1)) (kk : AW XS R μ kc ks (pc + 1) ls (.null :: st) P Q) : AW XS R μ kc ks pc ls st P Q := by
  intro p l e s m args below meth c D b base X Z hX hc hz h H locs lsA hP hH hS hL
  exact lv_null hc.1 hc.2.1 hf (kk p l e s m args below meth c D b base X Z hX hc hz h H locs lsA hP hH hS hL)
theorem r_dup {va : Value} (hf : decode μ.2.1 pc = .ok (.dup, 1)) (hva : va.category = 1) (kk : AW XS R μ kc ks (pc + 1) ls (va :: va :: st) P Q) : AW XS R μ kc ks pc ls (va :: st) P Q := by
  intro p l e s m args below meth c D b base X Z hX hc hz h H locs lsA hP hH hS hL
  exact lv_dup hc.1 hc.2.1 hf (by rw [cv_cat]; exact hva) (kk p l e s m args below meth c D b base X Z hX hc hz h H locs lsA hP hH hS hL)
theorem r_pop {va : Value} (hf : decode μ.2.1 pc = .ok (.pop, 1)) (hva : va.category = 1) (kk : AW XS R μ kc ks (pc + 1) ls st P Q) : AW XS R μ kc ks pc ls (va :: st) P Q := by
  intro p l e s m args below meth c D b base X Z hX hc hz h H locs lsA hP hH hS hL
  exact lv_pop hc.1 hc.2.1 hf (by rw [cv_cat]; exact hva) (kk p l e s m args below meth c D b base X Z hX hc hz h H locs lsA hP hH hS hL)
theorem r_dup2 {va vb : Value} (hf : decode μ.2.1 pc = .ok (.dup2, 1)) (hva : va.category = 1) (hvb : vb.category = 1) (kk : AW XS R μ kc ks (pc + 1) ls (va :: vb :: va :: vb :: st) P Q) : AW XS R μ kc ks pc ls (va :: vb :: st) P Q := by
  intro p l e s m args below meth c D b base X Z hX hc hz h H locs lsA hP hH hS hL
  exact lv_dup2_11 hc.1 hc.2.1 hf (by rw [cv_cat]; exact hva) (by rw [cv_cat]; exact hvb) (kk p l e s m args below meth c D b base X Z hX hc hz h H locs lsA hP hH hS hL)
theorem r_if_eq {x : Int32} {off : Int} (tgt : Nat) (hf : decode μ.2.1 pc = .ok (.ifCond .eq off, 3)) (ht : (pc : Int) + off = (tgt : Int)) (kt : x = 0 → AW XS R μ kc ks tgt ls st P Q) (kf : ¬ x = 0 → AW XS R μ kc ks (pc + 3) ls st P Q) : AW XS R μ kc ks pc ls (.int x :: st) P Q := by
  intro p l e s m args below meth c D b base X Z hX hc hz h H locs lsA hP hH hS hL
  exact lv_if_eq hc.1 hc.2.1 hf ht (fun q => kt q p l e s m args below meth c D b base X Z hX hc hz h H locs lsA hP hH hS hL) (fun q => kf q p l e s m args below meth c D b base X Z hX hc hz h H locs lsA hP hH hS hL)
theorem r_icmp_eq {x y : Int32} {off : Int} (tgt : Nat) (hf : decode μ.2.1 pc = .ok (.if_icmp .eq off, 3)) (ht : (pc : Int) + off = (tgt : Int)) (kt : x = y → AW XS R μ kc ks tgt ls st P Q) (kf : ¬ x = y → AW XS R μ kc ks (pc + 3) ls st P Q) : AW XS R μ kc ks pc ls (.int y :: .int x :: st) P Q := by
  intro p l e s m args below meth c D b base X Z hX hc hz h H locs lsA hP hH hS hL
  exact lv_icmp_eq hc.1 hc.2.1 hf ht (fun q => kt q p l e s m args below meth c D b base X Z hX hc hz h H locs lsA hP hH hS hL) (fun q => kf q p l e s m args below meth c D b base X Z hX hc hz h H locs lsA hP hH hS hL)
theorem r_if_ne {x : Int32} {off : Int} (tgt : Nat) (hf : decode μ.2.1 pc = .ok (.ifCond .ne off, 3)) (ht : (pc : Int) + off = (tgt : Int)) (kt : ¬ x = 0 → AW XS R μ kc ks tgt ls st P Q) (kf : x = 0 → AW XS R μ kc ks (pc + 3) ls st P Q) : AW XS R μ kc ks pc ls (.int x :: st) P Q := by
  intro p l e s m args below meth c D b base X Z hX hc hz h H locs lsA hP hH hS hL
  exact lv_if_ne hc.1 hc.2.1 hf ht (fun q => kt q p l e s m args below meth c D b base X Z hX hc hz h H locs lsA hP hH hS hL) (fun q => kf q p l e s m args below meth c D b base X Z hX hc hz h H locs lsA hP hH hS hL)
theorem r_icmp_ne {x y : Int32} {off : Int} (tgt : Nat) (hf : decode μ.2.1 pc = .ok (.if_icmp .ne off, 3)) (ht : (pc : Int) + off = (tgt : Int)) (kt : ¬ x = y → AW XS R μ kc ks tgt ls st P Q) (kf : x = y → AW XS R μ kc ks (pc + 3) ls st P Q) : AW XS R μ kc ks pc ls (.int y :: .int x :: st) P Q := by
  intro p l e s m args below meth c D b base X Z hX hc hz h H locs lsA hP hH hS hL
  exact lv_icmp_ne hc.1 hc.2.1 hf ht (fun q => kt q p l e s m args below meth c D b base X Z hX hc hz h H locs lsA hP hH hS hL) (fun q => kf q p l e s m args below meth c D b base X Z hX hc hz h H locs lsA hP hH hS hL)
theorem r_if_lt {x : Int32} {off : Int} (tgt : Nat) (hf : decode μ.2.1 pc = .ok (.ifCond .lt off, 3)) (ht : (pc : Int) + off = (tgt : Int)) (kt : x < 0 → AW XS R μ kc ks tgt ls st P Q) (kf : ¬ x < 0 → AW XS R μ kc ks (pc + 3) ls st P Q) : AW XS R μ kc ks pc ls (.int x :: st) P Q := by
  intro p l e s m args below meth c D b base X Z hX hc hz h H locs lsA hP hH hS hL
  exact lv_if_lt hc.1 hc.2.1 hf ht (fun q => kt q p l e s m args below meth c D b base X Z hX hc hz h H locs lsA hP hH hS hL) (fun q => kf q p l e s m args below meth c D b base X Z hX hc hz h H locs lsA hP hH hS hL)
theorem r_icmp_lt {x y : Int32} {off : Int} (tgt : Nat) (hf : decode μ.2.1 pc = .ok (.if_icmp .lt off, 3)) (ht : (pc : Int) + off = (tgt : Int)) (kt : x < y → AW XS R μ kc ks tgt ls st P Q) (kf : ¬ x < y → AW XS R μ kc ks (pc + 3) ls st P Q) : AW XS R μ kc ks pc ls (.int y :: .int x :: st) P Q := by
  intro p l e s m args below meth c D b base X Z hX hc hz h H locs lsA hP hH hS hL
  exact lv_icmp_lt hc.1 hc.2.1 hf ht (fun q => kt q p l e s m args below meth c D b base X Z hX hc hz h H locs lsA hP hH hS hL) (fun q => kf q p l e s m args below meth c D b base X Z hX hc hz h H locs lsA hP hH hS hL)
theorem r_if_ge {x : Int32} {off : Int} (tgt : Nat) (hf : decode μ.2.1 pc = .ok (.ifCond .ge off, 3)) (ht : (pc : Int) + off = (tgt : Int)) (kt : 0 ≤ x → AW XS R μ kc ks tgt ls st P Q) (kf : ¬ 0 ≤ x → AW XS R μ kc ks (pc + 3) ls st P Q) : AW XS R μ kc ks pc ls (.int x :: st) P Q := by
  intro p l e s m args below meth c D b base X Z hX hc hz h H locs lsA hP hH hS hL
  exact lv_if_ge hc.1 hc.2.1 hf ht (fun q => kt q p l e s m args below meth c D b base X Z hX hc hz h H locs lsA hP hH hS hL) (fun q => kf q p l e s m args below meth c D b base X Z hX hc hz h H locs lsA hP hH hS hL)
theorem r_icmp_ge {x y : Int32} {off : Int} (tgt : Nat) (hf : decode μ.2.1 pc = .ok (.if_icmp .ge off, 3)) (ht : (pc : Int) + off = (tgt : Int)) (kt : y ≤ x → AW XS R μ kc ks tgt ls st P Q) (kf : ¬ y ≤ x → AW XS R μ kc ks (pc + 3) ls st P Q) : AW XS R μ kc ks pc ls (.int y :: .int x :: st) P Q := by
  intro p l e s m args below meth c D b base X Z hX hc hz h H locs lsA hP hH hS hL
  exact lv_icmp_ge hc.1 hc.2.1 hf ht (fun q => kt q p l e s m args below meth c D b base X Z hX hc hz h H locs lsA hP hH hS hL) (fun q => kf q p l e s m args below meth c D b base X Z hX hc hz h H locs lsA hP hH hS hL)
theorem r_if_gt {x : Int32} {off : Int} (tgt : Nat) (hf : decode μ.2.1 pc = .ok (.ifCond .gt off, 3)) (ht : (pc : Int) + off = (tgt : Int)) (kt : 0 < x → AW XS R μ kc ks tgt ls st P Q) (kf : ¬ 0 < x → AW XS R μ kc ks (pc + 3) ls st P Q) : AW XS R μ kc ks pc ls (.int x :: st) P Q := by
  intro p l e s m args below meth c D b base X Z hX hc hz h H locs lsA hP hH hS hL
  exact lv_if_gt hc.1 hc.2.1 hf ht (fun q => kt q p l e s m args below meth c D b base X Z hX hc hz h H locs lsA hP hH hS hL) (fun q => kf q p l e s m args below meth c D b base X Z hX hc hz h H locs lsA hP hH hS hL)
theorem r_icmp_gt {x y : Int32} {off : Int} (tgt : Nat) (hf : decode μ.2.1 pc = .ok (.if_icmp .gt off, 3)) (ht : (pc : Int) + off = (tgt : Int)) (kt : y < x → AW XS R μ kc ks tgt ls st P Q) (kf : ¬ y < x → AW XS R μ kc ks (pc + 3) ls st P Q) : AW XS R μ kc ks pc ls (.int y :: .int x :: st) P Q := by
  intro p l e s m args below meth c D b base X Z hX hc hz h H locs lsA hP hH hS hL
  exact lv_icmp_gt hc.1 hc.2.1 hf ht (fun q => kt q p l e s m args below meth c D b base X Z hX hc hz h H locs lsA hP hH hS hL) (fun q => kf q p l e s m args below meth c D b base X Z hX hc hz h H locs lsA hP hH hS hL)
theorem r_if_le {x : Int32} {off : Int} (tgt : Nat) (hf : decode μ.2.1 pc = .ok (.ifCond .le off, 3)) (ht : (pc : Int) + off = (tgt : Int)) (kt : x ≤ 0 → AW XS R μ kc ks tgt ls st P Q) (kf : ¬ x ≤ 0 → AW XS R μ kc ks (pc + 3) ls st P Q) : AW XS R μ kc ks pc ls (.int x :: st) P Q := by
  intro p l e s m args below meth c D b base X Z hX hc hz h H locs lsA hP hH hS hL
  exact lv_if_le hc.1 hc.2.1 hf ht (fun q => kt q p l e s m args below meth c D b base X Z hX hc hz h H locs lsA hP hH hS hL) (fun q => kf q p l e s m args below meth c D b base X Z hX hc hz h H locs lsA hP hH hS hL)
theorem r_icmp_le {x y : Int32} {off : Int} (tgt : Nat) (hf : decode μ.2.1 pc = .ok (.if_icmp .le off, 3)) (ht : (pc : Int) + off = (tgt : Int)) (kt : x ≤ y → AW XS R μ kc ks tgt ls st P Q) (kf : ¬ x ≤ y → AW XS R μ kc ks (pc + 3) ls st P Q) : AW XS R μ kc ks pc ls (.int y :: .int x :: st) P Q := by
  intro p l e s m args below meth c D b base X Z hX hc hz h H locs lsA hP hH hS hL
  exact lv_icmp_le hc.1 hc.2.1 hf ht (fun q => kt q p l e s m args below meth c D b base X Z hX hc hz h H locs lsA hP hH hS hL) (fun q => kf q p l e s m args below meth c D b base X Z hX hc hz h H locs lsA hP hH hS hL)
theorem r_goto {off : Int} (tgt : Nat) (hf : decode μ.2.1 pc = .ok (.goto off, 3)) (ht : (pc : Int) + off = (tgt : Int)) (kk : AW XS R μ kc ks (tgt) ls st P Q) : AW XS R μ kc ks pc ls st P Q := by
  intro p l e s m args below meth c D b base X Z hX hc hz h H locs lsA hP hH hS hL
  exact lv_goto hc.1 hc.2.1 hf ht (kk p l e s m args below meth c D b base X Z hX hc hz h H locs lsA hP hH hS hL)
theorem r_ifnonnull {off : Int} {x : Nat} (tgt : Nat) (hf : decode μ.2.1 pc = .ok (.ifnonnull off, 3)) (ht : (pc : Int) + off = (tgt : Int)) (kk : AW XS R μ kc ks (tgt) ls st P Q) : AW XS R μ kc ks pc ls (.ref x :: st) P Q := by
  intro p l e s m args below meth c D b base X Z hX hc hz h H locs lsA hP hH hS hL
  exact lv_ifnonnull hc.1 hc.2.1 hf ht (kk p l e s m args below meth c D b base X Z hX hc hz h H locs lsA hP hH hS hL)
theorem r_ifnonnullN {off : Int} (hf : decode μ.2.1 pc = .ok (.ifnonnull off, 3)) (kk : AW XS R μ kc ks (pc + 3) ls st P Q) : AW XS R μ kc ks pc ls (.null :: st) P Q := by
  intro p l e s m args below meth c D b base X Z hX hc hz h H locs lsA hP hH hS hL
  exact lv_ifnonnullN hc.1 hc.2.1 hf (kk p l e s m args below meth c D b base X Z hX hc hz h H locs lsA hP hH hS hL)
theorem r_ifnull {off : Int} {x : Nat} (hf : decode μ.2.1 pc = .ok (.ifnull off, 3)) (kk : AW XS R μ kc ks (pc + 3) ls st P Q) : AW XS R μ kc ks pc ls (.ref x :: st) P Q := by
  intro p l e s m args below meth c D b base X Z hX hc hz h H locs lsA hP hH hS hL
  exact lv_ifnull hc.1 hc.2.1 hf (kk p l e s m args below meth c D b base X Z hX hc hz h H locs lsA hP hH hS hL)
theorem r_ifnullN {off : Int} (tgt : Nat) (hf : decode μ.2.1 pc = .ok (.ifnull off, 3)) (ht : (pc : Int) + off = (tgt : Int)) (kk : AW XS R μ kc ks (tgt) ls st P Q) : AW XS R μ kc ks pc ls (.null :: st) P Q := by
  intro p l e s m args below meth c D b base X Z hX hc hz h H locs lsA hP hH hS hL
  exact lv_ifnullN hc.1 hc.2.1 hf ht (kk p l e s m args below meth c D b base X Z hX hc hz h H locs lsA hP hH hS hL)
theorem r_tableIn {dflt lo hi : Int} {offs : Array Int} {len : Nat} {x : Int32} {off : Int} (tgt : Nat) (hf : decode μ.2.1 pc = .ok (.tableswitch dflt lo hi offs, len)) (h1 : ¬ x.toInt < lo) (h2 : ¬ hi < x.toInt) (ho : offs[(x.toInt - lo).toNat]? = some off) (ht : (pc : Int) + off = (tgt : Int)) (kk : AW XS R μ kc ks (tgt) ls st P Q) : AW XS R μ kc ks pc ls (.int x :: st) P Q := by
  intro p l e s m args below meth c D b base X Z hX hc hz h H locs lsA hP hH hS hL
  exact lv_tableIn hc.1 hc.2.1 hf h1 h2 ho ht (kk p l e s m args below meth c D b base X Z hX hc hz h H locs lsA hP hH hS hL)
theorem r_tableOut {dflt lo hi : Int} {offs : Array Int} {len : Nat} {x : Int32} (tgt : Nat) (hf : decode μ.2.1 pc = .ok (.tableswitch dflt lo hi offs, len)) (h1 : x.toInt < lo ∨ hi < x.toInt) (ht : (pc : Int) + dflt = (tgt : Int)) (kk : AW XS R μ kc ks (tgt) ls st P Q) : AW XS R μ kc ks pc ls (.int x :: st) P Q := by
  intro p l e s m args below meth c D b base X Z hX hc hz h H locs lsA hP hH hS hL
  exact lv_tableOut hc.1 hc.2.1 hf h1 ht (kk p l e s m args below meth c D b base X Z hX hc hz h H locs lsA hP hH hS hL)
theorem r_lookup {dflt : Int} {qs : Array (Int × Int)} {len : Nat} {x : Int32} {off : Int} (tgt : Nat) (hf : decode μ.2.1 pc = .ok (.lookupswitch dflt qs, len)) (hp : (qs.toList.zip (qs.toList.drop 1)).all (fun (a, next) => a.1 < next.1) = true) (ho : Op.lookupswitch.offset qs.toList dflt x.toInt = off) (ht : (pc : Int) + off = (tgt : Int)) (kk : AW XS R μ kc ks (tgt) ls st P Q) : AW XS R μ kc ks pc ls (.int x :: st) P Q := by
  intro p l e s m args below meth c D b base X Z hX hc hz h H locs lsA hP hH hS hL
  exact lv_lookup hc.1 hc.2.1 hf hp ho ht (kk p l e s m args below meth c D b base X Z hX hc hz h H locs lsA hP hH hS hL)
end RowsA
end
section
/-! rows over cells, calls, ends -/
theorem va_one {D : va_G} {cl : List vw_C} {x : Nat × va_E} {H : Heap} (h : va_at D cl x H) : va_P D cl [x] H := by
  intro k q hq
  cases k with
  | zero => cases hq; exact h
  | succ k => cases hq
theorem Sa.moved {base : Nat} {U U' : State} {H H' : Heap} (h : Sa base U H) (hvm : U.vm.Alike U'.vm) (hq : ∀ q, q < base → H'[q]? = H[q]?) : Sa base U' H' := by
  obtain ⟨t, h1, h2⟩ := h
  exact ⟨t, (h1.moved hvm).kept (fun a _ hA => hq a (Nat.not_le.mp hA)), (h2.moved hvm).kept (fun a _ hA => hq a (Nat.not_le.mp hA))⟩
theorem Sb.moved {base : Nat} {U U' : State} {H H' : Heap} (h : Sb base U H) (hvm : U.vm.Alike U'.vm) (hq : ∀ q, q < base → H'[q]? = H[q]?) : Sb base U' H' := by
  obtain ⟨t, h1, h2⟩ := h
  exact ⟨t, (h1.moved hvm).kept (fun a _ hA => hq a (Nat.not_le.mp hA)), (h2.moved hvm).kept (fun a _ hA => hq a (Nat.not_le.mp hA))⟩
theorem Sc.moved {b base : Nat} {X : XT} {U U' : State} {H H' : Heap} (h : Sc b base X U H) (hvm : U.vm.Alike U'.vm) (hq : ∀ q, q < base → H'[q]? = H[q]?) : Sc b base X U' H' := by
  intro L xs hX
  obtain ⟨h1, h2⟩ := h L xs hX
  exact ⟨(h1.moved hvm).kept (hq b h2), h2⟩
theorem ak.moved {cA : ClassId} {x : AE} {U U' : State} (h : ak cA x U) (hvm : U.vm.Alike U'.vm) : ak cA x U' := by
  match x, h with
  | .inl _, h => exact ⟨arrOfT_moved hvm h.1, h.2.moved hvm⟩
  | .inr (.inl _), h => exact ⟨arrOfT_moved hvm h.1, h.2.moved hvm⟩
  | .inr (.inr _), _ => trivial
theorem Hp.moved {D : va_G} {b base : Nat} {U U' : State} {h : AH} {H : Heap} (hh : Hp D b base U h H) (hvm : U.vm.Alike U'.vm) : Hp D b base U' h H := by
  obtain ⟨cA, h1, h2, h3⟩ := hh
  exact ⟨cA, h1, h2, fun i hi => (h3 i hi).moved hvm⟩
theorem Wd.moved {D : va_G} {b base : Nat} {X : XT} {h : AH} {U U' : State} (w : Wd D b base X h U) (hvm : U.vm.Alike U'.vm) (hh : U'.heap = U.heap) : Wd D b base X h U' := by
  obtain ⟨a1, a2, a3, a4, a5, a6⟩ := w
  have hq : ∀ q, q < base → U'.heap[q]? = U.heap[q]? := fun q _ => by rw [hh]
  exact ⟨a1.moved hvm, a2.moved hvm, a3.moved hvm hq, a4.moved hvm hq, a5.moved hvm hq, by rw [hh]; exact a6.moved hvm⟩
theorem Cx.wd {μ : MI} {b base : Nat} {X : XT} {D : va_G} {p : Program} {s U : State} {m : MethodId} {args : Array Value} {meth : Method} {c : Code} {h : AH} {H : Heap} {locs : List Loc} (hc : Cx μ b base X D p s m args meth c) (hH : Hp D b base s h H) (hS : va_S (iA base) s.heap H locs) (hU : U.heap = H) (hvm : s.vm.Alike U.vm) : Wd D b base X h U := by
  obtain ⟨-, -, -, -, -, -, -, -, a1, a2, a3, a4, a5, a6⟩ := hc
  have hq : ∀ q, q < base → U.heap[q]? = s.heap[q]? := fun q hq => by rw [hU]; exact hS.2.1 q (Nat.lt_of_lt_of_le hq a6) (Nat.not_le.mpr hq)
  exact ⟨a1.moved hvm, a2.moved hvm, a3.moved hvm hq, a4.moved hvm hq, a5.moved hvm hq, by rw [hU]; exact hH.moved hvm⟩
section RowsB
variable {XS : XT → Prop} {R : Room} {μ : MI} {kc ks pc : Nat} {ls : List (Option Value)} {st : List Value} {P P' : AH → Prop} {Q : Option Value → AH → Prop}
theorem r_getf {C : String} {T : u_T} {N ci idx k a : Nat} {fs : List Value} {v : Value} (hf : decode μ.2.1 pc = .ok (.getfield idx, 3)) (hin : ∀ w ∈ u_ws C T N, w ∈ lw_g) (hc0 : vwCl[ci]? = some (C, T, N)) (hk : k < N) (hlink : Cond.fieldLink μ.1.cls idx (T k).1 (T k).2.1 (T k).2.2.1 ∈ lw_g)
    (ho : ∀ h, P h → a < h.1 ∧ h.2 a = .inr (.inr (ci, fs))) (hv : fs[k]? = some v) (kk : AW XS R μ kc ks (pc + 3) ls (v :: st) P Q) : AW XS R μ kc ks pc ls (.ref a :: st) P Q := by
  intro p l e s m args below meth c D b base X Z hX hc hz h H locs lsA hP hH hS hL
  obtain ⟨cA, hsz, hat, hak⟩ := id hH
  obtain ⟨hlt, hob⟩ := ho h hP
  have h0 := hat a hlt
  rw [hob] at h0
  exact va_get (ws := [(base + a, .inr (ci, fs.map (cv b base)))]) (fs := fs.map (cv b base)) (v := cv b base v) (C := C) (T := T) (N := N) hc.1 hc.2.1 hc.2.2.2.2.2.2.2.1 hin hc.2.2.2.2.1 hc.2.2.2.2.2.2.2.2.1 (va_one h0) 0 rfl hc0 k hk (hc.2.2.2.2.2.2.2.1 _ hlink) (fun _ q => q) (by rw [List.getElem?_map, hv]; rfl) hf (kk p l e s m args below meth c D b base X Z hX hc hz h H locs lsA hP hH hS hL)
theorem Hp.set {D : va_G} {b base : Nat} {s : State} {h : AH} {H H' : Heap} {a : Nat} {x : AE} {cA : Nat → ClassId} (hsz : H.size = base + h.1) (hat : ∀ i, i < h.1 → va_at D vwCl (base + i, ce b base (cA i) (h.2 i)) H) (hak : ∀ i, i < h.1 → ak (cA i) (h.2 i) s)
    (e2 : H'.size = H.size) (e3 : ∀ q, q ≠ base + a → H'[q]? = H[q]?) (hx : va_at D vwCl (base + a, ce b base (cA a) x) H') (hxk : ak (cA a) x s) : Hp D b base s (hset h a x) H' := by
  refine ⟨cA, by rw [e2]; exact hsz, fun i hi => ?_, fun i hi => ?_⟩
  · by_cases hia : i = a
    · subst hia; rw [hset_same]; exact hx
    · rw [hset_ne _ _ hia]; exact (hat i hi).kept (e3 (base + i) (by omega))
  · by_cases hia : i = a
    · subst hia; rw [hset_same]; exact hxk
    · rw [hset_ne _ _ hia]; exact hak i hi
theorem r_putf {C : String} {T : u_T} {N ci idx k a : Nat} {fs : List Value} {v : Value} {ty : FieldType} (ty0 : Nat → FieldType) (hf : decode μ.2.1 pc = .ok (.putfield idx, 3)) (hin : ∀ w ∈ u_ws C T N, w ∈ lw_g) (hty : ∀ k, k < N → parseFieldDescriptor (T k).2.2.1 = some (ty0 k)) (hnm : ∀ a, a < N → ∀ b, b < N → a ≠ b → (T a).2.1 ≠ (T b).2.1) (hc0 : vwCl[ci]? = some (C, T, N)) (hk : k < N) (hlink : Cond.fieldLink μ.1.cls idx (T k).1 (T k).2.1 (T k).2.2.1 ∈ lw_g)
    (hfin : (T k).2.2.2 = false) (hd : ty0 k = ty) (hn : ∀ b base, narrow ty (cv b base v) = cv b base v) (hfit : ∀ b base, fits ty (cv b base v) = true) (hl : k < fs.length) (ho : ∀ h, P h → a < h.1 ∧ h.2 a = .inr (.inr (ci, fs))) (hu : ∀ h, P h → P' (hset h a (.inr (.inr (ci, fs.set k v))))) (kk : AW XS R μ kc ks (pc + 3) ls st P' Q) : AW XS R μ kc ks pc ls (v :: .ref a :: st) P Q := by
  intro p l e s m args below meth c D b base X Z hX hc hz h H locs lsA hP hH hS hL
  obtain ⟨cA, hsz, hat, hak⟩ := id hH
  obtain ⟨hlt, hob⟩ := ho h hP
  have h0 := hat a hlt
  rw [hob] at h0
  have hts := hc.2.2.2.2.2.2.2.1
  have hown := hc.2.2.2.2.1
  have hK := hc.2.2.2.2.2.2.2.2.1
  have hap := va_apart (own := μ.1.cls) hts hin ty0 hty hnm hK hc0
  obtain ⟨r, h1, cell, q1, q2, q3, q4⟩ := h0
  have hr : r = (C, T, N) := Option.some.inj (h1.symm.trans hc0)
  subst hr
  obtain ⟨hS0, hfc, kC, hkC, hkind⟩ := hK.1 ci _ hc0
  obtain ⟨cf, kf, fi, f, hi, hsl⟩ := hS0 k hk
  have hlay := hts _ (hin _ (u_in_lay hk))
  unfold u_lay at hlay
  rw [if_neg (by rw [hfin]; decide)] at hlay
  have hst := (u_facts hfc hkC (u_lays hts hin hk) hi).1
  have h6 := u_store hfc hkC hkind hlay hi (by rw [hty k hk, hd]) (hn b base) (hfit b base)
  refine W.putK hc.1 hc.2.1 (f := f) ⟨hown, hts _ hlink, ⟨_, _, _, hi⟩, hst⟩ (by rw [q2]; exact h6) q1 q3 (by rw [hsl]; exact k2_hasslot (q4 k hk)) rfl rfl hf fun H' e1 e2 e3 => ?_
  rw [hsl] at e1 ⊢
  refine kk p l e s m args below meth c D b base X Z hX hc hz _ H' _ lsA (hu h hP) (Hp.set hsz hat hak e2 e3 ?_ trivial) (hS.put e2 e3 (Nat.le_add_right base a)) hL
  refine ⟨_, hc0, t_OB.to (V := updV (vp_V (fs.map (cv b base))) k (cv b base v)) ⟨_, e1, q2, q3, t_set q4 hap hk _⟩ (fun j _ => ?_)⟩
  rw [List.map_set]
  exact vp_updV_set (by rw [List.length_map]; exact hl) _ j
theorem r_putF {C : String} {T : u_T} {N ci idx k a : Nat} {fs : List Value} {v : Value} {ty : FieldType} (ty0 : Nat → FieldType) (hf : decode μ.2.1 pc = .ok (.putfield idx, 3)) (hin : ∀ w ∈ u_ws C T N, w ∈ lw_g) (hty : ∀ k, k < N → parseFieldDescriptor (T k).2.2.1 = some (ty0 k)) (hnm : ∀ a, a < N → ∀ b, b < N → a ≠ b → (T a).2.1 ≠ (T b).2.1) (hc0 : vwCl[ci]? = some (C, T, N)) (hk : k < N) (hlink : Cond.fieldLink μ.1.cls idx (T k).1 (T k).2.1 (T k).2.2.1 ∈ lw_g)
    (hfin : (T k).2.2.2 = true) (hin2 : μ.1.name = "<init>") (hdecl : (T k).1 = μ.1.cls) (hd : ty0 k = ty) (hn : ∀ b base, narrow ty (cv b base v) = cv b base v) (hfit : ∀ b base, fits ty (cv b base v) = true) (hl : k < fs.length) (ho : ∀ h, P h → a < h.1 ∧ h.2 a = .inr (.inr (ci, fs))) (hu : ∀ h, P h → P' (hset h a (.inr (.inr (ci, fs.set k v))))) (kk : AW XS R μ kc ks (pc + 3) ls st P' Q) : AW XS R μ kc ks pc ls (v :: .ref a :: st) P Q := by
  intro p l e s m args below meth c D b base X Z hX hc hz h H locs lsA hP hH hS hL
  obtain ⟨cA, hsz, hat, hak⟩ := id hH
  obtain ⟨hlt, hob⟩ := ho h hP
  have h0 := hat a hlt
  rw [hob] at h0
  have hts := hc.2.2.2.2.2.2.2.1
  have hown := hc.2.2.2.2.1
  have hK := hc.2.2.2.2.2.2.2.2.1
  have hap := va_apart (own := μ.1.cls) hts hin ty0 hty hnm hK hc0
  obtain ⟨r, h1, cell, q1, q2, q3, q4⟩ := h0
  have hr : r = (C, T, N) := Option.some.inj (h1.symm.trans hc0)
  subst hr
  obtain ⟨hS0, hfc, kC, hkC, hkind⟩ := hK.1 ci _ hc0
  obtain ⟨cf, kf, fi, f, hi, hsl⟩ := hS0 k hk
  have hlay := hts _ (hin _ (u_in_lay hk))
  unfold u_lay at hlay
  rw [if_pos hfin] at hlay
  have hst := (u_facts hfc hkC (u_lays hts hin hk) hi).1
  have hcf : m.cls = cf := by
    obtain ⟨_, _, c', _, _, _, -, -, hf', -, -, -, hown2, -⟩ := Cond.laysFinal_spec hlay
    have e1 : c' = cf := by have := hi.symm.trans hf'; simp at this; exact this.1.symm
    rw [hdecl] at hown2
    rw [← e1]; exact Option.some.inj (hown.symm.trans hown2)
  have h6 := u_fits hfc hkC hkind (Or.inr hlay) hi (by rw [hty k hk, hd]) (hn b base) (hfit b base)
  refine W.putFinK hc.1 hc.2.1 hown (hts _ hlink) hi hst hcf (hc.2.2.2.2.2.2.1 hin2) (by rw [q2]; exact h6) q1 q3 (by rw [hsl]; exact k2_hasslot (q4 k hk)) rfl rfl hf fun H' e1 e2 e3 => ?_
  rw [hsl] at e1 ⊢
  refine kk p l e s m args below meth c D b base X Z hX hc hz _ H' _ lsA (hu h hP) (Hp.set hsz hat hak e2 e3 ?_ trivial) (hS.put e2 e3 (Nat.le_add_right base a)) hL
  refine ⟨_, hc0, t_OB.to (V := updV (vp_V (fs.map (cv b base))) k (cv b base v)) ⟨_, e1, q2, q3, t_set q4 hap hk _⟩ (fun j _ => ?_)⟩
  rw [List.map_set]
  exact vp_updV_set (by rw [List.length_map]; exact hl) _ j
theorem ix_in {i : Int32} {j n : Nat} (hi : i.toInt = (j : Int)) (hj : j < n) : vp_in i n := vp_in_iff.mpr ⟨by omega, by omega⟩
theorem ix_cl {i : Int32} {j : Nat} (hi : i.toInt = (j : Int)) : i.toNatClampNeg = j := by
  show i.toInt.toNat = j
  rw [hi]; rfl
theorem r_iald {n a j : Nat} {i : Int32} {f : Nat → Int32} (hf : decode μ.2.1 pc = .ok (.iaload, 1)) (ho : ∀ h, P h → a < h.1 ∧ h.2 a = .inl (n, f)) (hi : i.toInt = (j : Int)) (hj : j < n) (kk : AW XS R μ kc ks (pc + 1) ls (.int (f j) :: st) P Q) : AW XS R μ kc ks pc ls (.int i :: .ref a :: st) P Q := by
  intro p l e s m args below meth c D b base X Z hX hc hz h H locs lsA hP hH hS hL
  obtain ⟨cA, hsz, hat, hak⟩ := id hH
  obtain ⟨hlt, hob⟩ := ho h hP
  have h0 := hat a hlt
  have k0 := hak a hlt
  rw [hob] at h0 k0
  have hK : va_K D vwCl [(cA a, .int)] s := ⟨hc.2.2.2.2.2.2.2.2.1.1, fun k q hq => by
    cases k with
    | zero => cases hq; exact k0
    | succ k => cases hq⟩
  refine va_iald (ws := [(base + a, .inl (cA a, n, .inl f))]) hc.1 hc.2.1 hK (va_one h0) 0 0 rfl rfl (ix_in hi hj) hf ?_
  rw [ix_cl hi]
  exact kk p l e s m args below meth c D b base X Z hX hc hz h H locs lsA hP hH hS hL
theorem r_iast {n a j : Nat} {i x : Int32} {f : Nat → Int32} (hf : decode μ.2.1 pc = .ok (.iastore, 1)) (ho : ∀ h, P h → a < h.1 ∧ h.2 a = .inl (n, f)) (hi : i.toInt = (j : Int)) (hj : j < n) (hu : ∀ h, P h → P' (hset h a (.inl (n, upd f j x)))) (kk : AW XS R μ kc ks (pc + 1) ls st P' Q) : AW XS R μ kc ks pc ls (.int x :: .int i :: .ref a :: st) P Q := by
  intro p l e s m args below meth c D b base X Z hX hc hz h H locs lsA hP hH hS hL
  obtain ⟨cA, hsz, hat, hak⟩ := id hH
  obtain ⟨hlt, hob⟩ := ho h hP
  have h0 := hat a hlt
  have k0 := hak a hlt
  rw [hob] at h0 k0
  refine W.iast hc.1 hc.2.1 h0 (k0.1 n (fun j => .int (f j))) (fun q => by cases q) (by show ¬ (i < 0 ∨ (arrV _ _ _).slots.size ≤ _); rw [arrV_size]; exact ix_in hi hj) rfl rfl hf fun H1 e1 e2 e3 => ?_
  refine kk p l e s m args below meth c D b base X Z hX hc hz _ H1 _ lsA (hu h hP) (Hp.set hsz hat hak e2 e3 ?_ k0) (hS.put e2 e3 (Nat.le_add_right base a)) hL
  show H1[base + a]? = some (vp_cell _ _)
  rw [e1, ix_cl hi]
  show some ((arrV (cA a) n fun j => .int (f j)).setSlot j (.int x)) = some (arrV (cA a) n fun k => .int (upd f j x k))
  rw [arrV_store]
  congr 2
  funext q
  by_cases hq : q = j
  · subst hq; simp [updV, upd]
  · simp [updV, upd, hq]
theorem r_alen {a : Nat} {y : Nat × (Nat → Int32)} {v : Int32} (hf : decode μ.2.1 pc = .ok (.arraylength, 1)) (ho : ∀ h, P h → a < h.1 ∧ h.2 a = .inl y) (hv : Int32.ofNat y.1 = v) (kk : AW XS R μ kc ks (pc + 1) ls (.int v :: st) P Q) : AW XS R μ kc ks pc ls (.ref a :: st) P Q := by
  intro p l e s m args below meth c D b base X Z hX hc hz h H locs lsA hP hH hS hL
  obtain ⟨cA, hsz, hat, hak⟩ := id hH
  obtain ⟨hlt, hob⟩ := ho h hP
  have h0 := hat a hlt
  have k0 := hak a hlt
  rw [hob] at h0 k0
  have hK : va_K D vwCl [(cA a, .int)] s := ⟨hc.2.2.2.2.2.2.2.2.1.1, fun k q hq => by
    cases k with
    | zero => cases hq; exact k0
    | succ k => cases hq⟩
  exact va_alen (ws := [(base + a, .inl (cA a, y.1, .inl y.2))]) hc.1 hc.2.1 hK (va_one h0) 0 0 rfl rfl hv hf (kk p l e s m args below meth c D b base X Z hX hc hz h H locs lsA hP hH hS hL)
theorem r_alenq {a : Nat} {y : Nat × (Nat → Option Nat)} {v : Int32} (hf : decode μ.2.1 pc = .ok (.arraylength, 1)) (ho : ∀ h, P h → a < h.1 ∧ h.2 a = .inr (.inl y)) (hv : Int32.ofNat y.1 = v) (kk : AW XS R μ kc ks (pc + 1) ls (.int v :: st) P Q) : AW XS R μ kc ks pc ls (.ref a :: st) P Q := by
  intro p l e s m args below meth c D b base X Z hX hc hz h H locs lsA hP hH hS hL
  obtain ⟨cA, hsz, hat, hak⟩ := id hH
  obtain ⟨hlt, hob⟩ := ho h hP
  have h0 := hat a hlt
  have k0 := hak a hlt
  rw [hob] at h0 k0
  have hK : va_K D vwCl [(cA a, .object "OneGoCeiling$Sheet")] s := ⟨hc.2.2.2.2.2.2.2.2.1.1, fun k q hq => by
    cases k with
    | zero => cases hq; exact k0
    | succ k => cases hq⟩
  exact va_alen (ws := [(base + a, .inl (cA a, y.1, .inr (.inr (.inr (.inr (fun j => (y.2 j).map (fun k => base + k)))))))]) hc.1 hc.2.1 hK (va_one h0) 0 0 rfl rfl hv hf (kk p l e s m args below meth c D b base X Z hX hc hz h H locs lsA hP hH hS hL)
theorem r_aald {n a j y : Nat} {i : Int32} {f : Nat → Option Nat} (hf : decode μ.2.1 pc = .ok (.aaload, 1)) (ho : ∀ h, P h → a < h.1 ∧ h.2 a = .inr (.inl (n, f))) (hi : i.toInt = (j : Int)) (hj : j < n) (hy : f j = some y) (kk : AW XS R μ kc ks (pc + 1) ls (.ref y :: st) P Q) : AW XS R μ kc ks pc ls (.int i :: .ref a :: st) P Q := by
  intro p l e s m args below meth c D b base X Z hX hc hz h H locs lsA hP hH hS hL
  obtain ⟨cA, hsz, hat, hak⟩ := id hH
  obtain ⟨hlt, hob⟩ := ho h hP
  have h0 := hat a hlt
  have k0 := hak a hlt
  rw [hob] at h0 k0
  have hK : va_K D vwCl [(cA a, .object "OneGoCeiling$Sheet")] s := ⟨hc.2.2.2.2.2.2.2.2.1.1, fun k q hq => by
    cases k with
    | zero => cases hq; exact k0
    | succ k => cases hq⟩
  refine va_aldq (ws := [(base + a, .inl (cA a, n, .inr (.inr (.inr (.inr (fun j => (f j).map (fun k => base + k)))))))]) hc.1 hc.2.1 hK (va_one h0) 0 0 rfl rfl (ix_in hi hj) hf ?_
  rw [ix_cl hi, hy]
  exact kk p l e s m args below meth c D b base X Z hX hc hz h H locs lsA hP hH hS hL
theorem r_aast {n a j v : Nat} {i : Int32} {vs : List Value} {f : Nat → Option Nat} (hf : decode μ.2.1 pc = .ok (.aastore, 1)) (ho : ∀ h, P h → a < h.1 ∧ h.2 a = .inr (.inl (n, f))) (hv : ∀ h, P h → v < h.1 ∧ h.2 v = .inr (.inr (5, vs))) (hi : i.toInt = (j : Int)) (hj : j < n) (hu : ∀ h, P h → P' (hset h a (.inr (.inl (n, va_up f j (some v)))))) (kk : AW XS R μ kc ks (pc + 1) ls st P' Q) : AW XS R μ kc ks pc ls (.ref v :: .int i :: .ref a :: st) P Q := by
  intro p l e s m args below meth c D b base X Z hX hc hz h H locs lsA hP hH hS hL
  obtain ⟨cA, hsz, hat, hak⟩ := id hH
  obtain ⟨hlt, hob⟩ := ho h hP
  obtain ⟨hvlt, hvob⟩ := hv h hP
  have h0 := hat a hlt
  have k0 := hak a hlt
  have v0 := hat v hvlt
  rw [hob] at h0 k0
  rw [hvob] at v0
  have hK := hc.2.2.2.2.2.2.2.2.1
  have hx0 := ix_in hi hj
  have hlt2 : i.toNatClampNeg < n := Nat.not_le.mp fun q => hx0 (Or.inr q)
  have hn0 : ¬ i < 0 := fun q => hx0 (Or.inl q)
  obtain ⟨r', hr', cellV, g1, g2, g3, -⟩ := v0
  have hcl5 : vwCl[5]? = some (RX6, TX6, 2) := rfl
  have hcls := (hK.1 5 _ hcl5).2
  obtain ⟨kA, comp, k1, k2, k3, -⟩ := k0.2
  have hcomp : comp = D.1 5 := Option.some.inj (k3.symm.trans hcls.1)
  subst hcomp
  obtain ⟨kC, hkC, -⟩ := hcls.2
  refine W.aast hc.1 hc.2.1 h0 (fun q h => by cases h) (fun h => by cases h) k1 k2 rfl hkC ⟨hn0, by show _ < (arrV _ _ _).slots.size; rw [arrV_size]; exact hlt2⟩ g1 (fun q h => by rw [g3] at h; cases h) (by rw [g2]; exact hkC) (by rw [g2]; exact va_assign hcls) rfl rfl hf fun H1 e1 e2 e3 => ?_
  refine kk p l e s m args below meth c D b base X Z hX hc hz _ H1 _ lsA (hu h hP) (Hp.set hsz hat hak e2 e3 ?_ k0) (hS.put e2 e3 (Nat.le_add_right base a)) hL
  show H1[base + a]? = some (vp_cell _ _)
  rw [e1, ix_cl hi]
  show some ((arrV (cA a) n fun j => va_rf ((f j).map fun k => base + k)).setSlot j (.ref (base + v))) = some (arrV (cA a) n fun q => va_rf ((va_up f j (some v) q).map fun k => base + k))
  rw [arrV_store]
  congr 2
  funext q
  by_cases hq : q = j
  · subst hq; simp [updV, va_up, va_rf]
  · simp [updV, va_up, hq]
end RowsB
end
section
/-! new cells, calls, ends -/
section RowsC
variable {XS : XT → Prop} {R : Room} {μ : MI} {kc ks pc : Nat} {ls : List (Option Value)} {st : List Value} {P P' : AH → Prop} {Q : Option Value → AH → Prop}
theorem Hp.new {D : va_G} {b base : Nat} {s : State} {h : AH} {H H' : Heap} {x : AE} {cA : Nat → ClassId} {c0 : ClassId} (hsz : H.size = base + h.1) (hat : ∀ i, i < h.1 → va_at D vwCl (base + i, ce b base (cA i) (h.2 i)) H) (hak : ∀ i, i < h.1 → ak (cA i) (h.2 i) s)
    (e2 : H'.size = H.size + 1) (e3 : ∀ q, q < H.size → H'[q]? = H[q]?) (hx : va_at D vwCl (H.size, ce b base c0 x) H') (hxk : ak c0 x s) : Hp D b base s (hnew h x) H' := by
  refine ⟨fun i => if i = h.1 then c0 else cA i, by rw [e2, hsz]; rfl, fun i hi => ?_, fun i hi => ?_⟩
  · by_cases hia : i = h.1
    · subst hia
      show va_at D vwCl (base + h.1, ce b base (if h.1 = h.1 then c0 else cA h.1) (if h.1 = h.1 then x else h.2 h.1)) H'
      rw [if_pos rfl, if_pos rfl, ← hsz]
      exact hx
    · show va_at D vwCl (base + i, ce b base (if i = h.1 then c0 else cA i) (if i = h.1 then x else h.2 i)) H'
      have hi2 : i < h.1 + 1 := hi
      rw [if_neg hia, if_neg hia]
      exact (hat i (by omega)).kept (e3 (base + i) (by omega))
  · by_cases hia : i = h.1
    · subst hia
      show ak (if h.1 = h.1 then c0 else cA h.1) (if h.1 = h.1 then x else h.2 h.1) s
      rw [if_pos rfl, if_pos rfl]
      exact hxk
    · show ak (if i = h.1 then c0 else cA i) (if i = h.1 then x else h.2 i) s
      have hi2 : i < h.1 + 1 := hi
      rw [if_neg hia, if_neg hia]
      exact hak i (by omega)
theorem va_S.grown {A : Nat → Prop} {H0 H H' : Heap} {locs : List Loc} (hS : va_S A H0 H locs) (e2 : H'.size = H.size + 1) (e3 : ∀ q, q < H.size → H'[q]? = H[q]?) : va_S A H0 H' locs :=
  ⟨Nat.le_trans hS.1 (by omega), fun x h1 h2 => (e3 x (Nat.lt_of_lt_of_le h1 hS.1)).trans (hS.2.1 x h1 h2), hS.2.2⟩
theorem r_new {C : String} {T : u_T} {N ci idx n : Nat} {fs : List Value} (ty0 : Nat → FieldType) (hf : decode μ.2.1 pc = .ok (.new idx, 3)) (hin : ∀ w ∈ u_ws C T N, w ∈ lw_g) (hty : ∀ k, k < N → parseFieldDescriptor (T k).2.2.1 = some (ty0 k)) (hc0 : vwCl[ci]? = some (C, T, N)) (hcl : Cond.classLink μ.1.cls idx C ∈ lw_g) (hins : Cond.instantiable C N ∈ lw_g) (hini : Cond.initialized C ∈ lw_g)
    (hfs : ∀ b base j, j < N → defaultValue (ty0 j) = vp_V (fs.map (cv b base)) j) (hcells : kc + 1 ≤ R.cells) (hslots : ks + N ≤ R.slots) (hn : ∀ h, P h → h.1 = n) (hu : ∀ h, P h → P' (hnew h (.inr (.inr (ci, fs))))) (kk : AW XS R μ (kc + 1) (ks + N) (pc + 3) ls (.ref n :: st) P' Q) : AW XS R μ kc ks pc ls st P Q := by
  intro p l e s m args below meth c D b base X Z hX hc hz h H locs lsA hP hH hS hL
  obtain ⟨cA, hsz, hat, hak⟩ := id hH
  have hts := hc.2.2.2.2.2.2.2.1
  have hKn := hc.2.2.2.2.2.2.2.2.1.1 ci _ hc0
  refine W.newcK hc.1 hc.2.1 hc.2.2.2.2.1 (hts _ hcl) (hts _ hins) (hts _ hini) rfl hf hcells hslots hKn.2.1 rfl fun H1 kC hkC e1 z1 o1 => ?_
  have e0 : H.size = base + n := by rw [hsz, hn h hP]
  rw [e0]
  refine kk p l e s m args below meth c D b base X Z hX hc hz _ H1 _ lsA (hu h hP) (Hp.new (c0 := 0) hsz hat hak z1 o1 ?_ trivial) (hS.grown z1 o1) hL
  exact ⟨_, hc0, (u_born ty0 hts hin hKn hkC e1 hty).to (hfs b base)⟩
theorem r_newa {n N : Nat} {x : Int32} (hf : decode μ.2.1 pc = .ok (.newarray .int, 2)) (hac : Cond.arrayClass .int ∈ lw_g) (hx : x.toInt = (N : Int)) (hN : N ≤ 100000) (hcells : kc + 1 ≤ R.cells) (hslots : ks + N ≤ R.slots) (hn : ∀ h, P h → h.1 = n) (hu : ∀ h, P h → P' (hnew h (.inl (N, fun _ => 0)))) (kk : AW XS R μ (kc + 1) (ks + N) (pc + 2) ls (.ref n :: st) P' Q) : AW XS R μ kc ks pc ls (.int x :: st) P Q := by
  intro p l e s m args below meth c D b base X Z hX hc hz h H locs lsA hP hH hS hL
  obtain ⟨cA, hsz, hat, hak⟩ := id hH
  have hts := hc.2.2.2.2.2.2.2.1
  have h0 : ¬ x < 0 := fun q => by
    have := Int32.lt_iff_toInt_lt.mp q
    rw [hx] at this
    simp at this
    omega
  refine va_newaK hc.1 hc.2.1 (atype := .int) (hts _ hac) rfl hf rfl h0 (ix_cl hx) (by show N * 4 ≤ 536870912; omega) hcells hslots rfl fun H1 cA1 e1 z1 o1 hAr hNm => ?_
  have e0 : H.size = base + n := by rw [hsz, hn h hP]
  rw [e0]
  exact kk p l e s m args below meth c D b base X Z hX hc hz _ H1 _ lsA (hu h hP) (Hp.new (c0 := cA1) hsz hat hak z1 o1 e1 ⟨hAr, hNm⟩) (hS.grown z1 o1) hL
theorem r_newq {n N idx : Nat} {x : Int32} (hf : decode μ.2.1 pc = .ok (.anewarray idx, 3)) (hcl : Cond.classLink μ.1.cls idx "OneGoCeiling$Sheet" ∈ lw_g) (hx : x.toInt = (N : Int)) (hN : N ≤ 100000) (hcells : kc + 1 ≤ R.cells) (hslots : ks + N ≤ R.slots) (hn : ∀ h, P h → h.1 = n) (hu : ∀ h, P h → P' (hnew h (.inr (.inl (N, fun _ => none))))) (kk : AW XS R μ (kc + 1) (ks + N) (pc + 3) ls (.ref n :: st) P' Q) : AW XS R μ kc ks pc ls (.int x :: st) P Q := by
  intro p l e s m args below meth c D b base X Z hX hc hz h H locs lsA hP hH hS hL
  obtain ⟨cA, hsz, hat, hak⟩ := id hH
  have hts := hc.2.2.2.2.2.2.2.1
  have h0 : ¬ x < 0 := fun q => by
    have := Int32.lt_iff_toInt_lt.mp q
    rw [hx] at this
    simp at this
    omega
  have hxn := ix_cl hx
  refine W.anew (own := μ.1.cls) (C := "OneGoCeiling$Sheet") hc.1 hc.2.1 hc.2.2.2.2.1 (hts _ hcl) (va_AO.use hc.2.2.2.2.2.2.2.2.2.1) rfl hf rfl h0 (by rw [hxn]; omega) hcells (by rw [hxn]; exact hslots) fun cA1 kA comp f1 f2 f3 f4 => ?_
  rw [hxn]
  generalize hH1 : H.push ({ cls := cA1, slots := Array.replicate N .null, vm := .none } : Cell) = H1
  have z1 : H1.size = H.size + 1 := by rw [← hH1, Array.size_push]
  have e1 : H1[H.size]? = some (arrV cA1 N (fun _ => .null)) := by rw [← hH1, Array.getElem?_push_size, ← arrV_new]
  have o1 : ∀ q : Nat, q < H.size → H1[q]? = H[q]? := fun q hq => by rw [← hH1, Array.getElem?_push, if_neg (Nat.ne_of_lt hq)]
  have e0 : H.size = base + n := by rw [hsz, hn h hP]
  rw [e0]
  exact kk p l e s m args below meth c D b base X Z hX hc hz _ H1 _ lsA (hu h hP) (Hp.new (c0 := cA1) hsz hat hak z1 o1 e1 ⟨fun _ z => ⟨fun k h => (by cases h), kA, f2, comp, f3⟩, kA, comp, f2, f3, f4, f1⟩) (hS.grown z1 o1) hL
theorem r_objInit {idx a : Nat} (hf : decode μ.2.1 pc = .ok (.invokespecial idx, 3)) (hl : Cond.methodLink μ.1.cls idx objectInit ∈ lw_g) (hi : Cond.instanceMethod objectInit ∈ lw_g) (hco : Cond.code objectInit ⟨#[0xb1]⟩ 1 none ∈ lw_g) (hr : 1 ≤ R.frames ∧ 20 ≤ R.locals) (hst : (st.map fun v => v.category).sum ≤ 8) (kk : AW XS R μ kc ks (pc + 3) ls st P Q) : AW XS R μ kc ks pc ls (.ref a :: st) P Q := by
  intro p l e s m args below meth c D b base X Z hX hc hz h H locs lsA hP hH hS hL
  have hts := hc.2.2.2.2.2.2.2.1
  refine W.objInit hc.1 hc.2.1 hc.2.2.2.2.1 (hts _ hl) (hts _ hi) (hts _ hco) rfl (hL.1.trans hc.2.2.1.symm) rfl hf hr.1 ?_ ?_
  · rw [cat_sum]
    show 2 * 0 + _ + 12 ≤ _
    omega
  · exact kk p l e s m args below meth c D b base X Z hX hc hz h H locs lsA hP hH hS hL
/-- what is fixed of a method that is called: its words are there, its class is plain, how many arguments -/
def Lk (μ : MI) (n : Nat) : Prop := Cond.code μ.1 μ.2.1 μ.2.2.1 μ.2.2.2.1 ∈ lw_g ∧ Cond.initialized μ.1.cls ∈ lw_g ∧ (μ.1.cls ≠ "java/lang/invoke/MethodHandle" ∧ μ.1.cls ≠ "java/lang/invoke/VarHandle") ∧ (parseMethodDescriptor μ.1.desc).map (fun d => d.parameters.length) = some n
theorem Lk.B {R : Room} {s : State} {args : Array Value} {own : String} {idx n d mc ms : Nat} {μ : MI} (h : Lk μ n) (hts : ∀ w ∈ lw_g, w.before args s = true) (hl : Cond.methodLink own idx μ.1 ∈ lw_g) (hR : d + 1 ≤ R.frames ∧ 41 * d + μ.2.2.1 + 19 ≤ R.locals) : CallB R s args own idx μ.1 μ.2.1 μ.2.2.1 μ.2.2.2.1 (wsM μ) (rmd d mc ms) mc ms n :=
  callB_of n hts (lwg_ws h.1) rfl rfl rfl (hts _ h.2.1) (hts _ hl) ⟨h.2.2.1.1, h.2.2.1.2, h.2.2.2⟩ ⟨hR.1, by show 8 + (μ.2.2.1 + 11) + 41 * d ≤ _; omega⟩
theorem rb_call {p : Program} {l : Launch} {e : Env} {s : State} {m : MethodId} {args : Array Value} {below : List Frame} {meth : Method} {c : Code} {D : va_G} {b base : Nat} {X : XT} {Z : State → Prop} {H : Heap} {locs : List Loc} {mc ms : Nat} {lsA : Array Slot} {st0 rest : List Value} {Q' : Option Value → AH → Prop} {a : Array Value}
    (hr : va_Run p l e R s m args below meth c H locs kc ks mc ms (F0 m pc lsA st0) rest (QM D b base X Q' a) (iA base)) (hS : va_S (iA base) s.heap H locs) (hb : base ≤ s.heap.size)
    (kk : ∀ (v : Option Value) (h' : AH) (H' : Heap) (locs' : List Loc), Q' v h' → Hp D b base s h' H' → va_S (iA base) s.heap H' locs' → W p l e R s m args below meth c H' locs' (kc + mc) (ks + ms) Z (F0 m (pc + 3) lsA ((v.map (cv b base)).toList ++ rest))) : W p l e R s m args below meth c H locs kc ks Z (F0 m pc lsA st0) := by
  intro T hT X0
  obtain ⟨v, st₀, t, T', L, h0, X', hL, e1, e2, ⟨⟨v', h', hv, hQ, hw⟩, hz, hk⟩, stp⟩ := hr T hT X0
  cases hv
  rw [h0] at hz hk
  have hal : t.vm.Alike s.vm := by rw [← e2]; exact X'.warmed.alike.symm
  obtain ⟨-, -, -, -, -, hHp⟩ := hw
  obtain ⟨t2, a1, b1⟩ := kk v' h' T'.heap (locs ++ L) hQ (by rw [e1]; exact hHp.moved hal)
    ⟨Nat.le_trans hS.1 (by rw [e1]; exact hz), fun q h1 h2 => by rw [e1, hk q (Nat.not_le.mp h2)]; exact hS.2.1 q h1 h2, fun q hq => by
      rcases List.mem_append.mp hq with h | h
      · exact hS.2.2 q h
      · exact hL q h⟩ T' rfl X'
  exact ⟨t2, stp t2 a1, b1⟩
theorem Cx.pre {b base : Nat} {X : XT} {D : va_G} {p : Program} {s : State} {m : MethodId} {args : Array Value} {meth : Method} {c : Code} {h : AH} {H : Heap} {locs : List Loc} {vs : List Value} (hc : Cx μ b base X D p s m args meth c) (hH : Hp D b base s h H) (hS : va_S (iA base) s.heap H locs) :
    PreS s H (fun args U => args = (vs.map (cv b base)).toArray ∧ Wd D b base X h U) (vs.map (cv b base)) :=
  ⟨fun a U g mk q => ⟨q.1, q.2.moved (U' := U.calling g mk a) (Vm.Alike.refl U.vm) rfl⟩, fun U hU hW => ⟨rfl, hc.wd hH hS hU hW.alike⟩⟩
/-- a static method -/
theorem r_invS {idx n d mc ms : Nat} {μ' : MI} {Q' : Option Value → AH → Prop} (as rest : List Value) (hf : decode μ.2.1 pc = .ok (.invokestatic idx, 3)) (hl : Cond.methodLink μ.1.cls idx μ'.1 ∈ lw_g) (hs : Cond.static μ'.1 ∈ lw_g) (hk : Lk μ' n) (hn : as.length = n) (hst : st = as.reverse ++ rest) (hR : d + 1 ≤ R.frames ∧ 41 * d + μ'.2.2.1 + 19 ≤ R.locals) (hW : (rest.map fun v => v.category).sum ≤ 8) (hm : kc + mc ≤ R.cells ∧ ks + ms ≤ R.slots)
    (hct : ∀ h, P h → CT d mc ms μ' as h Q') (kk : ∀ v, AW XS R μ (kc + mc) (ks + ms) (pc + 3) ls (v.toList ++ rest) (Q' v) Q) : AW XS R μ kc ks pc ls st P Q := by
  subst hst
  intro p l e s m args below meth c D b base X Z hX hc hz h H locs lsA hP hH hS hL
  have hts := hc.2.2.2.2.2.2.2.1
  refine rb_call (mc := mc) (ms := ms) (a := (as.map (cv b base)).toArray) (va_runS (As := as.map (cv b base)) (rest := rest.map (cv b base)) (n := n) ⟨hc.1, hc.2.1, hc.2.2.1, hc.2.2.2.2.1, hts⟩ (hct h hP l D b base X) ⟨hk.B hts hl hR, hts _ hs⟩ (hc.pre hH hS) rfl (by rw [List.length_map]; exact hn) hL.1 (by rw [List.map_append, List.map_reverse]) (lv_room (by rw [cat_sum]; exact hW)) hf hm) hS hc.2.2.2.2.2.2.2.2.2.2.2.2.2 fun v h' H' locs' hQ hH' hS' => ?_
  have := kk v p l e s m args below meth c D b base X Z hX hc hz h' H' locs' lsA hQ hH' hS' hL
  cases v <;> exact this
/-- a constructor -/
theorem r_invI {idx n d mc ms a : Nat} {μ' : MI} {Q' : Option Value → AH → Prop} (as rest : List Value) (hf : decode μ.2.1 pc = .ok (.invokespecial idx, 3)) (hl : Cond.methodLink μ.1.cls idx μ'.1 ∈ lw_g) (hs : Cond.instanceMethod μ'.1 ∈ lw_g) (hnm : μ'.1.name = "<init>") (hnr : μ'.2.2.2.1 = none) (hk : Lk μ' n) (hn : as.length = n) (hst : st = as.reverse ++ .ref a :: rest) (hR : d + 1 ≤ R.frames ∧ 41 * d + μ'.2.2.1 + 19 ≤ R.locals) (hW : (rest.map fun v => v.category).sum ≤ 8) (hm : kc + mc ≤ R.cells ∧ ks + ms ≤ R.slots)
    (hct : ∀ h, P h → CT d mc ms μ' (.ref a :: as) h Q') (kk : ∀ v, AW XS R μ (kc + mc) (ks + ms) (pc + 3) ls (v.toList ++ rest) (Q' v) Q) : AW XS R μ kc ks pc ls st P Q := by
  subst hst
  intro p l e s m args below meth c D b base X Z hX hc hz h H locs lsA hP hH hS hL
  have hts := hc.2.2.2.2.2.2.2.1
  have hB := hk.B (mc := mc) (ms := ms) hts hl hR
  rw [hnr] at hB
  refine rb_call (mc := mc) (ms := ms) (a := ((Value.ref a :: as).map (cv b base)).toArray) (va_runI (b := base + a) (As := as.map (cv b base)) (rest := rest.map (cv b base)) (n := n) ⟨hc.1, hc.2.1, hc.2.2.1, hc.2.2.2.2.1, hts⟩ (hct h hP l D b base X) ⟨hB, hnm, hts _ hs⟩ (hc.pre (vs := .ref a :: as) hH hS) rfl (by rw [List.length_map]; exact hn) hL.1 (by rw [List.map_append, List.map_reverse]; rfl) (lv_room (by rw [cat_sum]; exact hW)) hf hm) hS hc.2.2.2.2.2.2.2.2.2.2.2.2.2 fun v h' H' locs' hQ hH' hS' => ?_
  have := kk v p l e s m args below meth c D b base X Z hX hc hz h' H' locs' lsA hQ hH' hS' hL
  cases v <;> exact this
/-- an object's method: the receiver is of the method's class -/
def CV (d mc ms : Nat) (μ : MI) (a : Nat) (as : List Value) (h : AH) (Q : Option Value → AH → Prop) : Prop := (∃ (fs : List Value) (T : u_T) (N : Nat), a < h.1 ∧ h.2 a = .inr (.inr (μ.2.2.2.2, fs)) ∧ vwCl[μ.2.2.2.2]? = some (μ.1.cls, T, N)) ∧ CT d mc ms μ (.ref a :: as) h Q
theorem r_invV {idx n d mc ms a : Nat} {μ' : MI} {Q' : Option Value → AH → Prop} (as rest : List Value) (hf : decode μ.2.1 pc = .ok (.invokevirtual idx, 3)) (hl : Cond.methodLink μ.1.cls idx μ'.1 ∈ lw_g) (hs : Cond.instanceMethod μ'.1 ∈ lw_g) (hse : Cond.selects μ'.1.cls μ'.1 μ'.1 ∈ lw_g) (hk : Lk μ' n) (hn : as.length = n) (hst : st = as.reverse ++ .ref a :: rest) (hR : d + 1 ≤ R.frames ∧ 41 * d + μ'.2.2.1 + 19 ≤ R.locals) (hW : (rest.map fun v => v.category).sum ≤ 8) (hm : kc + mc ≤ R.cells ∧ ks + ms ≤ R.slots)
    (hct : ∀ h, P h → CV d mc ms μ' a as h Q') (kk : ∀ v, AW XS R μ (kc + mc) (ks + ms) (pc + 3) ls (v.toList ++ rest) (Q' v) Q) : AW XS R μ kc ks pc ls st P Q := by
  subst hst
  intro p l e s m args below meth c D b base X Z hX hc hz h H locs lsA hP hH hS hL
  obtain ⟨cA, hsz, hat, hak⟩ := id hH
  have hts := hc.2.2.2.2.2.2.2.1
  obtain ⟨⟨fs, T, N, hlt, hob, hcl⟩, hct2⟩ := hct h hP
  have h0 := hat a hlt
  rw [hob] at h0
  have hp := hc.pre (vs := .ref a :: as) hH hS
  refine rb_call (mc := mc) (ms := ms) (a := ((Value.ref a :: as).map (cv b base)).toArray) (va_runV (b := base + a) (C := μ'.1.cls) (As := as.map (cv b base)) (rest := rest.map (cv b base)) (n := n) ⟨hc.1, hc.2.1, hc.2.2.1, hc.2.2.2.2.1, hts⟩ (hct2 l D b base X) ⟨hk.B hts hl hR, hts _ hs, hts _ hse⟩ ⟨hp.1, va_recv (q0 := 0) hc.2.2.2.2.2.2.2.2.1 (va_one h0) hcl rfl, hp.2⟩ rfl (by rw [List.length_map]; exact hn) hL.1 (by rw [List.map_append, List.map_reverse]; rfl) (lv_room (by rw [cat_sum]; exact hW)) hf hm) hS hc.2.2.2.2.2.2.2.2.2.2.2.2.2 fun v h' H' locs' hQ hH' hS' => ?_
  have := kk v p l e s m args below meth c D b base X Z hX hc hz h' H' locs' lsA hQ hH' hS' hL
  cases v <;> exact this
theorem r_mmax {idx : Nat} {x y v : Int32} (hf : decode μ.2.1 pc = .ok (.invokestatic idx, 3)) (hl : Cond.methodLink μ.1.cls idx Lib.Math.max.name ∈ lw_g) (hs : Cond.static Lib.Math.max.name ∈ lw_g) (hi : Cond.initialized "java/lang/Math" ∈ lw_g) (hco : Cond.code Lib.Math.max.name Lib.Math.max.code 2 (some .int) ∈ lw_g) (hr : 1 ≤ R.frames ∧ 21 ≤ R.locals) (hst : (st.map fun v => v.category).sum ≤ 8) (hm : kc ≤ R.cells ∧ ks ≤ R.slots) (hv : (if x < y then y else x) = v) (kk : AW XS R μ kc ks (pc + 3) ls (.int v :: st) P Q) : AW XS R μ kc ks pc ls (.int y :: .int x :: st) P Q := by
  subst hv
  intro p l e s m args below meth c D b base X Z hX hc hz h H locs lsA hP hH hS hL
  have hts := hc.2.2.2.2.2.2.2.1
  exact va_mmax hc.1 hc.2.1 (hc.2.2.1.trans hL.1.symm) hc.2.2.2.2.1 (hts _ hl) (hts _ hs) (hts _ hi) (hts _ hco) hr.1 (by rw [cat_sum]; omega) hm.1 hm.2 hf (kk p l e s m args below meth c D b base X Z hX hc hz h H locs lsA hP hH hS hL)
theorem r_mmin {idx : Nat} {x y v : Int32} (hf : decode μ.2.1 pc = .ok (.invokestatic idx, 3)) (hl : Cond.methodLink μ.1.cls idx Lib.Math.min.name ∈ lw_g) (hs : Cond.static Lib.Math.min.name ∈ lw_g) (hi : Cond.initialized "java/lang/Math" ∈ lw_g) (hco : Cond.code Lib.Math.min.name Lib.Math.min.code 2 (some .int) ∈ lw_g) (hr : 1 ≤ R.frames ∧ 21 ≤ R.locals) (hst : (st.map fun v => v.category).sum ≤ 8) (hm : kc ≤ R.cells ∧ ks ≤ R.slots) (hv : (if y < x then y else x) = v) (kk : AW XS R μ kc ks (pc + 3) ls (.int v :: st) P Q) : AW XS R μ kc ks pc ls (.int y :: .int x :: st) P Q := by
  subst hv
  intro p l e s m args below meth c D b base X Z hX hc hz h H locs lsA hP hH hS hL
  have hts := hc.2.2.2.2.2.2.2.1
  exact va_mmin hc.1 hc.2.1 (hc.2.2.1.trans hL.1.symm) hc.2.2.2.2.1 (hts _ hl) (hts _ hs) (hts _ hi) (hts _ hco) hr.1 (by rw [cat_sum]; omega) hm.1 hm.2 hf (kk p l e s m args below meth c D b base X Z hX hc hz h H locs lsA hP hH hS hL)
theorem r_mabs {idx : Nat} {x v : Int32} (hf : decode μ.2.1 pc = .ok (.invokestatic idx, 3)) (hl : Cond.methodLink μ.1.cls idx Lib.Math.abs.name ∈ lw_g) (hs : Cond.static Lib.Math.abs.name ∈ lw_g) (hi : Cond.initialized "java/lang/Math" ∈ lw_g) (hco : Cond.code Lib.Math.abs.name Lib.Math.abs.code 1 (some .int) ∈ lw_g) (hr : 1 ≤ R.frames ∧ 21 ≤ R.locals) (hst : (st.map fun v => v.category).sum ≤ 8) (hm : kc ≤ R.cells ∧ ks ≤ R.slots) (hv : (if 0 ≤ x then x else 0 - x) = v) (kk : AW XS R μ kc ks (pc + 3) ls (.int v :: st) P Q) : AW XS R μ kc ks pc ls (.int x :: st) P Q := by
  subst hv
  intro p l e s m args below meth c D b base X Z hX hc hz h H locs lsA hP hH hS hL
  have hts := hc.2.2.2.2.2.2.2.1
  exact va_mabs hc.1 hc.2.1 (hc.2.2.1.trans hL.1.symm) hc.2.2.2.2.1 (hts _ hl) (hts _ hs) (hts _ hi) (hts _ hco) hr.1 (by rw [cat_sum]; omega) hm.1 hm.2 hf (kk p l e s m args below meth c D b base X Z hX hc hz h H locs lsA hP hH hS hL)
/-- the end, with a value -/
theorem r_ret {v : Option Value} (hr : Re μ pc v) (hm : kc ≤ R.cells ∧ ks ≤ R.slots) (hq : ∀ h, P h → Q v h) : AW XS R μ kc ks pc ls v.toList P Q := by
  intro p l e s m args below meth c D b base X Z hX hc hz h H locs lsA hP hH hS hL
  exact W.widen hm.1 hm.2 (hz pc v h H locs lsA (hq h hP) hr hH hS)
theorem r_ireturn {x : Int32} {ty : FieldType} (hf : decode μ.2.1 pc = .ok (.ireturn, 1)) (hr : μ.2.2.2.1 = some ty) (hn : narrow ty (.int x) = .int x) (hm : kc ≤ R.cells ∧ ks ≤ R.slots) (hq : ∀ h, P h → Q (some (.int x)) h) : AW XS R μ kc ks pc ls [.int x] P Q :=
  r_ret (v := some (.int x)) ⟨hf, ty, hr, hn⟩ hm hq
theorem r_return (hf : decode μ.2.1 pc = .ok (.return_, 1)) (hr : μ.2.2.2.1 = none) (hm : kc ≤ R.cells ∧ ks ≤ R.slots) (hq : ∀ h, P h → Q none h) : AW XS R μ kc ks pc ls [] P Q :=
  r_ret (v := none) ⟨hf, hr⟩ hm hq
theorem r_areturn {x : Nat} {n : String} (hf : decode μ.2.1 pc = .ok (.areturn, 1)) (hr : μ.2.2.2.1 = some (.object n)) (hm : kc ≤ R.cells ∧ ks ≤ R.slots) (hq : ∀ h, P h → Q (some (.ref x)) h) : AW XS R μ kc ks pc ls [.ref x] P Q :=
  r_ret (v := some (.ref x)) ⟨hf, ⟨_, hr, Or.inl ⟨n, rfl⟩⟩, Or.inr ⟨x, rfl⟩⟩ hm hq
theorem r_areturnN {n : String} (hf : decode μ.2.1 pc = .ok (.areturn, 1)) (hr : μ.2.2.2.1 = some (.object n)) (hm : kc ≤ R.cells ∧ ks ≤ R.slots) (hq : ∀ h, P h → Q (some .null) h) : AW XS R μ kc ks pc ls [.null] P Q :=
  r_ret (v := some .null) ⟨hf, ⟨_, hr, Or.inl ⟨n, rfl⟩⟩, Or.inl rfl⟩ hm hq
end RowsC
/-- a method's contract out of its walk -/
theorem ct_of {d mc ms : Nat} {μ : MI} {as : List Value} {h : AH} {Q : Option Value → AH → Prop} (hy : plainName μ.1.cls = true) (hlen : ∀ b base, (lg_sl (as.map (cv b base))).length ≤ μ.2.2.1) (body : AW (fun _ => True) (rmd d mc ms) μ 0 0 0 (pad μ.2.2.1 (ent as)) [] (fun g => g = h) Q) : CT d mc ms μ as h Q := by
  intro l D b base X
  refine Met.ofW (cc := μ.2.1) (maxL := μ.2.2.1) (ret := μ.2.2.2.1) hy rfl ?_
  intro p e s m args below meth c s₁ B hml hv
  obtain ⟨rfl, hK, hAO, hSa, hSb, hSc, hHp⟩ := hv
  have hts := atoms_spec (ws := wsM μ) B.pre
  obtain ⟨cA0, hsz0, -, -⟩ := id hHp
  have hC : Cx μ b base X D p s m (as.map (cv b base)).toArray meth c := ⟨B.exec, B.bytes, hml, B.returns, findClass_of_methodNamed B.named, B.notSynchronized, fun q => ((name_of_methodNamed B.named B.method).1).trans q, fun w hw => hts w (List.mem_cons_of_mem _ hw), hK, hAO, hSa, hSb, hSc, by omega⟩
  have hl := lv_entry (as.map (cv b base)) (n := μ.2.2.1) (hlen b base)
  rw [lg_entry_eq]
  refine body p l e s m _ below meth c D b base X _ trivial hC ?_ h s.heap [] _ rfl hHp va_S.rf (ent_pad (cv_cat b base) hl)
  intro pc v h' H locs lsA hQ hRe hH hS
  have hq : ∀ (o : Outcome) (t : State), o = .returned (v.map (cv b base)) → t.heap = H → s.WarmedH t.vm → QM D b base X Q (as.map (cv b base)).toArray s o t := fun o t ho ht hW =>
    ⟨⟨v, h', ho, hQ, hC.wd hH hS ht hW.alike⟩, by rw [ht]; exact hS.1, fun q hq => by rw [ht]; exact hS.2.1 q (by omega) (Nat.not_le.mpr hq)⟩
  match v, hRe, hq with
  | none, hRe, hq => exact W.vret B.exec B.bytes (B.returns.trans hRe.2) (fun t ht hW => hq _ t rfl ht hW) hS.2.2 hRe.1 B.notSynchronized
  | some (.int x), hRe, hq =>
    obtain ⟨hf, ty, h1, h2⟩ := hRe
    exact W.zret B.exec B.bytes (B.returns.trans h1) h2 (fun t ht hW => hq _ t rfl ht hW) hS.2.2 hf B.notSynchronized
  | some .null, hRe, hq =>
    obtain ⟨hf, ⟨ty, h1, h2⟩, h3⟩ := hRe
    exact W.aret B.exec B.bytes (B.returns.trans h1) h2 (Or.inl rfl) (fun t ht hW => hq _ t rfl ht hW) hS.2.2 hf B.notSynchronized
  | some (.ref x), hRe, hq =>
    obtain ⟨hf, ⟨ty, h1, h2⟩, h3⟩ := hRe
    exact W.aret B.exec B.bytes (B.returns.trans h1) h2 (Or.inr ⟨base + x, rfl⟩) (fun t ht hW => hq _ t rfl ht hW) hS.2.2 hf B.notSynchronized
  | some (.long x), hRe, _ => obtain ⟨-, -, h3⟩ := hRe; rcases h3 with h3 | ⟨_, h3⟩ <;> cases h3
  | some (.float x), hRe, _ => obtain ⟨-, -, h3⟩ := hRe; rcases h3 with h3 | ⟨_, h3⟩ <;> cases h3
  | some (.double x), hRe, _ => obtain ⟨-, -, h3⟩ := hRe; rcases h3 with h3 | ⟨_, h3⟩ <;> cases h3
end
section
/-! by program: the tables' words by their places; what is fixed of each method -/
theorem lwg_all {ws : List Cond} (ps : List Nat) (hp : ws = ps.filterMap (fun i => lw_tbl[i]?)) (h : ws.all goodWord = true) : ∀ w ∈ ws, w ∈ lw_g := by
  intro w hw
  have h1 := List.all_eq_true.mp h w hw
  rw [hp] at hw
  obtain ⟨i, -, hi⟩ := List.mem_filterMap.mp hw
  exact lwg_at i hi h1
theorem zX3 : Cond.initialized RX3 ∈ lw_g := lwg_at 79 (by decide +kernel) rfl
theorem hX0 : ∀ w ∈ u_ws RX0 TX0 10, w ∈ lw_g := lwg_all [134, 136, 138, 140, 142, 144, 146, 148, 150, 152] (by decide +kernel) (by decide +kernel)
theorem eX0 : vwCl[0]? = some (RX0, TX0, 10) := rfl
theorem aX0 : Cond.instantiable RX0 10 ∈ lw_g := lwg_at 95 (by decide +kernel) rfl
theorem zX0 : Cond.initialized RX0 ∈ lw_g := lwg_at 68 (by decide +kernel) rfl
theorem hX1 : ∀ w ∈ u_ws RX1 TX1 2, w ∈ lw_g := lwg_all [165, 167] (by decide +kernel) (by decide +kernel)
theorem eX1 : vwCl[1]? = some (RX1, TX1, 2) := rfl
theorem aX1 : Cond.instantiable RX1 2 ∈ lw_g := lwg_at 156 (by decide +kernel) rfl
theorem zX1 : Cond.initialized RX1 ∈ lw_g := lwg_at 71 (by decide +kernel) rfl
theorem hX2 : ∀ w ∈ u_ws RX2 TX2 4, w ∈ lw_g := lwg_all [258, 260, 262, 264] (by decide +kernel) (by decide +kernel)
theorem eX2 : vwCl[2]? = some (RX2, TX2, 4) := rfl
theorem aX2 : Cond.instantiable RX2 4 ∈ lw_g := lwg_at 246 (by decide +kernel) rfl
theorem zX2 : Cond.initialized RX2 ∈ lw_g := lwg_at 74 (by decide +kernel) rfl
theorem hX4 : ∀ w ∈ u_ws RX4 TX4 5, w ∈ lw_g := lwg_all [234, 236, 238, 240, 242] (by decide +kernel) (by decide +kernel)
theorem eX4 : vwCl[3]? = some (RX4, TX4, 5) := rfl
theorem aX4 : Cond.instantiable RX4 5 ∈ lw_g := lwg_at 222 (by decide +kernel) rfl
theorem zX4 : Cond.initialized RX4 ∈ lw_g := lwg_at 73 (by decide +kernel) rfl
theorem hX5 : ∀ w ∈ u_ws RX5 TX5 2, w ∈ lw_g := lwg_all [111, 113] (by decide +kernel) (by decide +kernel)
theorem eX5 : vwCl[4]? = some (RX5, TX5, 2) := rfl
theorem aX5 : Cond.instantiable RX5 2 ∈ lw_g := lwg_at 101 (by decide +kernel) rfl
theorem zX5 : Cond.initialized RX5 ∈ lw_g := lwg_at 69 (by decide +kernel) rfl
theorem hX6 : ∀ w ∈ u_ws RX6 TX6 2, w ∈ lw_g := lwg_all [338, 340] (by decide +kernel) (by decide +kernel)
theorem eX6 : vwCl[5]? = some (RX6, TX6, 2) := rfl
theorem aX6 : Cond.instantiable RX6 2 ∈ lw_g := lwg_at 328 (by decide +kernel) rfl
theorem zX6 : Cond.initialized RX6 ∈ lw_g := lwg_at 77 (by decide +kernel) rfl
theorem hX7 : ∀ w ∈ u_ws RX7 TX7 7, w ∈ lw_g := lwg_all [206, 208, 210, 212, 214, 216, 218] (by decide +kernel) (by decide +kernel)
theorem eX7 : vwCl[6]? = some (RX7, TX7, 7) := rfl
theorem aX7 : Cond.instantiable RX7 7 ∈ lw_g := lwg_at 89 (by decide +kernel) rfl
theorem zX7 : Cond.initialized RX7 ∈ lw_g := lwg_at 67 (by decide +kernel) rfl
theorem hX8 : ∀ w ∈ u_ws RX8 TX8 3, w ∈ lw_g := lwg_all [181, 183, 185] (by decide +kernel) (by decide +kernel)
theorem eX8 : vwCl[7]? = some (RX8, TX8, 3) := rfl
theorem aX8 : Cond.instantiable RX8 3 ∈ lw_g := lwg_at 171 (by decide +kernel) rfl
theorem zX8 : Cond.initialized RX8 ∈ lw_g := lwg_at 72 (by decide +kernel) rfl
theorem hX9 : ∀ w ∈ u_ws RX9 TX9 9, w ∈ lw_g := lwg_all [286, 288, 290, 292, 294, 296, 298, 300, 302] (by decide +kernel) (by decide +kernel)
theorem eX9 : vwCl[8]? = some (RX9, TX9, 9) := rfl
theorem aX9 : Cond.instantiable RX9 9 ∈ lw_g := lwg_at 268 (by decide +kernel) rfl
theorem zX9 : Cond.initialized RX9 ∈ lw_g := lwg_at 75 (by decide +kernel) rfl
theorem hX10 : ∀ w ∈ u_ws RX10 TX10 4, w ∈ lw_g := lwg_all [317, 319, 321, 323] (by decide +kernel) (by decide +kernel)
theorem eX10 : vwCl[9]? = some (RX10, TX10, 4) := rfl
theorem aX10 : Cond.instantiable RX10 4 ∈ lw_g := lwg_at 306 (by decide +kernel) rfl
theorem zX10 : Cond.initialized RX10 ∈ lw_g := lwg_at 76 (by decide +kernel) rfl
theorem hX11 : ∀ w ∈ u_ws RX11 TX11 9, w ∈ lw_g := lwg_all [355, 357, 359, 361, 363, 365, 367, 369, 371] (by decide +kernel) (by decide +kernel)
theorem eX11 : vwCl[10]? = some (RX11, TX11, 9) := rfl
theorem aX11 : Cond.instantiable RX11 9 ∈ lw_g := lwg_at 81 (by decide +kernel) rfl
theorem zX11 : Cond.initialized RX11 ∈ lw_g := lwg_at 66 (by decide +kernel) rfl
theorem hX12 : ∀ w ∈ u_ws RX12 TX12 30, w ∈ lw_g := lwg_all [1117, 1119, 1121, 1123, 1125, 1127, 1129, 1131, 1133, 1135, 1137, 1139, 1141, 1143, 1145, 1147, 1149, 1151, 1153, 1155, 1157, 1159, 1161, 1163, 1165, 1167, 1169, 1171, 1173, 1175] (by decide +kernel) (by decide +kernel)
theorem eX12 : vwCl[11]? = some (RX12, TX12, 30) := rfl
theorem aX12 : Cond.instantiable RX12 30 ∈ lw_g := lwg_at 1078 (by decide +kernel) rfl
theorem zX12 : Cond.initialized RX12 ∈ lw_g := lwg_at 78 (by decide +kernel) rfl
theorem z_math : Cond.initialized "java/lang/Math" ∈ lw_g := lwg_at 70 (by decide +kernel) rfl
theorem a_int : Cond.arrayClass .int ∈ lw_g := lwg_at 116 (by decide +kernel) rfl
theorem oi_i : Cond.instanceMethod objectInit ∈ lw_g := lwg_at 86 (by decide +kernel) rfl
theorem oi_c : Cond.code objectInit ⟨#[0xb1]⟩ 1 none ∈ lw_g := lwg_at 87 (by decide +kernel) rfl
theorem ma_s_max : Cond.static Lib.Math.max.name ∈ lw_g := lwg_at 107 (by decide +kernel) rfl
theorem ma_c_max : Cond.code Lib.Math.max.name Lib.Math.max.code 2 (some .int) ∈ lw_g := lwg_at 108 (by decide +kernel) rfl
theorem ma_s_min : Cond.static Lib.Math.min.name ∈ lw_g := lwg_at 122 (by decide +kernel) rfl
theorem ma_c_min : Cond.code Lib.Math.min.name Lib.Math.min.code 2 (some .int) ∈ lw_g := lwg_at 123 (by decide +kernel) rfl
theorem ma_s_abs : Cond.static Lib.Math.abs.name ∈ lw_g := lwg_at 729 (by decide +kernel) rfl
theorem ma_c_abs : Cond.code Lib.Math.abs.name Lib.Math.abs.code 1 (some .int) ∈ lw_g := lwg_at 730 (by decide +kernel) rfl
abbrev mX0_init : MI := (yX0_init, cX0_init, 1, none, 0)
theorem kX0_init : Lk mX0_init 0 := ⟨lwg_at 98 (by decide +kernel) rfl, zX0, ⟨by decide +kernel, by decide +kernel⟩, by decide +kernel⟩
theorem iX0_init : Cond.instanceMethod yX0_init ∈ lw_g := lwg_at 97 (by decide +kernel) rfl
abbrev mX0_build : MI := (yX0_build, cX0_build, 3, none, 0)
theorem kX0_build : Lk mX0_build 2 := ⟨lwg_at 397 (by decide +kernel) rfl, zX0, ⟨by decide +kernel, by decide +kernel⟩, by decide +kernel⟩
theorem iX0_build : Cond.instanceMethod yX0_build ∈ lw_g := lwg_at 395 (by decide +kernel) rfl
theorem vX0_build : Cond.selects RX0 yX0_build yX0_build ∈ lw_g := lwg_at 396 (by decide +kernel) rfl
abbrev mX0_rows : MI := (yX0_rows, cX0_rows, 1, some .int, 0)
theorem kX0_rows : Lk mX0_rows 0 := ⟨lwg_at 726 (by decide +kernel) rfl, zX0, ⟨by decide +kernel, by decide +kernel⟩, by decide +kernel⟩
theorem iX0_rows : Cond.instanceMethod yX0_rows ∈ lw_g := lwg_at 724 (by decide +kernel) rfl
theorem vX0_rows : Cond.selects RX0 yX0_rows yX0_rows ∈ lw_g := lwg_at 725 (by decide +kernel) rfl
abbrev mX0_strips : MI := (yX0_strips, cX0_strips, 1, some .int, 0)
theorem kX0_strips : Lk mX0_strips 0 := ⟨lwg_at 704 (by decide +kernel) rfl, zX0, ⟨by decide +kernel, by decide +kernel⟩, by decide +kernel⟩
theorem iX0_strips : Cond.instanceMethod yX0_strips ∈ lw_g := lwg_at 702 (by decide +kernel) rfl
theorem vX0_strips : Cond.selects RX0 yX0_strips yX0_strips ∈ lw_g := lwg_at 703 (by decide +kernel) rfl
abbrev mX0_cells : MI := (yX0_cells, cX0_cells, 1, some .int, 0)
theorem kX0_cells : Lk mX0_cells 0 := ⟨lwg_at 1056 (by decide +kernel) rfl, zX0, ⟨by decide +kernel, by decide +kernel⟩, by decide +kernel⟩
theorem iX0_cells : Cond.instanceMethod yX0_cells ∈ lw_g := lwg_at 1054 (by decide +kernel) rfl
theorem vX0_cells : Cond.selects RX0 yX0_cells yX0_cells ∈ lw_g := lwg_at 1055 (by decide +kernel) rfl
abbrev mX0_minute : MI := (yX0_minute, cX0_minute, 1, some .int, 0)
theorem kX0_minute : Lk mX0_minute 0 := ⟨lwg_at 677 (by decide +kernel) rfl, zX0, ⟨by decide +kernel, by decide +kernel⟩, by decide +kernel⟩
theorem iX0_minute : Cond.instanceMethod yX0_minute ∈ lw_g := lwg_at 675 (by decide +kernel) rfl
theorem vX0_minute : Cond.selects RX0 yX0_minute yX0_minute ∈ lw_g := lwg_at 676 (by decide +kernel) rfl
abbrev mX0_heat : MI := (yX0_heat, cX0_heat, 1, some .int, 0)
theorem kX0_heat : Lk mX0_heat 0 := ⟨lwg_at 445 (by decide +kernel) rfl, zX0, ⟨by decide +kernel, by decide +kernel⟩, by decide +kernel⟩
theorem iX0_heat : Cond.instanceMethod yX0_heat ∈ lw_g := lwg_at 443 (by decide +kernel) rfl
theorem vX0_heat : Cond.selects RX0 yX0_heat yX0_heat ∈ lw_g := lwg_at 444 (by decide +kernel) rfl
abbrev mX0_left : MI := (yX0_left, cX0_left, 1, some .int, 0)
theorem kX0_left : Lk mX0_left 0 := ⟨lwg_at 1064 (by decide +kernel) rfl, zX0, ⟨by decide +kernel, by decide +kernel⟩, by decide +kernel⟩
theorem iX0_left : Cond.instanceMethod yX0_left ∈ lw_g := lwg_at 1062 (by decide +kernel) rfl
theorem vX0_left : Cond.selects RX0 yX0_left yX0_left ∈ lw_g := lwg_at 1063 (by decide +kernel) rfl
abbrev mX0_canWhite : MI := (yX0_canWhite, cX0_canWhite, 1, some .int, 0)
theorem kX0_canWhite : Lk mX0_canWhite 0 := ⟨lwg_at 1068 (by decide +kernel) rfl, zX0, ⟨by decide +kernel, by decide +kernel⟩, by decide +kernel⟩
theorem iX0_canWhite : Cond.instanceMethod yX0_canWhite ∈ lw_g := lwg_at 1066 (by decide +kernel) rfl
theorem vX0_canWhite : Cond.selects RX0 yX0_canWhite yX0_canWhite ∈ lw_g := lwg_at 1067 (by decide +kernel) rfl
abbrev mX0_canSize : MI := (yX0_canSize, cX0_canSize, 1, some .int, 0)
theorem kX0_canSize : Lk mX0_canSize 0 := ⟨lwg_at 1072 (by decide +kernel) rfl, zX0, ⟨by decide +kernel, by decide +kernel⟩, by decide +kernel⟩
theorem iX0_canSize : Cond.instanceMethod yX0_canSize ∈ lw_g := lwg_at 1070 (by decide +kernel) rfl
theorem vX0_canSize : Cond.selects RX0 yX0_canSize yX0_canSize ∈ lw_g := lwg_at 1071 (by decide +kernel) rfl
abbrev mX0_cansBegun : MI := (yX0_cansBegun, cX0_cansBegun, 1, some .int, 0)
theorem kX0_cansBegun : Lk mX0_cansBegun 0 := ⟨lwg_at 880 (by decide +kernel) rfl, zX0, ⟨by decide +kernel, by decide +kernel⟩, by decide +kernel⟩
theorem iX0_cansBegun : Cond.instanceMethod yX0_cansBegun ∈ lw_g := lwg_at 878 (by decide +kernel) rfl
theorem vX0_cansBegun : Cond.selects RX0 yX0_cansBegun yX0_cansBegun ∈ lw_g := lwg_at 879 (by decide +kernel) rfl
abbrev mX0_isCell : MI := (yX0_isCell, cX0_isCell, 2, some .boolean, 0)
theorem kX0_isCell : Lk mX0_isCell 1 := ⟨lwg_at 416 (by decide +kernel) rfl, zX0, ⟨by decide +kernel, by decide +kernel⟩, by decide +kernel⟩
theorem iX0_isCell : Cond.instanceMethod yX0_isCell ∈ lw_g := lwg_at 414 (by decide +kernel) rfl
theorem vX0_isCell : Cond.selects RX0 yX0_isCell yX0_isCell ∈ lw_g := lwg_at 415 (by decide +kernel) rfl
abbrev mX0_isStrip : MI := (yX0_isStrip, cX0_isStrip, 2, some .boolean, 0)
theorem kX0_isStrip : Lk mX0_isStrip 1 := ⟨lwg_at 436 (by decide +kernel) rfl, zX0, ⟨by decide +kernel, by decide +kernel⟩, by decide +kernel⟩
theorem iX0_isStrip : Cond.instanceMethod yX0_isStrip ∈ lw_g := lwg_at 434 (by decide +kernel) rfl
theorem vX0_isStrip : Cond.selects RX0 yX0_isStrip yX0_isStrip ∈ lw_g := lwg_at 435 (by decide +kernel) rfl
abbrev mX0_rowOf : MI := (yX0_rowOf, cX0_rowOf, 2, some .int, 0)
theorem kX0_rowOf : Lk mX0_rowOf 1 := ⟨lwg_at 424 (by decide +kernel) rfl, zX0, ⟨by decide +kernel, by decide +kernel⟩, by decide +kernel⟩
theorem iX0_rowOf : Cond.instanceMethod yX0_rowOf ∈ lw_g := lwg_at 422 (by decide +kernel) rfl
theorem vX0_rowOf : Cond.selects RX0 yX0_rowOf yX0_rowOf ∈ lw_g := lwg_at 423 (by decide +kernel) rfl
abbrev mX0_stripOf : MI := (yX0_stripOf, cX0_stripOf, 2, some .int, 0)
theorem kX0_stripOf : Lk mX0_stripOf 1 := ⟨lwg_at 428 (by decide +kernel) rfl, zX0, ⟨by decide +kernel, by decide +kernel⟩, by decide +kernel⟩
theorem iX0_stripOf : Cond.instanceMethod yX0_stripOf ∈ lw_g := lwg_at 426 (by decide +kernel) rfl
theorem vX0_stripOf : Cond.selects RX0 yX0_stripOf yX0_stripOf ∈ lw_g := lwg_at 427 (by decide +kernel) rfl
abbrev mX0_whenAt : MI := (yX0_whenAt, cX0_whenAt, 3, some .int, 0)
theorem kX0_whenAt : Lk mX0_whenAt 2 := ⟨lwg_at 432 (by decide +kernel) rfl, zX0, ⟨by decide +kernel, by decide +kernel⟩, by decide +kernel⟩
theorem iX0_whenAt : Cond.instanceMethod yX0_whenAt ∈ lw_g := lwg_at 430 (by decide +kernel) rfl
theorem vX0_whenAt : Cond.selects RX0 yX0_whenAt yX0_whenAt ∈ lw_g := lwg_at 431 (by decide +kernel) rfl
abbrev mX0_whiteAt : MI := (yX0_whiteAt, cX0_whiteAt, 3, some .int, 0)
theorem kX0_whiteAt : Lk mX0_whiteAt 2 := ⟨lwg_at 441 (by decide +kernel) rfl, zX0, ⟨by decide +kernel, by decide +kernel⟩, by decide +kernel⟩
theorem iX0_whiteAt : Cond.instanceMethod yX0_whiteAt ∈ lw_g := lwg_at 439 (by decide +kernel) rfl
theorem vX0_whiteAt : Cond.selects RX0 yX0_whiteAt yX0_whiteAt ∈ lw_g := lwg_at 440 (by decide +kernel) rfl
abbrev mX0_rolledCells : MI := (yX0_rolledCells, cX0_rolledCells, 3, some .int, 0)
theorem kX0_rolledCells : Lk mX0_rolledCells 0 := ⟨lwg_at 1060 (by decide +kernel) rfl, zX0, ⟨by decide +kernel, by decide +kernel⟩, by decide +kernel⟩
theorem iX0_rolledCells : Cond.instanceMethod yX0_rolledCells ∈ lw_g := lwg_at 1058 (by decide +kernel) rfl
theorem vX0_rolledCells : Cond.selects RX0 yX0_rolledCells yX0_rolledCells ∈ lw_g := lwg_at 1059 (by decide +kernel) rfl
abbrev mX0_isSetting : MI := (yX0_isSetting, cX0_isSetting, 2, some .boolean, 0)
theorem kX0_isSetting : Lk mX0_isSetting 2 := ⟨lwg_at 404 (by decide +kernel) rfl, zX0, ⟨by decide +kernel, by decide +kernel⟩, by decide +kernel⟩
theorem sX0_isSetting : Cond.static yX0_isSetting ∈ lw_g := lwg_at 403 (by decide +kernel) rfl
abbrev mX0_change : MI := (yX0_change, cX0_change, 4, some .int, 0)
theorem kX0_change : Lk mX0_change 2 := ⟨lwg_at 408 (by decide +kernel) rfl, zX0, ⟨by decide +kernel, by decide +kernel⟩, by decide +kernel⟩
theorem iX0_change : Cond.instanceMethod yX0_change ∈ lw_g := lwg_at 406 (by decide +kernel) rfl
theorem vX0_change : Cond.selects RX0 yX0_change yX0_change ∈ lw_g := lwg_at 407 (by decide +kernel) rfl
abbrev mX0_warmTo : MI := (yX0_warmTo, cX0_warmTo, 2, none, 0)
theorem kX0_warmTo : Lk mX0_warmTo 1 := ⟨lwg_at 835 (by decide +kernel) rfl, zX0, ⟨by decide +kernel, by decide +kernel⟩, by decide +kernel⟩
theorem iX0_warmTo : Cond.instanceMethod yX0_warmTo ∈ lw_g := lwg_at 833 (by decide +kernel) rfl
theorem vX0_warmTo : Cond.selects RX0 yX0_warmTo yX0_warmTo ∈ lw_g := lwg_at 834 (by decide +kernel) rfl
abbrev mX0_mayBeRolled : MI := (yX0_mayBeRolled, cX0_mayBeRolled, 1, some .boolean, 0)
theorem kX0_mayBeRolled : Lk mX0_mayBeRolled 0 := ⟨lwg_at 657 (by decide +kernel) rfl, zX0, ⟨by decide +kernel, by decide +kernel⟩, by decide +kernel⟩
theorem iX0_mayBeRolled : Cond.instanceMethod yX0_mayBeRolled ∈ lw_g := lwg_at 655 (by decide +kernel) rfl
theorem vX0_mayBeRolled : Cond.selects RX0 yX0_mayBeRolled yX0_mayBeRolled ∈ lw_g := lwg_at 656 (by decide +kernel) rfl
abbrev mX0_letPass : MI := (yX0_letPass, cX0_letPass, 2, none, 0)
theorem kX0_letPass : Lk mX0_letPass 1 := ⟨lwg_at 685 (by decide +kernel) rfl, zX0, ⟨by decide +kernel, by decide +kernel⟩, by decide +kernel⟩
theorem iX0_letPass : Cond.instanceMethod yX0_letPass ∈ lw_g := lwg_at 683 (by decide +kernel) rfl
theorem vX0_letPass : Cond.selects RX0 yX0_letPass yX0_letPass ∈ lw_g := lwg_at 684 (by decide +kernel) rfl
abbrev mX0_letPassWithinBounds : MI := (yX0_letPassWithinBounds, cX0_letPassWithinBounds, 2, none, 0)
theorem kX0_letPassWithinBounds : Lk mX0_letPassWithinBounds 1 := ⟨lwg_at 708 (by decide +kernel) rfl, zX0, ⟨by decide +kernel, by decide +kernel⟩, by decide +kernel⟩
theorem iX0_letPassWithinBounds : Cond.instanceMethod yX0_letPassWithinBounds ∈ lw_g := lwg_at 706 (by decide +kernel) rfl
theorem vX0_letPassWithinBounds : Cond.selects RX0 yX0_letPassWithinBounds yX0_letPassWithinBounds ∈ lw_g := lwg_at 707 (by decide +kernel) rfl
abbrev mX0_paint : MI := (yX0_paint, cX0_paint, 8, none, 0)
theorem kX0_paint : Lk mX0_paint 4 := ⟨lwg_at 661 (by decide +kernel) rfl, zX0, ⟨by decide +kernel, by decide +kernel⟩, by decide +kernel⟩
theorem iX0_paint : Cond.instanceMethod yX0_paint ∈ lw_g := lwg_at 659 (by decide +kernel) rfl
theorem vX0_paint : Cond.selects RX0 yX0_paint yX0_paint ∈ lw_g := lwg_at 660 (by decide +kernel) rfl
abbrev mX0_openCan : MI := (yX0_openCan, cX0_openCan, 1, none, 0)
theorem kX0_openCan : Lk mX0_openCan 0 := ⟨lwg_at 666 (by decide +kernel) rfl, zX0, ⟨by decide +kernel, by decide +kernel⟩, by decide +kernel⟩
theorem iX0_openCan : Cond.instanceMethod yX0_openCan ∈ lw_g := lwg_at 665 (by decide +kernel) rfl
theorem vX0_openCan : Cond.selects RX0 yX0_openCan yX0_openCan ∈ lw_g := lwg_at 12 (by decide +kernel) rfl
abbrev mX0_whiten : MI := (yX0_whiten, cX0_whiten, 5, some .int, 0)
theorem kX0_whiten : Lk mX0_whiten 1 := ⟨lwg_at 1001 (by decide +kernel) rfl, zX0, ⟨by decide +kernel, by decide +kernel⟩, by decide +kernel⟩
theorem iX0_whiten : Cond.instanceMethod yX0_whiten ∈ lw_g := lwg_at 999 (by decide +kernel) rfl
theorem vX0_whiten : Cond.selects RX0 yX0_whiten yX0_whiten ∈ lw_g := lwg_at 1000 (by decide +kernel) rfl
abbrev mX0_firstOtherWhen : MI := (yX0_firstOtherWhen, cX0_firstOtherWhen, 4, some .int, 0)
theorem kX0_firstOtherWhen : Lk mX0_firstOtherWhen 1 := ⟨lwg_at 1010 (by decide +kernel) rfl, zX0, ⟨by decide +kernel, by decide +kernel⟩, by decide +kernel⟩
theorem iX0_firstOtherWhen : Cond.instanceMethod yX0_firstOtherWhen ∈ lw_g := lwg_at 1008 (by decide +kernel) rfl
theorem vX0_firstOtherWhen : Cond.selects RX0 yX0_firstOtherWhen yX0_firstOtherWhen ∈ lw_g := lwg_at 1009 (by decide +kernel) rfl
abbrev mX0_take : MI := (yX0_take, cX0_take, 2, none, 0)
theorem kX0_take : Lk mX0_take 1 := ⟨lwg_at 776 (by decide +kernel) rfl, zX0, ⟨by decide +kernel, by decide +kernel⟩, by decide +kernel⟩
theorem iX0_take : Cond.instanceMethod yX0_take ∈ lw_g := lwg_at 774 (by decide +kernel) rfl
theorem vX0_take : Cond.selects RX0 yX0_take yX0_take ∈ lw_g := lwg_at 775 (by decide +kernel) rfl
abbrev mX1_init : MI := (yX1_init, cX1_init, 1, none, 1)
theorem kX1_init : Lk mX1_init 0 := ⟨lwg_at 159 (by decide +kernel) rfl, zX1, ⟨by decide +kernel, by decide +kernel⟩, by decide +kernel⟩
theorem iX1_init : Cond.instanceMethod yX1_init ∈ lw_g := lwg_at 158 (by decide +kernel) rfl
abbrev mX1_size : MI := (yX1_size, cX1_size, 1, some .int, 1)
theorem kX1_size : Lk mX1_size 0 := ⟨lwg_at 493 (by decide +kernel) rfl, zX1, ⟨by decide +kernel, by decide +kernel⟩, by decide +kernel⟩
theorem iX1_size : Cond.instanceMethod yX1_size ∈ lw_g := lwg_at 491 (by decide +kernel) rfl
theorem vX1_size : Cond.selects RX1 yX1_size yX1_size ∈ lw_g := lwg_at 492 (by decide +kernel) rfl
abbrev mX1_isFull : MI := (yX1_isFull, cX1_isFull, 1, some .boolean, 1)
theorem kX1_isFull : Lk mX1_isFull 0 := ⟨lwg_at 489 (by decide +kernel) rfl, zX1, ⟨by decide +kernel, by decide +kernel⟩, by decide +kernel⟩
theorem iX1_isFull : Cond.instanceMethod yX1_isFull ∈ lw_g := lwg_at 487 (by decide +kernel) rfl
theorem vX1_isFull : Cond.selects RX1 yX1_isFull yX1_isFull ∈ lw_g := lwg_at 488 (by decide +kernel) rfl
abbrev mX1_has : MI := (yX1_has, cX1_has, 2, some .boolean, 1)
theorem kX1_has : Lk mX1_has 1 := ⟨lwg_at 510 (by decide +kernel) rfl, zX1, ⟨by decide +kernel, by decide +kernel⟩, by decide +kernel⟩
theorem iX1_has : Cond.instanceMethod yX1_has ∈ lw_g := lwg_at 508 (by decide +kernel) rfl
theorem vX1_has : Cond.selects RX1 yX1_has yX1_has ∈ lw_g := lwg_at 509 (by decide +kernel) rfl
abbrev mX1_kindOf : MI := (yX1_kindOf, cX1_kindOf, 2, some .int, 1)
theorem kX1_kindOf : Lk mX1_kindOf 1 := ⟨lwg_at 515 (by decide +kernel) rfl, zX1, ⟨by decide +kernel, by decide +kernel⟩, by decide +kernel⟩
theorem iX1_kindOf : Cond.instanceMethod yX1_kindOf ∈ lw_g := lwg_at 513 (by decide +kernel) rfl
theorem vX1_kindOf : Cond.selects RX1 yX1_kindOf yX1_kindOf ∈ lw_g := lwg_at 514 (by decide +kernel) rfl
abbrev mX1_numberOf : MI := (yX1_numberOf, cX1_numberOf, 2, some .int, 1)
theorem kX1_numberOf : Lk mX1_numberOf 1 := ⟨lwg_at 520 (by decide +kernel) rfl, zX1, ⟨by decide +kernel, by decide +kernel⟩, by decide +kernel⟩
theorem iX1_numberOf : Cond.instanceMethod yX1_numberOf ∈ lw_g := lwg_at 518 (by decide +kernel) rfl
theorem vX1_numberOf : Cond.selects RX1 yX1_numberOf yX1_numberOf ∈ lw_g := lwg_at 519 (by decide +kernel) rfl
abbrev mX1_join : MI := (yX1_join, cX1_join, 2, some .int, 1)
theorem kX1_join : Lk mX1_join 1 := ⟨lwg_at 498 (by decide +kernel) rfl, zX1, ⟨by decide +kernel, by decide +kernel⟩, by decide +kernel⟩
theorem iX1_join : Cond.instanceMethod yX1_join ∈ lw_g := lwg_at 496 (by decide +kernel) rfl
theorem vX1_join : Cond.selects RX1 yX1_join yX1_join ∈ lw_g := lwg_at 497 (by decide +kernel) rfl
abbrev mX1_turnInto : MI := (yX1_turnInto, cX1_turnInto, 4, some .int, 1)
theorem kX1_turnInto : Lk mX1_turnInto 2 := ⟨lwg_at 537 (by decide +kernel) rfl, zX1, ⟨by decide +kernel, by decide +kernel⟩, by decide +kernel⟩
theorem iX1_turnInto : Cond.instanceMethod yX1_turnInto ∈ lw_g := lwg_at 535 (by decide +kernel) rfl
theorem vX1_turnInto : Cond.selects RX1 yX1_turnInto yX1_turnInto ∈ lw_g := lwg_at 536 (by decide +kernel) rfl
abbrev mX1_take : MI := (yX1_take, cX1_take, 2, none, 1)
theorem kX1_take : Lk mX1_take 1 := ⟨lwg_at 1023 (by decide +kernel) rfl, zX1, ⟨by decide +kernel, by decide +kernel⟩, by decide +kernel⟩
theorem iX1_take : Cond.instanceMethod yX1_take ∈ lw_g := lwg_at 1021 (by decide +kernel) rfl
theorem vX1_take : Cond.selects RX1 yX1_take yX1_take ∈ lw_g := lwg_at 1022 (by decide +kernel) rfl
abbrev mX2_init : MI := (yX2_init, cX2_init, 3, none, 2)
theorem kX2_init : Lk mX2_init 2 := ⟨lwg_at 249 (by decide +kernel) rfl, zX2, ⟨by decide +kernel, by decide +kernel⟩, by decide +kernel⟩
theorem iX2_init : Cond.instanceMethod yX2_init ∈ lw_g := lwg_at 248 (by decide +kernel) rfl
abbrev mX2_forget : MI := (yX2_forget, cX2_forget, 1, none, 2)
theorem kX2_forget : Lk mX2_forget 0 := ⟨lwg_at 642 (by decide +kernel) rfl, zX2, ⟨by decide +kernel, by decide +kernel⟩, by decide +kernel⟩
theorem iX2_forget : Cond.instanceMethod yX2_forget ∈ lw_g := lwg_at 640 (by decide +kernel) rfl
theorem vX2_forget : Cond.selects RX2 yX2_forget yX2_forget ∈ lw_g := lwg_at 641 (by decide +kernel) rfl
abbrev mX2_driesOf : MI := (yX2_driesOf, cX2_driesOf, 5, some .int, 2)
theorem kX2_driesOf : Lk mX2_driesOf 3 := ⟨lwg_at 449 (by decide +kernel) rfl, zX2, ⟨by decide +kernel, by decide +kernel⟩, by decide +kernel⟩
theorem iX2_driesOf : Cond.instanceMethod yX2_driesOf ∈ lw_g := lwg_at 447 (by decide +kernel) rfl
theorem vX2_driesOf : Cond.selects RX2 yX2_driesOf yX2_driesOf ∈ lw_g := lwg_at 448 (by decide +kernel) rfl
abbrev mX2_lightOf : MI := (yX2_lightOf, cX2_lightOf, 5, some .int, 2)
theorem kX2_lightOf : Lk mX2_lightOf 3 := ⟨lwg_at 734 (by decide +kernel) rfl, zX2, ⟨by decide +kernel, by decide +kernel⟩, by decide +kernel⟩
theorem iX2_lightOf : Cond.instanceMethod yX2_lightOf ∈ lw_g := lwg_at 732 (by decide +kernel) rfl
theorem vX2_lightOf : Cond.selects RX2 yX2_lightOf yX2_lightOf ∈ lw_g := lwg_at 733 (by decide +kernel) rfl
abbrev mX2_isSeam : MI := (yX2_isSeam, cX2_isSeam, 10, some .boolean, 2)
theorem kX2_isSeam : Lk mX2_isSeam 6 := ⟨lwg_at 474 (by decide +kernel) rfl, zX2, ⟨by decide +kernel, by decide +kernel⟩, by decide +kernel⟩
theorem iX2_isSeam : Cond.instanceMethod yX2_isSeam ∈ lw_g := lwg_at 472 (by decide +kernel) rfl
theorem vX2_isSeam : Cond.selects RX2 yX2_isSeam yX2_isSeam ∈ lw_g := lwg_at 473 (by decide +kernel) rfl
abbrev mX2_seenBetween : MI := (yX2_seenBetween, cX2_seenBetween, 8, some .int, 2)
theorem kX2_seenBetween : Lk mX2_seenBetween 5 := ⟨lwg_at 722 (by decide +kernel) rfl, zX2, ⟨by decide +kernel, by decide +kernel⟩, by decide +kernel⟩
theorem iX2_seenBetween : Cond.instanceMethod yX2_seenBetween ∈ lw_g := lwg_at 720 (by decide +kernel) rfl
theorem vX2_seenBetween : Cond.selects RX2 yX2_seenBetween yX2_seenBetween ∈ lw_g := lwg_at 721 (by decide +kernel) rfl
abbrev mX2_seen : MI := (yX2_seen, cX2_seen, 4, some .int, 2)
theorem kX2_seen : Lk mX2_seen 1 := ⟨lwg_at 717 (by decide +kernel) rfl, zX2, ⟨by decide +kernel, by decide +kernel⟩, by decide +kernel⟩
theorem iX2_seen : Cond.instanceMethod yX2_seen ∈ lw_g := lwg_at 715 (by decide +kernel) rfl
theorem vX2_seen : Cond.selects RX2 yX2_seen yX2_seen ∈ lw_g := lwg_at 716 (by decide +kernel) rfl
abbrev mX2_countSeams : MI := (yX2_countSeams, cX2_countSeams, 5, some .int, 2)
theorem kX2_countSeams : Lk mX2_countSeams 1 := ⟨lwg_at 742 (by decide +kernel) rfl, zX2, ⟨by decide +kernel, by decide +kernel⟩, by decide +kernel⟩
theorem iX2_countSeams : Cond.instanceMethod yX2_countSeams ∈ lw_g := lwg_at 740 (by decide +kernel) rfl
theorem vX2_countSeams : Cond.selects RX2 yX2_countSeams yX2_countSeams ∈ lw_g := lwg_at 741 (by decide +kernel) rfl
abbrev mX3_isKind : MI := (yX3_isKind, cX3_isKind, 1, some .boolean, 99)
theorem kX3_isKind : Lk mX3_isKind 1 := ⟨lwg_at 546 (by decide +kernel) rfl, zX3, ⟨by decide +kernel, by decide +kernel⟩, by decide +kernel⟩
theorem sX3_isKind : Cond.static yX3_isKind ∈ lw_g := lwg_at 545 (by decide +kernel) rfl
abbrev mX3_isKindAndNumber : MI := (yX3_isKindAndNumber, cX3_isKindAndNumber, 1, some .boolean, 99)
theorem kX3_isKindAndNumber : Lk mX3_isKindAndNumber 1 := ⟨lwg_at 485 (by decide +kernel) rfl, zX3, ⟨by decide +kernel, by decide +kernel⟩, by decide +kernel⟩
theorem sX3_isKindAndNumber : Cond.static yX3_isKindAndNumber ∈ lw_g := lwg_at 484 (by decide +kernel) rfl
abbrev mX3_above : MI := (yX3_above, cX3_above, 1, some .int, 99)
theorem kX3_above : Lk mX3_above 1 := ⟨lwg_at 552 (by decide +kernel) rfl, zX3, ⟨by decide +kernel, by decide +kernel⟩, by decide +kernel⟩
theorem sX3_above : Cond.static yX3_above ∈ lw_g := lwg_at 551 (by decide +kernel) rfl
abbrev mX3_isUnder : MI := (yX3_isUnder, cX3_isUnder, 4, some .boolean, 99)
theorem kX3_isUnder : Lk mX3_isUnder 2 := ⟨lwg_at 549 (by decide +kernel) rfl, zX3, ⟨by decide +kernel, by decide +kernel⟩, by decide +kernel⟩
theorem sX3_isUnder : Cond.static yX3_isUnder ∈ lw_g := lwg_at 548 (by decide +kernel) rfl
abbrev mX3_pace : MI := (yX3_pace, cX3_pace, 3, some .int, 99)
theorem kX3_pace : Lk mX3_pace 3 := ⟨lwg_at 523 (by decide +kernel) rfl, zX3, ⟨by decide +kernel, by decide +kernel⟩, by decide +kernel⟩
theorem sX3_pace : Cond.static yX3_pace ∈ lw_g := lwg_at 522 (by decide +kernel) rfl
abbrev mX3_load : MI := (yX3_load, cX3_load, 2, some .int, 99)
theorem kX3_load : Lk mX3_load 2 := ⟨lwg_at 526 (by decide +kernel) rfl, zX3, ⟨by decide +kernel, by decide +kernel⟩, by decide +kernel⟩
theorem sX3_load : Cond.static yX3_load ∈ lw_g := lwg_at 525 (by decide +kernel) rfl
abbrev mX3_uses : MI := (yX3_uses, cX3_uses, 2, some .int, 99)
theorem kX3_uses : Lk mX3_uses 2 := ⟨lwg_at 529 (by decide +kernel) rfl, zX3, ⟨by decide +kernel, by decide +kernel⟩, by decide +kernel⟩
theorem sX3_uses : Cond.static yX3_uses ∈ lw_g := lwg_at 528 (by decide +kernel) rfl
abbrev mX3_minutesFor : MI := (yX3_minutesFor, cX3_minutesFor, 5, some .int, 99)
theorem kX3_minutesFor : Lk mX3_minutesFor 3 := ⟨lwg_at 670 (by decide +kernel) rfl, zX3, ⟨by decide +kernel, by decide +kernel⟩, by decide +kernel⟩
theorem sX3_minutesFor : Cond.static yX3_minutesFor ∈ lw_g := lwg_at 669 (by decide +kernel) rfl
abbrev mX3_leastBy : MI := (yX3_leastBy, cX3_leastBy, 4, some .int, 99)
theorem kX3_leastBy : Lk mX3_leastBy 3 := ⟨lwg_at 888 (by decide +kernel) rfl, zX3, ⟨by decide +kernel, by decide +kernel⟩, by decide +kernel⟩
theorem sX3_leastBy : Cond.static yX3_leastBy ∈ lw_g := lwg_at 887 (by decide +kernel) rfl
abbrev mX3_doesAt : MI := (yX3_doesAt, cX3_doesAt, 6, some .boolean, 99)
theorem kX3_doesAt : Lk mX3_doesAt 4 := ⟨lwg_at 891 (by decide +kernel) rfl, zX3, ⟨by decide +kernel, by decide +kernel⟩, by decide +kernel⟩
theorem sX3_doesAt : Cond.static yX3_doesAt ∈ lw_g := lwg_at 890 (by decide +kernel) rfl
abbrev mX4_init : MI := (yX4_init, cX4_init, 1, none, 3)
theorem kX4_init : Lk mX4_init 0 := ⟨lwg_at 225 (by decide +kernel) rfl, zX4, ⟨by decide +kernel, by decide +kernel⟩, by decide +kernel⟩
theorem iX4_init : Cond.instanceMethod yX4_init ∈ lw_g := lwg_at 224 (by decide +kernel) rfl
abbrev mX4_read : MI := (yX4_read, cX4_read, 3, some .int, 3)
theorem kX4_read : Lk mX4_read 2 := ⟨lwg_at 573 (by decide +kernel) rfl, zX4, ⟨by decide +kernel, by decide +kernel⟩, by decide +kernel⟩
theorem iX4_read : Cond.instanceMethod yX4_read ∈ lw_g := lwg_at 571 (by decide +kernel) rfl
theorem vX4_read : Cond.selects RX4 yX4_read yX4_read ∈ lw_g := lwg_at 572 (by decide +kernel) rfl
abbrev mX4_next : MI := (yX4_next, cX4_next, 1, some .int, 3)
theorem kX4_next : Lk mX4_next 0 := ⟨lwg_at 605 (by decide +kernel) rfl, zX4, ⟨by decide +kernel, by decide +kernel⟩, by decide +kernel⟩
theorem iX4_next : Cond.instanceMethod yX4_next ∈ lw_g := lwg_at 604 (by decide +kernel) rfl
theorem vX4_next : Cond.selects RX4 yX4_next yX4_next ∈ lw_g := lwg_at 8 (by decide +kernel) rfl
abbrev mX4_nextIs : MI := (yX4_nextIs, cX4_nextIs, 2, some .boolean, 3)
theorem kX4_nextIs : Lk mX4_nextIs 1 := ⟨lwg_at 627 (by decide +kernel) rfl, zX4, ⟨by decide +kernel, by decide +kernel⟩, by decide +kernel⟩
theorem iX4_nextIs : Cond.instanceMethod yX4_nextIs ∈ lw_g := lwg_at 626 (by decide +kernel) rfl
theorem vX4_nextIs : Cond.selects RX4 yX4_nextIs yX4_nextIs ∈ lw_g := lwg_at 11 (by decide +kernel) rfl
abbrev mX4_emit : MI := (yX4_emit, cX4_emit, 2, none, 3)
theorem kX4_emit : Lk mX4_emit 1 := ⟨lwg_at 623 (by decide +kernel) rfl, zX4, ⟨by decide +kernel, by decide +kernel⟩, by decide +kernel⟩
theorem iX4_emit : Cond.instanceMethod yX4_emit ∈ lw_g := lwg_at 622 (by decide +kernel) rfl
theorem vX4_emit : Cond.selects RX4 yX4_emit yX4_emit ∈ lw_g := lwg_at 10 (by decide +kernel) rfl
abbrev mX4_readT : MI := (yX4_readT, cX4_readT, 3, none, 3)
theorem kX4_readT : Lk mX4_readT 1 := ⟨lwg_at 581 (by decide +kernel) rfl, zX4, ⟨by decide +kernel, by decide +kernel⟩, by decide +kernel⟩
theorem iX4_readT : Cond.instanceMethod yX4_readT ∈ lw_g := lwg_at 580 (by decide +kernel) rfl
theorem vX4_readT : Cond.selects RX4 yX4_readT yX4_readT ∈ lw_g := lwg_at 2 (by decide +kernel) rfl
abbrev mX4_readA : MI := (yX4_readA, cX4_readA, 3, none, 3)
theorem kX4_readA : Lk mX4_readA 1 := ⟨lwg_at 585 (by decide +kernel) rfl, zX4, ⟨by decide +kernel, by decide +kernel⟩, by decide +kernel⟩
theorem iX4_readA : Cond.instanceMethod yX4_readA ∈ lw_g := lwg_at 584 (by decide +kernel) rfl
theorem vX4_readA : Cond.selects RX4 yX4_readA yX4_readA ∈ lw_g := lwg_at 3 (by decide +kernel) rfl
abbrev mX4_readB : MI := (yX4_readB, cX4_readB, 3, none, 3)
theorem kX4_readB : Lk mX4_readB 1 := ⟨lwg_at 589 (by decide +kernel) rfl, zX4, ⟨by decide +kernel, by decide +kernel⟩, by decide +kernel⟩
theorem iX4_readB : Cond.instanceMethod yX4_readB ∈ lw_g := lwg_at 588 (by decide +kernel) rfl
theorem vX4_readB : Cond.selects RX4 yX4_readB yX4_readB ∈ lw_g := lwg_at 4 (by decide +kernel) rfl
abbrev mX4_readS : MI := (yX4_readS, cX4_readS, 4, none, 3)
theorem kX4_readS : Lk mX4_readS 1 := ⟨lwg_at 593 (by decide +kernel) rfl, zX4, ⟨by decide +kernel, by decide +kernel⟩, by decide +kernel⟩
theorem iX4_readS : Cond.instanceMethod yX4_readS ∈ lw_g := lwg_at 592 (by decide +kernel) rfl
theorem vX4_readS : Cond.selects RX4 yX4_readS yX4_readS ∈ lw_g := lwg_at 5 (by decide +kernel) rfl
abbrev mX4_readP : MI := (yX4_readP, cX4_readP, 4, none, 3)
theorem kX4_readP : Lk mX4_readP 1 := ⟨lwg_at 597 (by decide +kernel) rfl, zX4, ⟨by decide +kernel, by decide +kernel⟩, by decide +kernel⟩
theorem iX4_readP : Cond.instanceMethod yX4_readP ∈ lw_g := lwg_at 596 (by decide +kernel) rfl
theorem vX4_readP : Cond.selects RX4 yX4_readP yX4_readP ∈ lw_g := lwg_at 6 (by decide +kernel) rfl
abbrev mX4_readQ : MI := (yX4_readQ, cX4_readQ, 3, none, 3)
theorem kX4_readQ : Lk mX4_readQ 1 := ⟨lwg_at 601 (by decide +kernel) rfl, zX4, ⟨by decide +kernel, by decide +kernel⟩, by decide +kernel⟩
theorem iX4_readQ : Cond.instanceMethod yX4_readQ ∈ lw_g := lwg_at 600 (by decide +kernel) rfl
theorem vX4_readQ : Cond.selects RX4 yX4_readQ yX4_readQ ∈ lw_g := lwg_at 7 (by decide +kernel) rfl
abbrev mX4_readNumber : MI := (yX4_readNumber, cX4_readNumber, 3, none, 3)
theorem kX4_readNumber : Lk mX4_readNumber 0 := ⟨lwg_at 614 (by decide +kernel) rfl, zX4, ⟨by decide +kernel, by decide +kernel⟩, by decide +kernel⟩
theorem iX4_readNumber : Cond.instanceMethod yX4_readNumber ∈ lw_g := lwg_at 613 (by decide +kernel) rfl
theorem vX4_readNumber : Cond.selects RX4 yX4_readNumber yX4_readNumber ∈ lw_g := lwg_at 9 (by decide +kernel) rfl
abbrev mX4_isDigit : MI := (yX4_isDigit, cX4_isDigit, 1, some .boolean, 3)
theorem kX4_isDigit : Lk mX4_isDigit 1 := ⟨lwg_at 610 (by decide +kernel) rfl, zX4, ⟨by decide +kernel, by decide +kernel⟩, by decide +kernel⟩
theorem sX4_isDigit : Cond.static yX4_isDigit ∈ lw_g := lwg_at 609 (by decide +kernel) rfl
abbrev mX5_init : MI := (yX5_init, cX5_init, 2, none, 4)
theorem kX5_init : Lk mX5_init 1 := ⟨lwg_at 104 (by decide +kernel) rfl, zX5, ⟨by decide +kernel, by decide +kernel⟩, by decide +kernel⟩
theorem iX5_init : Cond.instanceMethod yX5_init ∈ lw_g := lwg_at 103 (by decide +kernel) rfl
abbrev mX5_length : MI := (yX5_length, cX5_length, 1, some .int, 4)
theorem kX5_length : Lk mX5_length 0 := ⟨lwg_at 458 (by decide +kernel) rfl, zX5, ⟨by decide +kernel, by decide +kernel⟩, by decide +kernel⟩
theorem iX5_length : Cond.instanceMethod yX5_length ∈ lw_g := lwg_at 456 (by decide +kernel) rfl
theorem vX5_length : Cond.selects RX5 yX5_length yX5_length ∈ lw_g := lwg_at 457 (by decide +kernel) rfl
abbrev mX5_has : MI := (yX5_has, cX5_has, 2, some .boolean, 4)
theorem kX5_has : Lk mX5_has 1 := ⟨lwg_at 420 (by decide +kernel) rfl, zX5, ⟨by decide +kernel, by decide +kernel⟩, by decide +kernel⟩
theorem iX5_has : Cond.instanceMethod yX5_has ∈ lw_g := lwg_at 418 (by decide +kernel) rfl
theorem vX5_has : Cond.selects RX5 yX5_has yX5_has ∈ lw_g := lwg_at 419 (by decide +kernel) rfl
abbrev mX5_hasRun : MI := (yX5_hasRun, cX5_hasRun, 3, some .boolean, 4)
theorem kX5_hasRun : Lk mX5_hasRun 2 := ⟨lwg_at 988 (by decide +kernel) rfl, zX5, ⟨by decide +kernel, by decide +kernel⟩, by decide +kernel⟩
theorem iX5_hasRun : Cond.instanceMethod yX5_hasRun ∈ lw_g := lwg_at 986 (by decide +kernel) rfl
theorem vX5_hasRun : Cond.selects RX5 yX5_hasRun yX5_hasRun ∈ lw_g := lwg_at 987 (by decide +kernel) rfl
abbrev mX5_at : MI := (yX5_at, cX5_at, 2, some .int, 4)
theorem kX5_at : Lk mX5_at 1 := ⟨lwg_at 388 (by decide +kernel) rfl, zX5, ⟨by decide +kernel, by decide +kernel⟩, by decide +kernel⟩
theorem iX5_at : Cond.instanceMethod yX5_at ∈ lw_g := lwg_at 386 (by decide +kernel) rfl
theorem vX5_at : Cond.selects RX5 yX5_at yX5_at ∈ lw_g := lwg_at 387 (by decide +kernel) rfl
abbrev mX5_write : MI := (yX5_write, cX5_write, 3, none, 4)
theorem kX5_write : Lk mX5_write 2 := ⟨lwg_at 392 (by decide +kernel) rfl, zX5, ⟨by decide +kernel, by decide +kernel⟩, by decide +kernel⟩
theorem iX5_write : Cond.instanceMethod yX5_write ∈ lw_g := lwg_at 390 (by decide +kernel) rfl
theorem vX5_write : Cond.selects RX5 yX5_write yX5_write ∈ lw_g := lwg_at 391 (by decide +kernel) rfl
abbrev mX5_add : MI := (yX5_add, cX5_add, 2, some .boolean, 4)
theorem kX5_add : Lk mX5_add 1 := ⟨lwg_at 502 (by decide +kernel) rfl, zX5, ⟨by decide +kernel, by decide +kernel⟩, by decide +kernel⟩
theorem iX5_add : Cond.instanceMethod yX5_add ∈ lw_g := lwg_at 500 (by decide +kernel) rfl
theorem vX5_add : Cond.selects RX5 yX5_add yX5_add ∈ lw_g := lwg_at 501 (by decide +kernel) rfl
abbrev mX5_clear : MI := (yX5_clear, cX5_clear, 1, none, 4)
theorem kX5_clear : Lk mX5_clear 0 := ⟨lwg_at 577 (by decide +kernel) rfl, zX5, ⟨by decide +kernel, by decide +kernel⟩, by decide +kernel⟩
theorem iX5_clear : Cond.instanceMethod yX5_clear ∈ lw_g := lwg_at 575 (by decide +kernel) rfl
theorem vX5_clear : Cond.selects RX5 yX5_clear yX5_clear ∈ lw_g := lwg_at 576 (by decide +kernel) rfl
abbrev mX5_fill : MI := (yX5_fill, cX5_fill, 4, none, 4)
theorem kX5_fill : Lk mX5_fill 2 := ⟨lwg_at 120 (by decide +kernel) rfl, zX5, ⟨by decide +kernel, by decide +kernel⟩, by decide +kernel⟩
theorem iX5_fill : Cond.instanceMethod yX5_fill ∈ lw_g := lwg_at 118 (by decide +kernel) rfl
theorem vX5_fill : Cond.selects RX5 yX5_fill yX5_fill ∈ lw_g := lwg_at 119 (by decide +kernel) rfl
abbrev mX5_take : MI := (yX5_take, cX5_take, 3, none, 4)
theorem kX5_take : Lk mX5_take 1 := ⟨lwg_at 636 (by decide +kernel) rfl, zX5, ⟨by decide +kernel, by decide +kernel⟩, by decide +kernel⟩
theorem iX5_take : Cond.instanceMethod yX5_take ∈ lw_g := lwg_at 634 (by decide +kernel) rfl
theorem vX5_take : Cond.selects RX5 yX5_take yX5_take ∈ lw_g := lwg_at 635 (by decide +kernel) rfl
abbrev mX5_takeRun : MI := (yX5_takeRun, cX5_takeRun, 6, none, 4)
theorem kX5_takeRun : Lk mX5_takeRun 4 := ⟨lwg_at 992 (by decide +kernel) rfl, zX5, ⟨by decide +kernel, by decide +kernel⟩, by decide +kernel⟩
theorem iX5_takeRun : Cond.instanceMethod yX5_takeRun ∈ lw_g := lwg_at 990 (by decide +kernel) rfl
theorem vX5_takeRun : Cond.selects RX5 yX5_takeRun yX5_takeRun ∈ lw_g := lwg_at 991 (by decide +kernel) rfl
abbrev mX6_init : MI := (yX6_init, cX6_init, 1, none, 5)
theorem kX6_init : Lk mX6_init 0 := ⟨lwg_at 331 (by decide +kernel) rfl, zX6, ⟨by decide +kernel, by decide +kernel⟩, by decide +kernel⟩
theorem iX6_init : Cond.instanceMethod yX6_init ∈ lw_g := lwg_at 330 (by decide +kernel) rfl
abbrev mX6_isWidth : MI := (yX6_isWidth, cX6_isWidth, 1, some .boolean, 5)
theorem kX6_isWidth : Lk mX6_isWidth 1 := ⟨lwg_at 957 (by decide +kernel) rfl, zX6, ⟨by decide +kernel, by decide +kernel⟩, by decide +kernel⟩
theorem sX6_isWidth : Cond.static yX6_isWidth ∈ lw_g := lwg_at 956 (by decide +kernel) rfl
abbrev mX6_isMissing : MI := (yX6_isMissing, cX6_isMissing, 1, some .boolean, 5)
theorem kX6_isMissing : Lk mX6_isMissing 0 := ⟨lwg_at 754 (by decide +kernel) rfl, zX6, ⟨by decide +kernel, by decide +kernel⟩, by decide +kernel⟩
theorem iX6_isMissing : Cond.instanceMethod yX6_isMissing ∈ lw_g := lwg_at 752 (by decide +kernel) rfl
theorem vX6_isMissing : Cond.selects RX6 yX6_isMissing yX6_isMissing ∈ lw_g := lwg_at 753 (by decide +kernel) rfl
abbrev mX6_bits : MI := (yX6_bits, cX6_bits, 1, some .int, 5)
theorem kX6_bits : Lk mX6_bits 0 := ⟨lwg_at 984 (by decide +kernel) rfl, zX6, ⟨by decide +kernel, by decide +kernel⟩, by decide +kernel⟩
theorem iX6_bits : Cond.instanceMethod yX6_bits ∈ lw_g := lwg_at 982 (by decide +kernel) rfl
theorem vX6_bits : Cond.selects RX6 yX6_bits yX6_bits ∈ lw_g := lwg_at 983 (by decide +kernel) rfl
abbrev mX6_remove : MI := (yX6_remove, cX6_remove, 1, none, 5)
theorem kX6_remove : Lk mX6_remove 0 := ⟨lwg_at 961 (by decide +kernel) rfl, zX6, ⟨by decide +kernel, by decide +kernel⟩, by decide +kernel⟩
theorem iX6_remove : Cond.instanceMethod yX6_remove ∈ lw_g := lwg_at 959 (by decide +kernel) rfl
theorem vX6_remove : Cond.selects RX6 yX6_remove yX6_remove ∈ lw_g := lwg_at 960 (by decide +kernel) rfl
abbrev mX6_renew : MI := (yX6_renew, cX6_renew, 3, none, 5)
theorem kX6_renew : Lk mX6_renew 2 := ⟨lwg_at 966 (by decide +kernel) rfl, zX6, ⟨by decide +kernel, by decide +kernel⟩, by decide +kernel⟩
theorem iX6_renew : Cond.instanceMethod yX6_renew ∈ lw_g := lwg_at 964 (by decide +kernel) rfl
theorem vX6_renew : Cond.selects RX6 yX6_renew yX6_renew ∈ lw_g := lwg_at 965 (by decide +kernel) rfl
abbrev mX6_write : MI := (yX6_write, cX6_write, 3, none, 5)
theorem kX6_write : Lk mX6_write 2 := ⟨lwg_at 975 (by decide +kernel) rfl, zX6, ⟨by decide +kernel, by decide +kernel⟩, by decide +kernel⟩
theorem iX6_write : Cond.instanceMethod yX6_write ∈ lw_g := lwg_at 973 (by decide +kernel) rfl
theorem vX6_write : Cond.selects RX6 yX6_write yX6_write ∈ lw_g := lwg_at 974 (by decide +kernel) rfl
abbrev mX7_init : MI := (yX7_init, cX7_init, 1, none, 6)
theorem kX7_init : Lk mX7_init 0 := ⟨lwg_at 92 (by decide +kernel) rfl, zX7, ⟨by decide +kernel, by decide +kernel⟩, by decide +kernel⟩
theorem iX7_init : Cond.instanceMethod yX7_init ∈ lw_g := lwg_at 91 (by decide +kernel) rfl
abbrev mX7_take : MI := (yX7_take, cX7_take, 2, none, 6)
theorem kX7_take : Lk mX7_take 1 := ⟨lwg_at 1018 (by decide +kernel) rfl, zX7, ⟨by decide +kernel, by decide +kernel⟩, by decide +kernel⟩
theorem iX7_take : Cond.instanceMethod yX7_take ∈ lw_g := lwg_at 1016 (by decide +kernel) rfl
theorem vX7_take : Cond.selects RX7 yX7_take yX7_take ∈ lw_g := lwg_at 1017 (by decide +kernel) rfl
abbrev mX7_passDay : MI := (yX7_passDay, cX7_passDay, 4, none, 6)
theorem kX7_passDay : Lk mX7_passDay 0 := ⟨lwg_at 694 (by decide +kernel) rfl, zX7, ⟨by decide +kernel, by decide +kernel⟩, by decide +kernel⟩
theorem iX7_passDay : Cond.instanceMethod yX7_passDay ∈ lw_g := lwg_at 692 (by decide +kernel) rfl
theorem vX7_passDay : Cond.selects RX7 yX7_passDay yX7_passDay ∈ lw_g := lwg_at 693 (by decide +kernel) rfl
abbrev mX7_draw : MI := (yX7_draw, cX7_draw, 2, some .int, 6)
theorem kX7_draw : Lk mX7_draw 1 := ⟨lwg_at 699 (by decide +kernel) rfl, zX7, ⟨by decide +kernel, by decide +kernel⟩, by decide +kernel⟩
theorem iX7_draw : Cond.instanceMethod yX7_draw ∈ lw_g := lwg_at 698 (by decide +kernel) rfl
theorem vX7_draw : Cond.selects RX7 yX7_draw yX7_draw ∈ lw_g := lwg_at 13 (by decide +kernel) rfl
abbrev mX8_init : MI := (yX8_init, cX8_init, 2, none, 7)
theorem kX8_init : Lk mX8_init 1 := ⟨lwg_at 174 (by decide +kernel) rfl, zX8, ⟨by decide +kernel, by decide +kernel⟩, by decide +kernel⟩
theorem iX8_init : Cond.instanceMethod yX8_init ∈ lw_g := lwg_at 173 (by decide +kernel) rfl
abbrev mX8_nameOf : MI := (yX8_nameOf, cX8_nameOf, 2, some .int, 7)
theorem kX8_nameOf : Lk mX8_nameOf 1 := ⟨lwg_at 619 (by decide +kernel) rfl, zX8, ⟨by decide +kernel, by decide +kernel⟩, by decide +kernel⟩
theorem iX8_nameOf : Cond.instanceMethod yX8_nameOf ∈ lw_g := lwg_at 617 (by decide +kernel) rfl
theorem vX8_nameOf : Cond.selects RX8 yX8_nameOf yX8_nameOf ∈ lw_g := lwg_at 618 (by decide +kernel) rfl
abbrev mX8_takeSteps : MI := (yX8_takeSteps, cX8_takeSteps, 2, none, 7)
theorem kX8_takeSteps : Lk mX8_takeSteps 1 := ⟨lwg_at 632 (by decide +kernel) rfl, zX8, ⟨by decide +kernel, by decide +kernel⟩, by decide +kernel⟩
theorem iX8_takeSteps : Cond.instanceMethod yX8_takeSteps ∈ lw_g := lwg_at 630 (by decide +kernel) rfl
theorem vX8_takeSteps : Cond.selects RX8 yX8_takeSteps yX8_takeSteps ∈ lw_g := lwg_at 631 (by decide +kernel) rfl
abbrev mX8_take : MI := (yX8_take, cX8_take, 2, none, 7)
theorem kX8_take : Lk mX8_take 1 := ⟨lwg_at 1028 (by decide +kernel) rfl, zX8, ⟨by decide +kernel, by decide +kernel⟩, by decide +kernel⟩
theorem iX8_take : Cond.instanceMethod yX8_take ∈ lw_g := lwg_at 1026 (by decide +kernel) rfl
theorem vX8_take : Cond.selects RX8 yX8_take yX8_take ∈ lw_g := lwg_at 1027 (by decide +kernel) rfl
abbrev mX8_value : MI := (yX8_value, cX8_value, 7, some .int, 7)
theorem kX8_value : Lk mX8_value 3 := ⟨lwg_at 454 (by decide +kernel) rfl, zX8, ⟨by decide +kernel, by decide +kernel⟩, by decide +kernel⟩
theorem iX8_value : Cond.instanceMethod yX8_value ∈ lw_g := lwg_at 452 (by decide +kernel) rfl
theorem vX8_value : Cond.selects RX8 yX8_value yX8_value ∈ lw_g := lwg_at 453 (by decide +kernel) rfl
abbrev mX8_held : MI := (yX8_held, cX8_held, 1, some .int, 7)
theorem kX8_held : Lk mX8_held 1 := ⟨lwg_at 461 (by decide +kernel) rfl, zX8, ⟨by decide +kernel, by decide +kernel⟩, by decide +kernel⟩
theorem sX8_held : Cond.static yX8_held ∈ lw_g := lwg_at 460 (by decide +kernel) rfl
abbrev mX8_join : MI := (yX8_join, cX8_join, 3, some .int, 7)
theorem kX8_join : Lk mX8_join 3 := ⟨lwg_at 469 (by decide +kernel) rfl, zX8, ⟨by decide +kernel, by decide +kernel⟩, by decide +kernel⟩
theorem sX8_join : Cond.static yX8_join ∈ lw_g := lwg_at 468 (by decide +kernel) rfl
abbrev mX9_init : MI := (yX9_init, cX9_init, 2, none, 8)
theorem kX9_init : Lk mX9_init 1 := ⟨lwg_at 271 (by decide +kernel) rfl, zX9, ⟨by decide +kernel, by decide +kernel⟩, by decide +kernel⟩
theorem iX9_init : Cond.instanceMethod yX9_init ∈ lw_g := lwg_at 270 (by decide +kernel) rfl
abbrev mX9_begin : MI := (yX9_begin, cX9_begin, 2, none, 8)
theorem kX9_begin : Lk mX9_begin 1 := ⟨lwg_at 772 (by decide +kernel) rfl, zX9, ⟨by decide +kernel, by decide +kernel⟩, by decide +kernel⟩
theorem iX9_begin : Cond.instanceMethod yX9_begin ∈ lw_g := lwg_at 770 (by decide +kernel) rfl
theorem vX9_begin : Cond.selects RX9 yX9_begin yX9_begin ∈ lw_g := lwg_at 771 (by decide +kernel) rfl
abbrev mX9_rollNext : MI := (yX9_rollNext, cX9_rollNext, 5, none, 8)
theorem kX9_rollNext : Lk mX9_rollNext 3 := ⟨lwg_at 782 (by decide +kernel) rfl, zX9, ⟨by decide +kernel, by decide +kernel⟩, by decide +kernel⟩
theorem iX9_rollNext : Cond.instanceMethod yX9_rollNext ∈ lw_g := lwg_at 780 (by decide +kernel) rfl
theorem vX9_rollNext : Cond.selects RX9 yX9_rollNext yX9_rollNext ∈ lw_g := lwg_at 781 (by decide +kernel) rfl
abbrev mX9_rollAll : MI := (yX9_rollAll, cX9_rollAll, 4, none, 8)
theorem kX9_rollAll : Lk mX9_rollAll 2 := ⟨lwg_at 768 (by decide +kernel) rfl, zX9, ⟨by decide +kernel, by decide +kernel⟩, by decide +kernel⟩
theorem iX9_rollAll : Cond.instanceMethod yX9_rollAll ∈ lw_g := lwg_at 766 (by decide +kernel) rfl
theorem vX9_rollAll : Cond.selects RX9 yX9_rollAll yX9_rollAll ∈ lw_g := lwg_at 767 (by decide +kernel) rfl
abbrev mX9_cansBegun : MI := (yX9_cansBegun, cX9_cansBegun, 1, some .int, 8)
theorem kX9_cansBegun : Lk mX9_cansBegun 0 := ⟨lwg_at 876 (by decide +kernel) rfl, zX9, ⟨by decide +kernel, by decide +kernel⟩, by decide +kernel⟩
theorem iX9_cansBegun : Cond.instanceMethod yX9_cansBegun ∈ lw_g := lwg_at 874 (by decide +kernel) rfl
theorem vX9_cansBegun : Cond.selects RX9 yX9_cansBegun yX9_cansBegun ∈ lw_g := lwg_at 875 (by decide +kernel) rfl
abbrev mX9_seenNow : MI := (yX9_seenNow, cX9_seenNow, 1, some .int, 8)
theorem kX9_seenNow : Lk mX9_seenNow 0 := ⟨lwg_at 1047 (by decide +kernel) rfl, zX9, ⟨by decide +kernel, by decide +kernel⟩, by decide +kernel⟩
theorem iX9_seenNow : Cond.instanceMethod yX9_seenNow ∈ lw_g := lwg_at 1045 (by decide +kernel) rfl
theorem vX9_seenNow : Cond.selects RX9 yX9_seenNow yX9_seenNow ∈ lw_g := lwg_at 1046 (by decide +kernel) rfl
abbrev mX9_warmTo : MI := (yX9_warmTo, cX9_warmTo, 2, none, 8)
theorem kX9_warmTo : Lk mX9_warmTo 1 := ⟨lwg_at 831 (by decide +kernel) rfl, zX9, ⟨by decide +kernel, by decide +kernel⟩, by decide +kernel⟩
theorem iX9_warmTo : Cond.instanceMethod yX9_warmTo ∈ lw_g := lwg_at 829 (by decide +kernel) rfl
theorem vX9_warmTo : Cond.selects RX9 yX9_warmTo yX9_warmTo ∈ lw_g := lwg_at 830 (by decide +kernel) rfl
abbrev mX9_takeOrder : MI := (yX9_takeOrder, cX9_takeOrder, 5, some .boolean, 8)
theorem kX9_takeOrder : Lk mX9_takeOrder 2 := ⟨lwg_at 759 (by decide +kernel) rfl, zX9, ⟨by decide +kernel, by decide +kernel⟩, by decide +kernel⟩
theorem iX9_takeOrder : Cond.instanceMethod yX9_takeOrder ∈ lw_g := lwg_at 757 (by decide +kernel) rfl
theorem vX9_takeOrder : Cond.selects RX9 yX9_takeOrder yX9_takeOrder ∈ lw_g := lwg_at 758 (by decide +kernel) rfl
abbrev mX9_seenByOrder : MI := (yX9_seenByOrder, cX9_seenByOrder, 3, some .int, 8)
theorem kX9_seenByOrder : Lk mX9_seenByOrder 0 := ⟨lwg_at 789 (by decide +kernel) rfl, zX9, ⟨by decide +kernel, by decide +kernel⟩, by decide +kernel⟩
theorem iX9_seenByOrder : Cond.instanceMethod yX9_seenByOrder ∈ lw_g := lwg_at 787 (by decide +kernel) rfl
theorem vX9_seenByOrder : Cond.selects RX9 yX9_seenByOrder yX9_seenByOrder ∈ lw_g := lwg_at 788 (by decide +kernel) rfl
abbrev mX9_best : MI := (yX9_best, cX9_best, 1, some .int, 8)
theorem kX9_best : Lk mX9_best 0 := ⟨lwg_at 819 (by decide +kernel) rfl, zX9, ⟨by decide +kernel, by decide +kernel⟩, by decide +kernel⟩
theorem iX9_best : Cond.instanceMethod yX9_best ∈ lw_g := lwg_at 817 (by decide +kernel) rfl
theorem vX9_best : Cond.selects RX9 yX9_best yX9_best ∈ lw_g := lwg_at 818 (by decide +kernel) rfl
abbrev mX9_bestStripAt : MI := (yX9_bestStripAt, cX9_bestStripAt, 2, some .int, 8)
theorem kX9_bestStripAt : Lk mX9_bestStripAt 1 := ⟨lwg_at 823 (by decide +kernel) rfl, zX9, ⟨by decide +kernel, by decide +kernel⟩, by decide +kernel⟩
theorem iX9_bestStripAt : Cond.instanceMethod yX9_bestStripAt ∈ lw_g := lwg_at 821 (by decide +kernel) rfl
theorem vX9_bestStripAt : Cond.selects RX9 yX9_bestStripAt yX9_bestStripAt ∈ lw_g := lwg_at 822 (by decide +kernel) rfl
abbrev mX9_findBelow : MI := (yX9_findBelow, cX9_findBelow, 2, none, 8)
theorem kX9_findBelow : Lk mX9_findBelow 1 := ⟨lwg_at 806 (by decide +kernel) rfl, zX9, ⟨by decide +kernel, by decide +kernel⟩, by decide +kernel⟩
theorem iX9_findBelow : Cond.instanceMethod yX9_findBelow ∈ lw_g := lwg_at 804 (by decide +kernel) rfl
theorem vX9_findBelow : Cond.selects RX9 yX9_findBelow yX9_findBelow ∈ lw_g := lwg_at 805 (by decide +kernel) rfl
abbrev mX9_extendOrder : MI := (yX9_extendOrder, cX9_extendOrder, 5, none, 8)
theorem kX9_extendOrder : Lk mX9_extendOrder 2 := ⟨lwg_at 810 (by decide +kernel) rfl, zX9, ⟨by decide +kernel, by decide +kernel⟩, by decide +kernel⟩
theorem iX9_extendOrder : Cond.instanceMethod yX9_extendOrder ∈ lw_g := lwg_at 809 (by decide +kernel) rfl
theorem vX9_extendOrder : Cond.selects RX9 yX9_extendOrder yX9_extendOrder ∈ lw_g := lwg_at 15 (by decide +kernel) rfl
abbrev mX9_seenBeside : MI := (yX9_seenBeside, cX9_seenBeside, 3, some .int, 8)
theorem kX9_seenBeside : Lk mX9_seenBeside 1 := ⟨lwg_at 815 (by decide +kernel) rfl, zX9, ⟨by decide +kernel, by decide +kernel⟩, by decide +kernel⟩
theorem iX9_seenBeside : Cond.instanceMethod yX9_seenBeside ∈ lw_g := lwg_at 814 (by decide +kernel) rfl
theorem vX9_seenBeside : Cond.selects RX9 yX9_seenBeside yX9_seenBeside ∈ lw_g := lwg_at 16 (by decide +kernel) rfl
abbrev mX9_weightAt : MI := (yX9_weightAt, cX9_weightAt, 3, some .int, 8)
theorem kX9_weightAt : Lk mX9_weightAt 3 := ⟨lwg_at 801 (by decide +kernel) rfl, zX9, ⟨by decide +kernel, by decide +kernel⟩, by decide +kernel⟩
theorem sX9_weightAt : Cond.static yX9_weightAt ∈ lw_g := lwg_at 800 (by decide +kernel) rfl
abbrev mX9_weighPlaces : MI := (yX9_weighPlaces, cX9_weighPlaces, 5, none, 8)
theorem kX9_weighPlaces : Lk mX9_weighPlaces 0 := ⟨lwg_at 798 (by decide +kernel) rfl, zX9, ⟨by decide +kernel, by decide +kernel⟩, by decide +kernel⟩
theorem iX9_weighPlaces : Cond.instanceMethod yX9_weighPlaces ∈ lw_g := lwg_at 796 (by decide +kernel) rfl
theorem vX9_weighPlaces : Cond.selects RX9 yX9_weighPlaces yX9_weighPlaces ∈ lw_g := lwg_at 797 (by decide +kernel) rfl
abbrev mX9_weighPauses : MI := (yX9_weighPauses, cX9_weighPauses, 3, none, 8)
theorem kX9_weighPauses : Lk mX9_weighPauses 1 := ⟨lwg_at 847 (by decide +kernel) rfl, zX9, ⟨by decide +kernel, by decide +kernel⟩, by decide +kernel⟩
theorem iX9_weighPauses : Cond.instanceMethod yX9_weighPauses ∈ lw_g := lwg_at 845 (by decide +kernel) rfl
theorem vX9_weighPauses : Cond.selects RX9 yX9_weighPauses yX9_weighPauses ∈ lw_g := lwg_at 846 (by decide +kernel) rfl
abbrev mX9_seenCalledAhead : MI := (yX9_seenCalledAhead, cX9_seenCalledAhead, 4, some .int, 8)
theorem kX9_seenCalledAhead : Lk mX9_seenCalledAhead 1 := ⟨lwg_at 851 (by decide +kernel) rfl, zX9, ⟨by decide +kernel, by decide +kernel⟩, by decide +kernel⟩
theorem iX9_seenCalledAhead : Cond.instanceMethod yX9_seenCalledAhead ∈ lw_g := lwg_at 849 (by decide +kernel) rfl
theorem vX9_seenCalledAhead : Cond.selects RX9 yX9_seenCalledAhead yX9_seenCalledAhead ∈ lw_g := lwg_at 850 (by decide +kernel) rfl
abbrev mX9_worstStrip : MI := (yX9_worstStrip, cX9_worstStrip, 3, some .int, 8)
theorem kX9_worstStrip : Lk mX9_worstStrip 0 := ⟨lwg_at 859 (by decide +kernel) rfl, zX9, ⟨by decide +kernel, by decide +kernel⟩, by decide +kernel⟩
theorem iX9_worstStrip : Cond.instanceMethod yX9_worstStrip ∈ lw_g := lwg_at 857 (by decide +kernel) rfl
theorem vX9_worstStrip : Cond.selects RX9 yX9_worstStrip yX9_worstStrip ∈ lw_g := lwg_at 858 (by decide +kernel) rfl
abbrev mX9_longestPause : MI := (yX9_longestPause, cX9_longestPause, 5, some .int, 8)
theorem kX9_longestPause : Lk mX9_longestPause 2 := ⟨lwg_at 868 (by decide +kernel) rfl, zX9, ⟨by decide +kernel, by decide +kernel⟩, by decide +kernel⟩
theorem iX9_longestPause : Cond.instanceMethod yX9_longestPause ∈ lw_g := lwg_at 866 (by decide +kernel) rfl
theorem vX9_longestPause : Cond.selects RX9 yX9_longestPause yX9_longestPause ∈ lw_g := lwg_at 867 (by decide +kernel) rfl
abbrev mX9_waysOfPauses : MI := (yX9_waysOfPauses, cX9_waysOfPauses, 1, some .int, 8)
theorem kX9_waysOfPauses : Lk mX9_waysOfPauses 0 := ⟨lwg_at 906 (by decide +kernel) rfl, zX9, ⟨by decide +kernel, by decide +kernel⟩, by decide +kernel⟩
theorem iX9_waysOfPauses : Cond.instanceMethod yX9_waysOfPauses ∈ lw_g := lwg_at 904 (by decide +kernel) rfl
theorem vX9_waysOfPauses : Cond.selects RX9 yX9_waysOfPauses yX9_waysOfPauses ∈ lw_g := lwg_at 905 (by decide +kernel) rfl
abbrev mX9_waysSeenAtMost : MI := (yX9_waysSeenAtMost, cX9_waysSeenAtMost, 6, some .int, 8)
theorem kX9_waysSeenAtMost : Lk mX9_waysSeenAtMost 1 := ⟨lwg_at 902 (by decide +kernel) rfl, zX9, ⟨by decide +kernel, by decide +kernel⟩, by decide +kernel⟩
theorem iX9_waysSeenAtMost : Cond.instanceMethod yX9_waysSeenAtMost ∈ lw_g := lwg_at 900 (by decide +kernel) rfl
theorem vX9_waysSeenAtMost : Cond.selects RX9 yX9_waysSeenAtMost yX9_waysSeenAtMost ∈ lw_g := lwg_at 901 (by decide +kernel) rfl
abbrev mX10_init : MI := (yX10_init, cX10_init, 1, none, 9)
theorem kX10_init : Lk mX10_init 0 := ⟨lwg_at 309 (by decide +kernel) rfl, zX10, ⟨by decide +kernel, by decide +kernel⟩, by decide +kernel⟩
theorem iX10_init : Cond.instanceMethod yX10_init ∈ lw_g := lwg_at 308 (by decide +kernel) rfl
abbrev mX10_heard : MI := (yX10_heard, cX10_heard, 1, some (.object "OneGoCeiling$Row"), 9)
theorem kX10_heard : Lk mX10_heard 0 := ⟨lwg_at 949 (by decide +kernel) rfl, zX10, ⟨by decide +kernel, by decide +kernel⟩, by decide +kernel⟩
theorem iX10_heard : Cond.instanceMethod yX10_heard ∈ lw_g := lwg_at 947 (by decide +kernel) rfl
theorem vX10_heard : Cond.selects RX10 yX10_heard yX10_heard ∈ lw_g := lwg_at 948 (by decide +kernel) rfl
abbrev mX10_speak : MI := (yX10_speak, cX10_speak, 5, some .int, 9)
theorem kX10_speak : Lk mX10_speak 4 := ⟨lwg_at 919 (by decide +kernel) rfl, zX10, ⟨by decide +kernel, by decide +kernel⟩, by decide +kernel⟩
theorem iX10_speak : Cond.instanceMethod yX10_speak ∈ lw_g := lwg_at 917 (by decide +kernel) rfl
theorem vX10_speak : Cond.selects RX10 yX10_speak yX10_speak ∈ lw_g := lwg_at 918 (by decide +kernel) rfl
abbrev mX10_own : MI := (yX10_own, cX10_own, 4, some .int, 9)
theorem kX10_own : Lk mX10_own 3 := ⟨lwg_at 926 (by decide +kernel) rfl, zX10, ⟨by decide +kernel, by decide +kernel⟩, by decide +kernel⟩
theorem iX10_own : Cond.instanceMethod yX10_own ∈ lw_g := lwg_at 925 (by decide +kernel) rfl
theorem vX10_own : Cond.selects RX10 yX10_own yX10_own ∈ lw_g := lwg_at 18 (by decide +kernel) rfl
abbrev mX10_from : MI := (yX10_from, cX10_from, 7, some .int, 9)
theorem kX10_from : Lk mX10_from 4 := ⟨lwg_at 930 (by decide +kernel) rfl, zX10, ⟨by decide +kernel, by decide +kernel⟩, by decide +kernel⟩
theorem iX10_from : Cond.instanceMethod yX10_from ∈ lw_g := lwg_at 929 (by decide +kernel) rfl
theorem vX10_from : Cond.selects RX10 yX10_from yX10_from ∈ lw_g := lwg_at 19 (by decide +kernel) rfl
abbrev mX10_bodyOf : MI := (yX10_bodyOf, cX10_bodyOf, 3, some .int, 9)
theorem kX10_bodyOf : Lk mX10_bodyOf 2 := ⟨lwg_at 933 (by decide +kernel) rfl, zX10, ⟨by decide +kernel, by decide +kernel⟩, by decide +kernel⟩
theorem sX10_bodyOf : Cond.static yX10_bodyOf ∈ lw_g := lwg_at 932 (by decide +kernel) rfl
abbrev mX10_say : MI := (yX10_say, cX10_say, 5, some .int, 9)
theorem kX10_say : Lk mX10_say 4 := ⟨lwg_at 941 (by decide +kernel) rfl, zX10, ⟨by decide +kernel, by decide +kernel⟩, by decide +kernel⟩
theorem iX10_say : Cond.instanceMethod yX10_say ∈ lw_g := lwg_at 940 (by decide +kernel) rfl
theorem vX10_say : Cond.selects RX10 yX10_say yX10_say ∈ lw_g := lwg_at 20 (by decide +kernel) rfl
abbrev mX11_init : MI := (yX11_init, cX11_init, 1, none, 10)
theorem kX11_init : Lk mX11_init 0 := ⟨lwg_at 84 (by decide +kernel) rfl, zX11, ⟨by decide +kernel, by decide +kernel⟩, by decide +kernel⟩
theorem iX11_init : Cond.instanceMethod yX11_init ∈ lw_g := lwg_at 83 (by decide +kernel) rfl
abbrev mX11_ceiling : MI := (yX11_ceiling, cX11_ceiling, 3, some .int, 10)
theorem kX11_ceiling : Lk mX11_ceiling 2 := ⟨lwg_at 377 (by decide +kernel) rfl, zX11, ⟨by decide +kernel, by decide +kernel⟩, by decide +kernel⟩
theorem iX11_ceiling : Cond.instanceMethod yX11_ceiling ∈ lw_g := lwg_at 375 (by decide +kernel) rfl
theorem vX11_ceiling : Cond.selects RX11 yX11_ceiling yX11_ceiling ∈ lw_g := lwg_at 376 (by decide +kernel) rfl
abbrev mX11_set : MI := (yX11_set, cX11_set, 3, some .int, 10)
theorem kX11_set : Lk mX11_set 2 := ⟨lwg_at 401 (by decide +kernel) rfl, zX11, ⟨by decide +kernel, by decide +kernel⟩, by decide +kernel⟩
theorem iX11_set : Cond.instanceMethod yX11_set ∈ lw_g := lwg_at 399 (by decide +kernel) rfl
theorem vX11_set : Cond.selects RX11 yX11_set yX11_set ∈ lw_g := lwg_at 400 (by decide +kernel) rfl
abbrev mX11_ofCell : MI := (yX11_ofCell, cX11_ofCell, 6, some .int, 10)
theorem kX11_ofCell : Lk mX11_ofCell 2 := ⟨lwg_at 412 (by decide +kernel) rfl, zX11, ⟨by decide +kernel, by decide +kernel⟩, by decide +kernel⟩
theorem iX11_ofCell : Cond.instanceMethod yX11_ofCell ∈ lw_g := lwg_at 410 (by decide +kernel) rfl
theorem vX11_ofCell : Cond.selects RX11 yX11_ofCell yX11_ofCell ∈ lw_g := lwg_at 411 (by decide +kernel) rfl
abbrev mX11_hand : MI := (yX11_hand, cX11_hand, 2, some .int, 10)
theorem kX11_hand : Lk mX11_hand 1 := ⟨lwg_at 482 (by decide +kernel) rfl, zX11, ⟨by decide +kernel, by decide +kernel⟩, by decide +kernel⟩
theorem iX11_hand : Cond.instanceMethod yX11_hand ∈ lw_g := lwg_at 480 (by decide +kernel) rfl
theorem vX11_hand : Cond.selects RX11 yX11_hand yX11_hand ∈ lw_g := lwg_at 481 (by decide +kernel) rfl
abbrev mX11_ofHand : MI := (yX11_ofHand, cX11_ofHand, 5, some .int, 10)
theorem kX11_ofHand : Lk mX11_ofHand 2 := ⟨lwg_at 506 (by decide +kernel) rfl, zX11, ⟨by decide +kernel, by decide +kernel⟩, by decide +kernel⟩
theorem iX11_ofHand : Cond.instanceMethod yX11_ofHand ∈ lw_g := lwg_at 504 (by decide +kernel) rfl
theorem vX11_ofHand : Cond.selects RX11 yX11_ofHand yX11_ofHand ∈ lw_g := lwg_at 505 (by decide +kernel) rfl
abbrev mX11_become : MI := (yX11_become, cX11_become, 3, some .int, 10)
theorem kX11_become : Lk mX11_become 2 := ⟨lwg_at 533 (by decide +kernel) rfl, zX11, ⟨by decide +kernel, by decide +kernel⟩, by decide +kernel⟩
theorem iX11_become : Cond.instanceMethod yX11_become ∈ lw_g := lwg_at 531 (by decide +kernel) rfl
theorem vX11_become : Cond.selects RX11 yX11_become yX11_become ∈ lw_g := lwg_at 532 (by decide +kernel) rfl
abbrev mX11_as : MI := (yX11_as, cX11_as, 3, some .int, 10)
theorem kX11_as : Lk mX11_as 2 := ⟨lwg_at 543 (by decide +kernel) rfl, zX11, ⟨by decide +kernel, by decide +kernel⟩, by decide +kernel⟩
theorem iX11_as : Cond.instanceMethod yX11_as ∈ lw_g := lwg_at 541 (by decide +kernel) rfl
theorem vX11_as : Cond.selects RX11 yX11_as yX11_as ∈ lw_g := lwg_at 542 (by decide +kernel) rfl
abbrev mX11_feed : MI := (yX11_feed, cX11_feed, 5, some .int, 10)
theorem kX11_feed : Lk mX11_feed 2 := ⟨lwg_at 558 (by decide +kernel) rfl, zX11, ⟨by decide +kernel, by decide +kernel⟩, by decide +kernel⟩
theorem iX11_feed : Cond.instanceMethod yX11_feed ∈ lw_g := lwg_at 556 (by decide +kernel) rfl
theorem vX11_feed : Cond.selects RX11 yX11_feed yX11_feed ∈ lw_g := lwg_at 557 (by decide +kernel) rfl
abbrev mX11_text : MI := (yX11_text, cX11_text, 4, some .int, 10)
theorem kX11_text : Lk mX11_text 1 := ⟨lwg_at 565 (by decide +kernel) rfl, zX11, ⟨by decide +kernel, by decide +kernel⟩, by decide +kernel⟩
theorem iX11_text : Cond.instanceMethod yX11_text ∈ lw_g := lwg_at 563 (by decide +kernel) rfl
theorem vX11_text : Cond.selects RX11 yX11_text yX11_text ∈ lw_g := lwg_at 564 (by decide +kernel) rfl
abbrev mX11_law : MI := (yX11_law, cX11_law, 6, some .int, 10)
theorem kX11_law : Lk mX11_law 4 := ⟨lwg_at 647 (by decide +kernel) rfl, zX11, ⟨by decide +kernel, by decide +kernel⟩, by decide +kernel⟩
theorem iX11_law : Cond.instanceMethod yX11_law ∈ lw_g := lwg_at 645 (by decide +kernel) rfl
theorem vX11_law : Cond.selects RX11 yX11_law yX11_law ∈ lw_g := lwg_at 646 (by decide +kernel) rfl
abbrev mX11_roll : MI := (yX11_roll, cX11_roll, 4, some .int, 10)
theorem kX11_roll : Lk mX11_roll 3 := ⟨lwg_at 652 (by decide +kernel) rfl, zX11, ⟨by decide +kernel, by decide +kernel⟩, by decide +kernel⟩
theorem iX11_roll : Cond.instanceMethod yX11_roll ∈ lw_g := lwg_at 650 (by decide +kernel) rfl
theorem vX11_roll : Cond.selects RX11 yX11_roll yX11_roll ∈ lw_g := lwg_at 651 (by decide +kernel) rfl
abbrev mX11_minutes : MI := (yX11_minutes, cX11_minutes, 2, some .int, 10)
theorem kX11_minutes : Lk mX11_minutes 1 := ⟨lwg_at 681 (by decide +kernel) rfl, zX11, ⟨by decide +kernel, by decide +kernel⟩, by decide +kernel⟩
theorem iX11_minutes : Cond.instanceMethod yX11_minutes ∈ lw_g := lwg_at 679 (by decide +kernel) rfl
theorem vX11_minutes : Cond.selects RX11 yX11_minutes yX11_minutes ∈ lw_g := lwg_at 680 (by decide +kernel) rfl
abbrev mX11_days : MI := (yX11_days, cX11_days, 3, some .int, 10)
theorem kX11_days : Lk mX11_days 1 := ⟨lwg_at 689 (by decide +kernel) rfl, zX11, ⟨by decide +kernel, by decide +kernel⟩, by decide +kernel⟩
theorem iX11_days : Cond.instanceMethod yX11_days ∈ lw_g := lwg_at 687 (by decide +kernel) rfl
theorem vX11_days : Cond.selects RX11 yX11_days yX11_days ∈ lw_g := lwg_at 688 (by decide +kernel) rfl
abbrev mX11_seams : MI := (yX11_seams, cX11_seams, 2, some .int, 10)
theorem kX11_seams : Lk mX11_seams 1 := ⟨lwg_at 738 (by decide +kernel) rfl, zX11, ⟨by decide +kernel, by decide +kernel⟩, by decide +kernel⟩
theorem iX11_seams : Cond.instanceMethod yX11_seams ∈ lw_g := lwg_at 736 (by decide +kernel) rfl
theorem vX11_seams : Cond.selects RX11 yX11_seams yX11_seams ∈ lw_g := lwg_at 737 (by decide +kernel) rfl
abbrev mX11_done : MI := (yX11_done, cX11_done, 4, some .int, 10)
theorem kX11_done : Lk mX11_done 2 := ⟨lwg_at 746 (by decide +kernel) rfl, zX11, ⟨by decide +kernel, by decide +kernel⟩, by decide +kernel⟩
theorem iX11_done : Cond.instanceMethod yX11_done ∈ lw_g := lwg_at 744 (by decide +kernel) rfl
theorem vX11_done : Cond.selects RX11 yX11_done yX11_done ∈ lw_g := lwg_at 745 (by decide +kernel) rfl
abbrev mX11_order : MI := (yX11_order, cX11_order, 3, some .int, 10)
theorem kX11_order : Lk mX11_order 2 := ⟨lwg_at 794 (by decide +kernel) rfl, zX11, ⟨by decide +kernel, by decide +kernel⟩, by decide +kernel⟩
theorem iX11_order : Cond.instanceMethod yX11_order ∈ lw_g := lwg_at 792 (by decide +kernel) rfl
theorem vX11_order : Cond.selects RX11 yX11_order yX11_order ∈ lw_g := lwg_at 793 (by decide +kernel) rfl
abbrev mX11_clean : MI := (yX11_clean, cX11_clean, 5, some .int, 10)
theorem kX11_clean : Lk mX11_clean 2 := ⟨lwg_at 827 (by decide +kernel) rfl, zX11, ⟨by decide +kernel, by decide +kernel⟩, by decide +kernel⟩
theorem iX11_clean : Cond.instanceMethod yX11_clean ∈ lw_g := lwg_at 825 (by decide +kernel) rfl
theorem vX11_clean : Cond.selects RX11 yX11_clean yX11_clean ∈ lw_g := lwg_at 826 (by decide +kernel) rfl
abbrev mX11_called : MI := (yX11_called, cX11_called, 4, some .int, 10)
theorem kX11_called : Lk mX11_called 3 := ⟨lwg_at 839 (by decide +kernel) rfl, zX11, ⟨by decide +kernel, by decide +kernel⟩, by decide +kernel⟩
theorem iX11_called : Cond.instanceMethod yX11_called ∈ lw_g := lwg_at 837 (by decide +kernel) rfl
theorem vX11_called : Cond.selects RX11 yX11_called yX11_called ∈ lw_g := lwg_at 838 (by decide +kernel) rfl
abbrev mX11_worst : MI := (yX11_worst, cX11_worst, 5, some .int, 10)
theorem kX11_worst : Lk mX11_worst 3 := ⟨lwg_at 855 (by decide +kernel) rfl, zX11, ⟨by decide +kernel, by decide +kernel⟩, by decide +kernel⟩
theorem iX11_worst : Cond.instanceMethod yX11_worst ∈ lw_g := lwg_at 853 (by decide +kernel) rfl
theorem vX11_worst : Cond.selects RX11 yX11_worst yX11_worst ∈ lw_g := lwg_at 854 (by decide +kernel) rfl
abbrev mX11_howLong : MI := (yX11_howLong, cX11_howLong, 3, some .int, 10)
theorem kX11_howLong : Lk mX11_howLong 2 := ⟨lwg_at 864 (by decide +kernel) rfl, zX11, ⟨by decide +kernel, by decide +kernel⟩, by decide +kernel⟩
theorem iX11_howLong : Cond.instanceMethod yX11_howLong ∈ lw_g := lwg_at 862 (by decide +kernel) rfl
theorem vX11_howLong : Cond.selects RX11 yX11_howLong yX11_howLong ∈ lw_g := lwg_at 863 (by decide +kernel) rfl
abbrev mX11_cans : MI := (yX11_cans, cX11_cans, 2, some .int, 10)
theorem kX11_cans : Lk mX11_cans 1 := ⟨lwg_at 872 (by decide +kernel) rfl, zX11, ⟨by decide +kernel, by decide +kernel⟩, by decide +kernel⟩
theorem iX11_cans : Cond.instanceMethod yX11_cans ∈ lw_g := lwg_at 870 (by decide +kernel) rfl
theorem vX11_cans : Cond.selects RX11 yX11_cans yX11_cans ∈ lw_g := lwg_at 871 (by decide +kernel) rfl
abbrev mX11_whose : MI := (yX11_whose, cX11_whose, 6, some .int, 10)
theorem kX11_whose : Lk mX11_whose 3 := ⟨lwg_at 884 (by decide +kernel) rfl, zX11, ⟨by decide +kernel, by decide +kernel⟩, by decide +kernel⟩
theorem iX11_whose : Cond.instanceMethod yX11_whose ∈ lw_g := lwg_at 882 (by decide +kernel) rfl
theorem vX11_whose : Cond.selects RX11 yX11_whose yX11_whose ∈ lw_g := lwg_at 883 (by decide +kernel) rfl
abbrev mX11_odds : MI := (yX11_odds, cX11_odds, 8, some .int, 10)
theorem kX11_odds : Lk mX11_odds 4 := ⟨lwg_at 898 (by decide +kernel) rfl, zX11, ⟨by decide +kernel, by decide +kernel⟩, by decide +kernel⟩
theorem iX11_odds : Cond.instanceMethod yX11_odds ∈ lw_g := lwg_at 896 (by decide +kernel) rfl
theorem vX11_odds : Cond.selects RX11 yX11_odds yX11_odds ∈ lw_g := lwg_at 897 (by decide +kernel) rfl
abbrev mX11_seed : MI := (yX11_seed, cX11_seed, 3, some .int, 10)
theorem kX11_seed : Lk mX11_seed 1 := ⟨lwg_at 911 (by decide +kernel) rfl, zX11, ⟨by decide +kernel, by decide +kernel⟩, by decide +kernel⟩
theorem iX11_seed : Cond.instanceMethod yX11_seed ∈ lw_g := lwg_at 909 (by decide +kernel) rfl
theorem vX11_seed : Cond.selects RX11 yX11_seed yX11_seed ∈ lw_g := lwg_at 910 (by decide +kernel) rfl
abbrev mX11_voice : MI := (yX11_voice, cX11_voice, 4, some .int, 10)
theorem kX11_voice : Lk mX11_voice 3 := ⟨lwg_at 915 (by decide +kernel) rfl, zX11, ⟨by decide +kernel, by decide +kernel⟩, by decide +kernel⟩
theorem iX11_voice : Cond.instanceMethod yX11_voice ∈ lw_g := lwg_at 913 (by decide +kernel) rfl
theorem vX11_voice : Cond.selects RX11 yX11_voice yX11_voice ∈ lw_g := lwg_at 914 (by decide +kernel) rfl
abbrev mX11_trace : MI := (yX11_trace, cX11_trace, 2, some .int, 10)
theorem kX11_trace : Lk mX11_trace 1 := ⟨lwg_at 945 (by decide +kernel) rfl, zX11, ⟨by decide +kernel, by decide +kernel⟩, by decide +kernel⟩
theorem iX11_trace : Cond.instanceMethod yX11_trace ∈ lw_g := lwg_at 943 (by decide +kernel) rfl
theorem vX11_trace : Cond.selects RX11 yX11_trace yX11_trace ∈ lw_g := lwg_at 944 (by decide +kernel) rfl
abbrev mX11_sheet : MI := (yX11_sheet, cX11_sheet, 5, some .int, 10)
theorem kX11_sheet : Lk mX11_sheet 3 := ⟨lwg_at 954 (by decide +kernel) rfl, zX11, ⟨by decide +kernel, by decide +kernel⟩, by decide +kernel⟩
theorem iX11_sheet : Cond.instanceMethod yX11_sheet ∈ lw_g := lwg_at 952 (by decide +kernel) rfl
theorem vX11_sheet : Cond.selects RX11 yX11_sheet yX11_sheet ∈ lw_g := lwg_at 953 (by decide +kernel) rfl
abbrev mX11_put : MI := (yX11_put, cX11_put, 5, some .int, 10)
theorem kX11_put : Lk mX11_put 3 := ⟨lwg_at 971 (by decide +kernel) rfl, zX11, ⟨by decide +kernel, by decide +kernel⟩, by decide +kernel⟩
theorem iX11_put : Cond.instanceMethod yX11_put ∈ lw_g := lwg_at 969 (by decide +kernel) rfl
theorem vX11_put : Cond.selects RX11 yX11_put yX11_put ∈ lw_g := lwg_at 970 (by decide +kernel) rfl
abbrev mX11_move : MI := (yX11_move, cX11_move, 8, some .int, 10)
theorem kX11_move : Lk mX11_move 5 := ⟨lwg_at 980 (by decide +kernel) rfl, zX11, ⟨by decide +kernel, by decide +kernel⟩, by decide +kernel⟩
theorem iX11_move : Cond.instanceMethod yX11_move ∈ lw_g := lwg_at 978 (by decide +kernel) rfl
theorem vX11_move : Cond.selects RX11 yX11_move yX11_move ∈ lw_g := lwg_at 979 (by decide +kernel) rfl
abbrev mX11_whites : MI := (yX11_whites, cX11_whites, 3, some .int, 10)
theorem kX11_whites : Lk mX11_whites 1 := ⟨lwg_at 997 (by decide +kernel) rfl, zX11, ⟨by decide +kernel, by decide +kernel⟩, by decide +kernel⟩
theorem iX11_whites : Cond.instanceMethod yX11_whites ∈ lw_g := lwg_at 995 (by decide +kernel) rfl
theorem vX11_whites : Cond.selects RX11 yX11_whites yX11_whites ∈ lw_g := lwg_at 996 (by decide +kernel) rfl
abbrev mX11_judge : MI := (yX11_judge, cX11_judge, 3, some .int, 10)
theorem kX11_judge : Lk mX11_judge 1 := ⟨lwg_at 1006 (by decide +kernel) rfl, zX11, ⟨by decide +kernel, by decide +kernel⟩, by decide +kernel⟩
theorem iX11_judge : Cond.instanceMethod yX11_judge ∈ lw_g := lwg_at 1004 (by decide +kernel) rfl
theorem vX11_judge : Cond.selects RX11 yX11_judge yX11_judge ∈ lw_g := lwg_at 1005 (by decide +kernel) rfl
abbrev mX11_image : MI := (yX11_image, cX11_image, 1, some .int, 10)
theorem kX11_image : Lk mX11_image 0 := ⟨lwg_at 1014 (by decide +kernel) rfl, zX11, ⟨by decide +kernel, by decide +kernel⟩, by decide +kernel⟩
theorem iX11_image : Cond.instanceMethod yX11_image ∈ lw_g := lwg_at 1012 (by decide +kernel) rfl
theorem vX11_image : Cond.selects RX11 yX11_image yX11_image ∈ lw_g := lwg_at 1013 (by decide +kernel) rfl
abbrev mX11_restore : MI := (yX11_restore, cX11_restore, 1, some .int, 10)
theorem kX11_restore : Lk mX11_restore 0 := ⟨lwg_at 1033 (by decide +kernel) rfl, zX11, ⟨by decide +kernel, by decide +kernel⟩, by decide +kernel⟩
theorem iX11_restore : Cond.instanceMethod yX11_restore ∈ lw_g := lwg_at 1031 (by decide +kernel) rfl
theorem vX11_restore : Cond.selects RX11 yX11_restore yX11_restore ∈ lw_g := lwg_at 1032 (by decide +kernel) rfl
abbrev mX11_tell : MI := (yX11_tell, cX11_tell, 2, some .int, 10)
theorem kX11_tell : Lk mX11_tell 1 := ⟨lwg_at 1037 (by decide +kernel) rfl, zX11, ⟨by decide +kernel, by decide +kernel⟩, by decide +kernel⟩
theorem iX11_tell : Cond.instanceMethod yX11_tell ∈ lw_g := lwg_at 1035 (by decide +kernel) rfl
theorem vX11_tell : Cond.selects RX11 yX11_tell yX11_tell ∈ lw_g := lwg_at 1036 (by decide +kernel) rfl
abbrev mX11_check : MI := (yX11_check, cX11_check, 4, some .int, 10)
theorem kX11_check : Lk mX11_check 0 := ⟨lwg_at 1041 (by decide +kernel) rfl, zX11, ⟨by decide +kernel, by decide +kernel⟩, by decide +kernel⟩
theorem iX11_check : Cond.instanceMethod yX11_check ∈ lw_g := lwg_at 1039 (by decide +kernel) rfl
theorem vX11_check : Cond.selects RX11 yX11_check yX11_check ∈ lw_g := lwg_at 1040 (by decide +kernel) rfl
abbrev mX11_count : MI := (yX11_count, cX11_count, 2, some .int, 10)
theorem kX11_count : Lk mX11_count 1 := ⟨lwg_at 1052 (by decide +kernel) rfl, zX11, ⟨by decide +kernel, by decide +kernel⟩, by decide +kernel⟩
theorem iX11_count : Cond.instanceMethod yX11_count ∈ lw_g := lwg_at 1050 (by decide +kernel) rfl
theorem vX11_count : Cond.selects RX11 yX11_count yX11_count ∈ lw_g := lwg_at 1051 (by decide +kernel) rfl
abbrev mX11_told : MI := (yX11_told, cX11_told, 2, some .int, 10)
theorem kX11_told : Lk mX11_told 1 := ⟨lwg_at 1076 (by decide +kernel) rfl, zX11, ⟨by decide +kernel, by decide +kernel⟩, by decide +kernel⟩
theorem iX11_told : Cond.instanceMethod yX11_told ∈ lw_g := lwg_at 1074 (by decide +kernel) rfl
theorem vX11_told : Cond.selects RX11 yX11_told yX11_told ∈ lw_g := lwg_at 1075 (by decide +kernel) rfl
abbrev mX11_error : MI := (yX11_error, cX11_error, 2, some .int, 10)
theorem kX11_error : Lk mX11_error 1 := ⟨lwg_at 384 (by decide +kernel) rfl, zX11, ⟨by decide +kernel, by decide +kernel⟩, by decide +kernel⟩
theorem iX11_error : Cond.instanceMethod yX11_error ∈ lw_g := lwg_at 383 (by decide +kernel) rfl
theorem vX11_error : Cond.selects RX11 yX11_error yX11_error ∈ lw_g := lwg_at 0 (by decide +kernel) rfl
abbrev mX11_within : MI := (yX11_within, cX11_within, 3, some .boolean, 10)
theorem kX11_within : Lk mX11_within 3 := ⟨lwg_at 380 (by decide +kernel) rfl, zX11, ⟨by decide +kernel, by decide +kernel⟩, by decide +kernel⟩
theorem sX11_within : Cond.static yX11_within ∈ lw_g := lwg_at 379 (by decide +kernel) rfl
abbrev mX11_isLaterStrip : MI := (yX11_isLaterStrip, cX11_isLaterStrip, 2, some .boolean, 10)
theorem kX11_isLaterStrip : Lk mX11_isLaterStrip 1 := ⟨lwg_at 843 (by decide +kernel) rfl, zX11, ⟨by decide +kernel, by decide +kernel⟩, by decide +kernel⟩
theorem iX11_isLaterStrip : Cond.instanceMethod yX11_isLaterStrip ∈ lw_g := lwg_at 842 (by decide +kernel) rfl
theorem vX11_isLaterStrip : Cond.selects RX11 yX11_isLaterStrip yX11_isLaterStrip ∈ lw_g := lwg_at 17 (by decide +kernel) rfl
abbrev mX11_textOf : MI := (yX11_textOf, cX11_textOf, 2, some (.object "OneGoCeiling$Text"), 10)
theorem kX11_textOf : Lk mX11_textOf 1 := ⟨lwg_at 569 (by decide +kernel) rfl, zX11, ⟨by decide +kernel, by decide +kernel⟩, by decide +kernel⟩
theorem iX11_textOf : Cond.instanceMethod yX11_textOf ∈ lw_g := lwg_at 568 (by decide +kernel) rfl
theorem vX11_textOf : Cond.selects RX11 yX11_textOf yX11_textOf ∈ lw_g := lwg_at 1 (by decide +kernel) rfl
abbrev mX11_sheetOf : MI := (yX11_sheetOf, cX11_sheetOf, 2, some (.object "OneGoCeiling$Sheet"), 10)
theorem kX11_sheetOf : Lk mX11_sheetOf 1 := ⟨lwg_at 750 (by decide +kernel) rfl, zX11, ⟨by decide +kernel, by decide +kernel⟩, by decide +kernel⟩
theorem iX11_sheetOf : Cond.instanceMethod yX11_sheetOf ∈ lw_g := lwg_at 749 (by decide +kernel) rfl
theorem vX11_sheetOf : Cond.selects RX11 yX11_sheetOf yX11_sheetOf ∈ lw_g := lwg_at 14 (by decide +kernel) rfl
abbrev mX12_init : MI := (yX12_init, cX12_init, 1, none, 11)
theorem kX12_init : Lk mX12_init 0 := ⟨lwg_at 1081 (by decide +kernel) rfl, zX12, ⟨by decide +kernel, by decide +kernel⟩, by decide +kernel⟩
theorem iX12_init : Cond.instanceMethod yX12_init ∈ lw_g := lwg_at 1080 (by decide +kernel) rfl
abbrev mX12_in : MI := (yX12_in, cX12_in, 3, some .boolean, 11)
theorem kX12_in : Lk mX12_in 3 := ⟨lwg_at 1184 (by decide +kernel) rfl, zX12, ⟨by decide +kernel, by decide +kernel⟩, by decide +kernel⟩
theorem sX12_in : Cond.static yX12_in ∈ lw_g := lwg_at 1183 (by decide +kernel) rfl
abbrev mX12_errs : MI := (yX12_errs, cX12_errs, 2, some .int, 11)
theorem kX12_errs : Lk mX12_errs 1 := ⟨lwg_at 1189 (by decide +kernel) rfl, zX12, ⟨by decide +kernel, by decide +kernel⟩, by decide +kernel⟩
theorem iX12_errs : Cond.instanceMethod yX12_errs ∈ lw_g := lwg_at 1188 (by decide +kernel) rfl
theorem vX12_errs : Cond.selects RX12 yX12_errs yX12_errs ∈ lw_g := lwg_at 22 (by decide +kernel) rfl
abbrev mX12_held : MI := (yX12_held, cX12_held, 3, some .int, 11)
theorem kX12_held : Lk mX12_held 3 := ⟨lwg_at 1225 (by decide +kernel) rfl, zX12, ⟨by decide +kernel, by decide +kernel⟩, by decide +kernel⟩
theorem sX12_held : Cond.static yX12_held ∈ lw_g := lwg_at 1224 (by decide +kernel) rfl
abbrev mX12_moveAll : MI := (yX12_moveAll, cX12_moveAll, 4, none, 11)
theorem kX12_moveAll : Lk mX12_moveAll 2 := ⟨lwg_at 1339 (by decide +kernel) rfl, zX12, ⟨by decide +kernel, by decide +kernel⟩, by decide +kernel⟩
theorem iX12_moveAll : Cond.instanceMethod yX12_moveAll ∈ lw_g := lwg_at 1338 (by decide +kernel) rfl
theorem vX12_moveAll : Cond.selects RX12 yX12_moveAll yX12_moveAll ∈ lw_g := lwg_at 45 (by decide +kernel) rfl
abbrev mX12_bare : MI := (yX12_bare, cX12_bare, 4, none, 11)
theorem kX12_bare : Lk mX12_bare 2 := ⟨lwg_at 1086 (by decide +kernel) rfl, zX12, ⟨by decide +kernel, by decide +kernel⟩, by decide +kernel⟩
theorem iX12_bare : Cond.instanceMethod yX12_bare ∈ lw_g := lwg_at 1085 (by decide +kernel) rfl
theorem vX12_bare : Cond.selects RX12 yX12_bare yX12_bare ∈ lw_g := lwg_at 21 (by decide +kernel) rfl
abbrev mX12_cells : MI := (yX12_cells, cX12_cells, 1, some .int, 11)
theorem kX12_cells : Lk mX12_cells 0 := ⟨lwg_at 1194 (by decide +kernel) rfl, zX12, ⟨by decide +kernel, by decide +kernel⟩, by decide +kernel⟩
theorem iX12_cells : Cond.instanceMethod yX12_cells ∈ lw_g := lwg_at 1193 (by decide +kernel) rfl
theorem vX12_cells : Cond.selects RX12 yX12_cells yX12_cells ∈ lw_g := lwg_at 23 (by decide +kernel) rfl
abbrev mX12_whenOf : MI := (yX12_whenOf, cX12_whenOf, 2, some .int, 11)
theorem kX12_whenOf : Lk mX12_whenOf 1 := ⟨lwg_at 1210 (by decide +kernel) rfl, zX12, ⟨by decide +kernel, by decide +kernel⟩, by decide +kernel⟩
theorem iX12_whenOf : Cond.instanceMethod yX12_whenOf ∈ lw_g := lwg_at 1209 (by decide +kernel) rfl
theorem vX12_whenOf : Cond.selects RX12 yX12_whenOf yX12_whenOf ∈ lw_g := lwg_at 25 (by decide +kernel) rfl
abbrev mX12_whiteOf : MI := (yX12_whiteOf, cX12_whiteOf, 2, some .int, 11)
theorem kX12_whiteOf : Lk mX12_whiteOf 1 := ⟨lwg_at 1214 (by decide +kernel) rfl, zX12, ⟨by decide +kernel, by decide +kernel⟩, by decide +kernel⟩
theorem iX12_whiteOf : Cond.instanceMethod yX12_whiteOf ∈ lw_g := lwg_at 1213 (by decide +kernel) rfl
theorem vX12_whiteOf : Cond.selects RX12 yX12_whiteOf yX12_whiteOf ∈ lw_g := lwg_at 26 (by decide +kernel) rfl
abbrev mX12_ceiling : MI := (yX12_ceiling, cX12_ceiling, 3, some .int, 11)
theorem kX12_ceiling : Lk mX12_ceiling 2 := ⟨lwg_at 1181 (by decide +kernel) rfl, zX12, ⟨by decide +kernel, by decide +kernel⟩, by decide +kernel⟩
theorem iX12_ceiling : Cond.instanceMethod yX12_ceiling ∈ lw_g := lwg_at 1179 (by decide +kernel) rfl
theorem vX12_ceiling : Cond.selects RX12 yX12_ceiling yX12_ceiling ∈ lw_g := lwg_at 1180 (by decide +kernel) rfl
abbrev mX12_set : MI := (yX12_set, cX12_set, 5, some .int, 11)
theorem kX12_set : Lk mX12_set 2 := ⟨lwg_at 1198 (by decide +kernel) rfl, zX12, ⟨by decide +kernel, by decide +kernel⟩, by decide +kernel⟩
theorem iX12_set : Cond.instanceMethod yX12_set ∈ lw_g := lwg_at 1196 (by decide +kernel) rfl
theorem vX12_set : Cond.selects RX12 yX12_set yX12_set ∈ lw_g := lwg_at 1197 (by decide +kernel) rfl
abbrev mX12_isCell : MI := (yX12_isCell, cX12_isCell, 2, some .boolean, 11)
theorem kX12_isCell : Lk mX12_isCell 1 := ⟨lwg_at 1206 (by decide +kernel) rfl, zX12, ⟨by decide +kernel, by decide +kernel⟩, by decide +kernel⟩
theorem iX12_isCell : Cond.instanceMethod yX12_isCell ∈ lw_g := lwg_at 1205 (by decide +kernel) rfl
theorem vX12_isCell : Cond.selects RX12 yX12_isCell yX12_isCell ∈ lw_g := lwg_at 24 (by decide +kernel) rfl
abbrev mX12_isStrip : MI := (yX12_isStrip, cX12_isStrip, 2, some .boolean, 11)
theorem kX12_isStrip : Lk mX12_isStrip 1 := ⟨lwg_at 1347 (by decide +kernel) rfl, zX12, ⟨by decide +kernel, by decide +kernel⟩, by decide +kernel⟩
theorem iX12_isStrip : Cond.instanceMethod yX12_isStrip ∈ lw_g := lwg_at 1346 (by decide +kernel) rfl
theorem vX12_isStrip : Cond.selects RX12 yX12_isStrip yX12_isStrip ∈ lw_g := lwg_at 46 (by decide +kernel) rfl
abbrev mX12_driesAt : MI := (yX12_driesAt, cX12_driesAt, 2, some .int, 11)
theorem kX12_driesAt : Lk mX12_driesAt 1 := ⟨lwg_at 1218 (by decide +kernel) rfl, zX12, ⟨by decide +kernel, by decide +kernel⟩, by decide +kernel⟩
theorem iX12_driesAt : Cond.instanceMethod yX12_driesAt ∈ lw_g := lwg_at 1217 (by decide +kernel) rfl
theorem vX12_driesAt : Cond.selects RX12 yX12_driesAt yX12_driesAt ∈ lw_g := lwg_at 27 (by decide +kernel) rfl
abbrev mX12_shows : MI := (yX12_shows, cX12_shows, 4, some .int, 11)
theorem kX12_shows : Lk mX12_shows 2 := ⟨lwg_at 1377 (by decide +kernel) rfl, zX12, ⟨by decide +kernel, by decide +kernel⟩, by decide +kernel⟩
theorem iX12_shows : Cond.instanceMethod yX12_shows ∈ lw_g := lwg_at 1376 (by decide +kernel) rfl
theorem vX12_shows : Cond.selects RX12 yX12_shows yX12_shows ∈ lw_g := lwg_at 51 (by decide +kernel) rfl
abbrev mX12_tables : MI := (yX12_tables, cX12_tables, 2, none, 11)
theorem kX12_tables : Lk mX12_tables 0 := ⟨lwg_at 1405 (by decide +kernel) rfl, zX12, ⟨by decide +kernel, by decide +kernel⟩, by decide +kernel⟩
theorem iX12_tables : Cond.instanceMethod yX12_tables ∈ lw_g := lwg_at 1404 (by decide +kernel) rfl
theorem vX12_tables : Cond.selects RX12 yX12_tables yX12_tables ∈ lw_g := lwg_at 54 (by decide +kernel) rfl
abbrev mX12_isSeam : MI := (yX12_isSeam, cX12_isSeam, 4, some .boolean, 11)
theorem kX12_isSeam : Lk mX12_isSeam 1 := ⟨lwg_at 1280 (by decide +kernel) rfl, zX12, ⟨by decide +kernel, by decide +kernel⟩, by decide +kernel⟩
theorem iX12_isSeam : Cond.instanceMethod yX12_isSeam ∈ lw_g := lwg_at 1279 (by decide +kernel) rfl
theorem vX12_isSeam : Cond.selects RX12 yX12_isSeam yX12_isSeam ∈ lw_g := lwg_at 41 (by decide +kernel) rfl
abbrev mX12_seamAt : MI := (yX12_seamAt, cX12_seamAt, 2, some .int, 11)
theorem kX12_seamAt : Lk mX12_seamAt 1 := ⟨lwg_at 1276 (by decide +kernel) rfl, zX12, ⟨by decide +kernel, by decide +kernel⟩, by decide +kernel⟩
theorem iX12_seamAt : Cond.instanceMethod yX12_seamAt ∈ lw_g := lwg_at 1275 (by decide +kernel) rfl
theorem vX12_seamAt : Cond.selects RX12 yX12_seamAt yX12_seamAt ∈ lw_g := lwg_at 40 (by decide +kernel) rfl
abbrev mX12_ofCell : MI := (yX12_ofCell, cX12_ofCell, 3, some .int, 11)
theorem kX12_ofCell : Lk mX12_ofCell 2 := ⟨lwg_at 1202 (by decide +kernel) rfl, zX12, ⟨by decide +kernel, by decide +kernel⟩, by decide +kernel⟩
theorem iX12_ofCell : Cond.instanceMethod yX12_ofCell ∈ lw_g := lwg_at 1200 (by decide +kernel) rfl
theorem vX12_ofCell : Cond.selects RX12 yX12_ofCell yX12_ofCell ∈ lw_g := lwg_at 1201 (by decide +kernel) rfl
abbrev mX12_isHand : MI := (yX12_isHand, cX12_isHand, 2, some .boolean, 11)
theorem kX12_isHand : Lk mX12_isHand 1 := ⟨lwg_at 1293 (by decide +kernel) rfl, zX12, ⟨by decide +kernel, by decide +kernel⟩, by decide +kernel⟩
theorem iX12_isHand : Cond.instanceMethod yX12_isHand ∈ lw_g := lwg_at 1292 (by decide +kernel) rfl
theorem vX12_isHand : Cond.selects RX12 yX12_isHand yX12_isHand ∈ lw_g := lwg_at 42 (by decide +kernel) rfl
abbrev mX12_kindOf : MI := (yX12_kindOf, cX12_kindOf, 2, some .int, 11)
theorem kX12_kindOf : Lk mX12_kindOf 1 := ⟨lwg_at 1297 (by decide +kernel) rfl, zX12, ⟨by decide +kernel, by decide +kernel⟩, by decide +kernel⟩
theorem iX12_kindOf : Cond.instanceMethod yX12_kindOf ∈ lw_g := lwg_at 1296 (by decide +kernel) rfl
theorem vX12_kindOf : Cond.selects RX12 yX12_kindOf yX12_kindOf ∈ lw_g := lwg_at 43 (by decide +kernel) rfl
abbrev mX12_mOf : MI := (yX12_mOf, cX12_mOf, 2, some .int, 11)
theorem kX12_mOf : Lk mX12_mOf 1 := ⟨lwg_at 1301 (by decide +kernel) rfl, zX12, ⟨by decide +kernel, by decide +kernel⟩, by decide +kernel⟩
theorem iX12_mOf : Cond.instanceMethod yX12_mOf ∈ lw_g := lwg_at 1300 (by decide +kernel) rfl
theorem vX12_mOf : Cond.selects RX12 yX12_mOf yX12_mOf ∈ lw_g := lwg_at 44 (by decide +kernel) rfl
abbrev mX12_hand : MI := (yX12_hand, cX12_hand, 3, some .int, 11)
theorem kX12_hand : Lk mX12_hand 1 := ⟨lwg_at 1284 (by decide +kernel) rfl, zX12, ⟨by decide +kernel, by decide +kernel⟩, by decide +kernel⟩
theorem iX12_hand : Cond.instanceMethod yX12_hand ∈ lw_g := lwg_at 1282 (by decide +kernel) rfl
theorem vX12_hand : Cond.selects RX12 yX12_hand yX12_hand ∈ lw_g := lwg_at 1283 (by decide +kernel) rfl
abbrev mX12_paceOf : MI := (yX12_paceOf, cX12_paceOf, 3, some .int, 11)
theorem kX12_paceOf : Lk mX12_paceOf 3 := ⟨lwg_at 1304 (by decide +kernel) rfl, zX12, ⟨by decide +kernel, by decide +kernel⟩, by decide +kernel⟩
theorem sX12_paceOf : Cond.static yX12_paceOf ∈ lw_g := lwg_at 1303 (by decide +kernel) rfl
abbrev mX12_loadOf : MI := (yX12_loadOf, cX12_loadOf, 2, some .int, 11)
theorem kX12_loadOf : Lk mX12_loadOf 2 := ⟨lwg_at 1307 (by decide +kernel) rfl, zX12, ⟨by decide +kernel, by decide +kernel⟩, by decide +kernel⟩
theorem sX12_loadOf : Cond.static yX12_loadOf ∈ lw_g := lwg_at 1306 (by decide +kernel) rfl
abbrev mX12_usesOf : MI := (yX12_usesOf, cX12_usesOf, 2, some .int, 11)
theorem kX12_usesOf : Lk mX12_usesOf 2 := ⟨lwg_at 1310 (by decide +kernel) rfl, zX12, ⟨by decide +kernel, by decide +kernel⟩, by decide +kernel⟩
theorem sX12_usesOf : Cond.static yX12_usesOf ∈ lw_g := lwg_at 1309 (by decide +kernel) rfl
abbrev mX12_ofHand : MI := (yX12_ofHand, cX12_ofHand, 5, some .int, 11)
theorem kX12_ofHand : Lk mX12_ofHand 2 := ⟨lwg_at 1289 (by decide +kernel) rfl, zX12, ⟨by decide +kernel, by decide +kernel⟩, by decide +kernel⟩
theorem iX12_ofHand : Cond.instanceMethod yX12_ofHand ∈ lw_g := lwg_at 1287 (by decide +kernel) rfl
theorem vX12_ofHand : Cond.selects RX12 yX12_ofHand yX12_ofHand ∈ lw_g := lwg_at 1288 (by decide +kernel) rfl
abbrev mX12_become : MI := (yX12_become, cX12_become, 4, some .int, 11)
theorem kX12_become : Lk mX12_become 2 := ⟨lwg_at 1314 (by decide +kernel) rfl, zX12, ⟨by decide +kernel, by decide +kernel⟩, by decide +kernel⟩
theorem iX12_become : Cond.instanceMethod yX12_become ∈ lw_g := lwg_at 1312 (by decide +kernel) rfl
theorem vX12_become : Cond.selects RX12 yX12_become yX12_become ∈ lw_g := lwg_at 1313 (by decide +kernel) rfl
abbrev mX12_above : MI := (yX12_above, cX12_above, 1, some .int, 11)
theorem kX12_above : Lk mX12_above 1 := ⟨lwg_at 1321 (by decide +kernel) rfl, zX12, ⟨by decide +kernel, by decide +kernel⟩, by decide +kernel⟩
theorem sX12_above : Cond.static yX12_above ∈ lw_g := lwg_at 1320 (by decide +kernel) rfl
abbrev mX12_as : MI := (yX12_as, cX12_as, 4, some .int, 11)
theorem kX12_as : Lk mX12_as 2 := ⟨lwg_at 1318 (by decide +kernel) rfl, zX12, ⟨by decide +kernel, by decide +kernel⟩, by decide +kernel⟩
theorem iX12_as : Cond.instanceMethod yX12_as ∈ lw_g := lwg_at 1316 (by decide +kernel) rfl
theorem vX12_as : Cond.selects RX12 yX12_as yX12_as ∈ lw_g := lwg_at 1317 (by decide +kernel) rfl
abbrev mX12_byteAt : MI := (yX12_byteAt, cX12_byteAt, 2, some .int, 11)
theorem kX12_byteAt : Lk mX12_byteAt 1 := ⟨lwg_at 1257 (by decide +kernel) rfl, zX12, ⟨by decide +kernel, by decide +kernel⟩, by decide +kernel⟩
theorem iX12_byteAt : Cond.instanceMethod yX12_byteAt ∈ lw_g := lwg_at 1256 (by decide +kernel) rfl
theorem vX12_byteAt : Cond.selects RX12 yX12_byteAt yX12_byteAt ∈ lw_g := lwg_at 36 (by decide +kernel) rfl
abbrev mX12_isDigit : MI := (yX12_isDigit, cX12_isDigit, 1, some .boolean, 11)
theorem kX12_isDigit : Lk mX12_isDigit 1 := ⟨lwg_at 1260 (by decide +kernel) rfl, zX12, ⟨by decide +kernel, by decide +kernel⟩, by decide +kernel⟩
theorem sX12_isDigit : Cond.static yX12_isDigit ∈ lw_g := lwg_at 1259 (by decide +kernel) rfl
abbrev mX12_fails : MI := (yX12_fails, cX12_fails, 1, some .int, 11)
theorem kX12_fails : Lk mX12_fails 0 := ⟨lwg_at 1272 (by decide +kernel) rfl, zX12, ⟨by decide +kernel, by decide +kernel⟩, by decide +kernel⟩
theorem iX12_fails : Cond.instanceMethod yX12_fails ∈ lw_g := lwg_at 1271 (by decide +kernel) rfl
theorem vX12_fails : Cond.selects RX12 yX12_fails yX12_fails ∈ lw_g := lwg_at 39 (by decide +kernel) rfl
abbrev mX12_number : MI := (yX12_number, cX12_number, 3, some .int, 11)
theorem kX12_number : Lk mX12_number 0 := ⟨lwg_at 1264 (by decide +kernel) rfl, zX12, ⟨by decide +kernel, by decide +kernel⟩, by decide +kernel⟩
theorem iX12_number : Cond.instanceMethod yX12_number ∈ lw_g := lwg_at 1263 (by decide +kernel) rfl
theorem vX12_number : Cond.selects RX12 yX12_number yX12_number ∈ lw_g := lwg_at 37 (by decide +kernel) rfl
abbrev mX12_named : MI := (yX12_named, cX12_named, 5, some .int, 11)
theorem kX12_named : Lk mX12_named 1 := ⟨lwg_at 1268 (by decide +kernel) rfl, zX12, ⟨by decide +kernel, by decide +kernel⟩, by decide +kernel⟩
theorem iX12_named : Cond.instanceMethod yX12_named ∈ lw_g := lwg_at 1267 (by decide +kernel) rfl
theorem vX12_named : Cond.selects RX12 yX12_named yX12_named ∈ lw_g := lwg_at 38 (by decide +kernel) rfl
abbrev mX12_factor : MI := (yX12_factor, cX12_factor, 3, some .int, 11)
theorem kX12_factor : Lk mX12_factor 0 := ⟨lwg_at 1253 (by decide +kernel) rfl, zX12, ⟨by decide +kernel, by decide +kernel⟩, by decide +kernel⟩
theorem iX12_factor : Cond.instanceMethod yX12_factor ∈ lw_g := lwg_at 1252 (by decide +kernel) rfl
theorem vX12_factor : Cond.selects RX12 yX12_factor yX12_factor ∈ lw_g := lwg_at 35 (by decide +kernel) rfl
abbrev mX12_product : MI := (yX12_product, cX12_product, 4, some .int, 11)
theorem kX12_product : Lk mX12_product 0 := ⟨lwg_at 1249 (by decide +kernel) rfl, zX12, ⟨by decide +kernel, by decide +kernel⟩, by decide +kernel⟩
theorem iX12_product : Cond.instanceMethod yX12_product ∈ lw_g := lwg_at 1248 (by decide +kernel) rfl
theorem vX12_product : Cond.selects RX12 yX12_product yX12_product ∈ lw_g := lwg_at 34 (by decide +kernel) rfl
abbrev mX12_sum : MI := (yX12_sum, cX12_sum, 4, some .int, 11)
theorem kX12_sum : Lk mX12_sum 0 := ⟨lwg_at 1245 (by decide +kernel) rfl, zX12, ⟨by decide +kernel, by decide +kernel⟩, by decide +kernel⟩
theorem iX12_sum : Cond.instanceMethod yX12_sum ∈ lw_g := lwg_at 1244 (by decide +kernel) rfl
theorem vX12_sum : Cond.selects RX12 yX12_sum yX12_sum ∈ lw_g := lwg_at 33 (by decide +kernel) rfl
abbrev mX12_compared : MI := (yX12_compared, cX12_compared, 5, some .int, 11)
theorem kX12_compared : Lk mX12_compared 0 := ⟨lwg_at 1241 (by decide +kernel) rfl, zX12, ⟨by decide +kernel, by decide +kernel⟩, by decide +kernel⟩
theorem iX12_compared : Cond.instanceMethod yX12_compared ∈ lw_g := lwg_at 1240 (by decide +kernel) rfl
theorem vX12_compared : Cond.selects RX12 yX12_compared yX12_compared ∈ lw_g := lwg_at 32 (by decide +kernel) rfl
abbrev mX12_both : MI := (yX12_both, cX12_both, 3, some .int, 11)
theorem kX12_both : Lk mX12_both 0 := ⟨lwg_at 1237 (by decide +kernel) rfl, zX12, ⟨by decide +kernel, by decide +kernel⟩, by decide +kernel⟩
theorem iX12_both : Cond.instanceMethod yX12_both ∈ lw_g := lwg_at 1236 (by decide +kernel) rfl
theorem vX12_both : Cond.selects RX12 yX12_both yX12_both ∈ lw_g := lwg_at 31 (by decide +kernel) rfl
abbrev mX12_whole : MI := (yX12_whole, cX12_whole, 3, some .int, 11)
theorem kX12_whole : Lk mX12_whole 0 := ⟨lwg_at 1233 (by decide +kernel) rfl, zX12, ⟨by decide +kernel, by decide +kernel⟩, by decide +kernel⟩
theorem iX12_whole : Cond.instanceMethod yX12_whole ∈ lw_g := lwg_at 1232 (by decide +kernel) rfl
theorem vX12_whole : Cond.selects RX12 yX12_whole yX12_whole ∈ lw_g := lwg_at 30 (by decide +kernel) rfl
abbrev mX12_walks : MI := (yX12_walks, cX12_walks, 6, some .int, 11)
theorem kX12_walks : Lk mX12_walks 4 := ⟨lwg_at 1229 (by decide +kernel) rfl, zX12, ⟨by decide +kernel, by decide +kernel⟩, by decide +kernel⟩
theorem iX12_walks : Cond.instanceMethod yX12_walks ∈ lw_g := lwg_at 1228 (by decide +kernel) rfl
theorem vX12_walks : Cond.selects RX12 yX12_walks yX12_walks ∈ lw_g := lwg_at 29 (by decide +kernel) rfl
abbrev mX12_lawOf : MI := (yX12_lawOf, cX12_lawOf, 5, some .int, 11)
theorem kX12_lawOf : Lk mX12_lawOf 4 := ⟨lwg_at 1222 (by decide +kernel) rfl, zX12, ⟨by decide +kernel, by decide +kernel⟩, by decide +kernel⟩
theorem iX12_lawOf : Cond.instanceMethod yX12_lawOf ∈ lw_g := lwg_at 1221 (by decide +kernel) rfl
theorem vX12_lawOf : Cond.selects RX12 yX12_lawOf yX12_lawOf ∈ lw_g := lwg_at 28 (by decide +kernel) rfl
abbrev mX12_law : MI := (yX12_law, cX12_law, 5, some .int, 11)
theorem kX12_law : Lk mX12_law 4 := ⟨lwg_at 1326 (by decide +kernel) rfl, zX12, ⟨by decide +kernel, by decide +kernel⟩, by decide +kernel⟩
theorem iX12_law : Cond.instanceMethod yX12_law ∈ lw_g := lwg_at 1324 (by decide +kernel) rfl
theorem vX12_law : Cond.selects RX12 yX12_law yX12_law ∈ lw_g := lwg_at 1325 (by decide +kernel) rfl
abbrev mX12_feed : MI := (yX12_feed, cX12_feed, 5, some .int, 11)
theorem kX12_feed : Lk mX12_feed 2 := ⟨lwg_at 1330 (by decide +kernel) rfl, zX12, ⟨by decide +kernel, by decide +kernel⟩, by decide +kernel⟩
theorem iX12_feed : Cond.instanceMethod yX12_feed ∈ lw_g := lwg_at 1328 (by decide +kernel) rfl
theorem vX12_feed : Cond.selects RX12 yX12_feed yX12_feed ∈ lw_g := lwg_at 1329 (by decide +kernel) rfl
abbrev mX12_text : MI := (yX12_text, cX12_text, 5, some .int, 11)
theorem kX12_text : Lk mX12_text 1 := ⟨lwg_at 1335 (by decide +kernel) rfl, zX12, ⟨by decide +kernel, by decide +kernel⟩, by decide +kernel⟩
theorem iX12_text : Cond.instanceMethod yX12_text ∈ lw_g := lwg_at 1333 (by decide +kernel) rfl
theorem vX12_text : Cond.selects RX12 yX12_text yX12_text ∈ lw_g := lwg_at 1334 (by decide +kernel) rfl
abbrev mX12_rolls : MI := (yX12_rolls, cX12_rolls, 9, none, 11)
theorem kX12_rolls : Lk mX12_rolls 4 := ⟨lwg_at 1356 (by decide +kernel) rfl, zX12, ⟨by decide +kernel, by decide +kernel⟩, by decide +kernel⟩
theorem iX12_rolls : Cond.instanceMethod yX12_rolls ∈ lw_g := lwg_at 1355 (by decide +kernel) rfl
theorem vX12_rolls : Cond.selects RX12 yX12_rolls yX12_rolls ∈ lw_g := lwg_at 48 (by decide +kernel) rfl
abbrev mX12_rollsBy : MI := (yX12_rollsBy, cX12_rollsBy, 4, none, 11)
theorem kX12_rollsBy : Lk mX12_rollsBy 3 := ⟨lwg_at 1352 (by decide +kernel) rfl, zX12, ⟨by decide +kernel, by decide +kernel⟩, by decide +kernel⟩
theorem iX12_rollsBy : Cond.instanceMethod yX12_rollsBy ∈ lw_g := lwg_at 1351 (by decide +kernel) rfl
theorem vX12_rollsBy : Cond.selects RX12 yX12_rollsBy yX12_rollsBy ∈ lw_g := lwg_at 47 (by decide +kernel) rfl
abbrev mX12_roll : MI := (yX12_roll, cX12_roll, 4, some .int, 11)
theorem kX12_roll : Lk mX12_roll 3 := ⟨lwg_at 1343 (by decide +kernel) rfl, zX12, ⟨by decide +kernel, by decide +kernel⟩, by decide +kernel⟩
theorem iX12_roll : Cond.instanceMethod yX12_roll ∈ lw_g := lwg_at 1341 (by decide +kernel) rfl
theorem vX12_roll : Cond.selects RX12 yX12_roll yX12_roll ∈ lw_g := lwg_at 1342 (by decide +kernel) rfl
abbrev mX12_minutes : MI := (yX12_minutes, cX12_minutes, 2, some .int, 11)
theorem kX12_minutes : Lk mX12_minutes 1 := ⟨lwg_at 1360 (by decide +kernel) rfl, zX12, ⟨by decide +kernel, by decide +kernel⟩, by decide +kernel⟩
theorem iX12_minutes : Cond.instanceMethod yX12_minutes ∈ lw_g := lwg_at 1358 (by decide +kernel) rfl
theorem vX12_minutes : Cond.selects RX12 yX12_minutes yX12_minutes ∈ lw_g := lwg_at 1359 (by decide +kernel) rfl
abbrev mX12_drawn : MI := (yX12_drawn, cX12_drawn, 2, some .int, 11)
theorem kX12_drawn : Lk mX12_drawn 1 := ⟨lwg_at 1368 (by decide +kernel) rfl, zX12, ⟨by decide +kernel, by decide +kernel⟩, by decide +kernel⟩
theorem iX12_drawn : Cond.instanceMethod yX12_drawn ∈ lw_g := lwg_at 1367 (by decide +kernel) rfl
theorem vX12_drawn : Cond.selects RX12 yX12_drawn yX12_drawn ∈ lw_g := lwg_at 49 (by decide +kernel) rfl
abbrev mX12_days : MI := (yX12_days, cX12_days, 6, some .int, 11)
theorem kX12_days : Lk mX12_days 1 := ⟨lwg_at 1364 (by decide +kernel) rfl, zX12, ⟨by decide +kernel, by decide +kernel⟩, by decide +kernel⟩
theorem iX12_days : Cond.instanceMethod yX12_days ∈ lw_g := lwg_at 1362 (by decide +kernel) rfl
theorem vX12_days : Cond.selects RX12 yX12_days yX12_days ∈ lw_g := lwg_at 1363 (by decide +kernel) rfl
abbrev mX12_seen : MI := (yX12_seen, cX12_seen, 4, some .int, 11)
theorem kX12_seen : Lk mX12_seen 0 := ⟨lwg_at 1373 (by decide +kernel) rfl, zX12, ⟨by decide +kernel, by decide +kernel⟩, by decide +kernel⟩
theorem iX12_seen : Cond.instanceMethod yX12_seen ∈ lw_g := lwg_at 1372 (by decide +kernel) rfl
theorem vX12_seen : Cond.selects RX12 yX12_seen yX12_seen ∈ lw_g := lwg_at 50 (by decide +kernel) rfl
abbrev mX12_seams : MI := (yX12_seams, cX12_seams, 4, some .int, 11)
theorem kX12_seams : Lk mX12_seams 1 := ⟨lwg_at 1381 (by decide +kernel) rfl, zX12, ⟨by decide +kernel, by decide +kernel⟩, by decide +kernel⟩
theorem iX12_seams : Cond.instanceMethod yX12_seams ∈ lw_g := lwg_at 1379 (by decide +kernel) rfl
theorem vX12_seams : Cond.selects RX12 yX12_seams yX12_seams ∈ lw_g := lwg_at 1380 (by decide +kernel) rfl
abbrev mX12_isSheet : MI := (yX12_isSheet, cX12_isSheet, 1, some .boolean, 11)
theorem kX12_isSheet : Lk mX12_isSheet 1 := ⟨lwg_at 1388 (by decide +kernel) rfl, zX12, ⟨by decide +kernel, by decide +kernel⟩, by decide +kernel⟩
theorem sX12_isSheet : Cond.static yX12_isSheet ∈ lw_g := lwg_at 1387 (by decide +kernel) rfl
abbrev mX12_seenBy : MI := (yX12_seenBy, cX12_seenBy, 3, some .int, 11)
theorem kX12_seenBy : Lk mX12_seenBy 1 := ⟨lwg_at 1393 (by decide +kernel) rfl, zX12, ⟨by decide +kernel, by decide +kernel⟩, by decide +kernel⟩
theorem iX12_seenBy : Cond.instanceMethod yX12_seenBy ∈ lw_g := lwg_at 1392 (by decide +kernel) rfl
theorem vX12_seenBy : Cond.selects RX12 yX12_seenBy yX12_seenBy ∈ lw_g := lwg_at 52 (by decide +kernel) rfl
abbrev mX12_done : MI := (yX12_done, cX12_done, 5, some .int, 11)
theorem kX12_done : Lk mX12_done 2 := ⟨lwg_at 1385 (by decide +kernel) rfl, zX12, ⟨by decide +kernel, by decide +kernel⟩, by decide +kernel⟩
theorem iX12_done : Cond.instanceMethod yX12_done ∈ lw_g := lwg_at 1383 (by decide +kernel) rfl
theorem vX12_done : Cond.selects RX12 yX12_done yX12_done ∈ lw_g := lwg_at 1384 (by decide +kernel) rfl
abbrev mX12_goesOn : MI := (yX12_goesOn, cX12_goesOn, 7, some .boolean, 11)
theorem kX12_goesOn : Lk mX12_goesOn 0 := ⟨lwg_at 1409 (by decide +kernel) rfl, zX12, ⟨by decide +kernel, by decide +kernel⟩, by decide +kernel⟩
theorem iX12_goesOn : Cond.instanceMethod yX12_goesOn ∈ lw_g := lwg_at 1408 (by decide +kernel) rfl
theorem vX12_goesOn : Cond.selects RX12 yX12_goesOn yX12_goesOn ∈ lw_g := lwg_at 55 (by decide +kernel) rfl
abbrev mX12_leastSeen : MI := (yX12_leastSeen, cX12_leastSeen, 6, some .int, 11)
theorem kX12_leastSeen : Lk mX12_leastSeen 1 := ⟨lwg_at 1401 (by decide +kernel) rfl, zX12, ⟨by decide +kernel, by decide +kernel⟩, by decide +kernel⟩
theorem iX12_leastSeen : Cond.instanceMethod yX12_leastSeen ∈ lw_g := lwg_at 1400 (by decide +kernel) rfl
theorem vX12_leastSeen : Cond.selects RX12 yX12_leastSeen yX12_leastSeen ∈ lw_g := lwg_at 53 (by decide +kernel) rfl
abbrev mX12_order : MI := (yX12_order, cX12_order, 4, some .int, 11)
theorem kX12_order : Lk mX12_order 2 := ⟨lwg_at 1397 (by decide +kernel) rfl, zX12, ⟨by decide +kernel, by decide +kernel⟩, by decide +kernel⟩
theorem iX12_order : Cond.instanceMethod yX12_order ∈ lw_g := lwg_at 1395 (by decide +kernel) rfl
theorem vX12_order : Cond.selects RX12 yX12_order yX12_order ∈ lw_g := lwg_at 1396 (by decide +kernel) rfl
abbrev mX12_clean : MI := (yX12_clean, cX12_clean, 7, some .int, 11)
theorem kX12_clean : Lk mX12_clean 2 := ⟨lwg_at 1413 (by decide +kernel) rfl, zX12, ⟨by decide +kernel, by decide +kernel⟩, by decide +kernel⟩
theorem iX12_clean : Cond.instanceMethod yX12_clean ∈ lw_g := lwg_at 1411 (by decide +kernel) rfl
theorem vX12_clean : Cond.selects RX12 yX12_clean yX12_clean ∈ lw_g := lwg_at 1412 (by decide +kernel) rfl
abbrev mX12_seenAway : MI := (yX12_seenAway, cX12_seenAway, 5, some .int, 11)
theorem kX12_seenAway : Lk mX12_seenAway 3 := ⟨lwg_at 1425 (by decide +kernel) rfl, zX12, ⟨by decide +kernel, by decide +kernel⟩, by decide +kernel⟩
theorem iX12_seenAway : Cond.instanceMethod yX12_seenAway ∈ lw_g := lwg_at 1424 (by decide +kernel) rfl
theorem vX12_seenAway : Cond.selects RX12 yX12_seenAway yX12_seenAway ∈ lw_g := lwg_at 57 (by decide +kernel) rfl
abbrev mX12_isLater : MI := (yX12_isLater, cX12_isLater, 2, some .boolean, 11)
theorem kX12_isLater : Lk mX12_isLater 1 := ⟨lwg_at 1421 (by decide +kernel) rfl, zX12, ⟨by decide +kernel, by decide +kernel⟩, by decide +kernel⟩
theorem iX12_isLater : Cond.instanceMethod yX12_isLater ∈ lw_g := lwg_at 1420 (by decide +kernel) rfl
theorem vX12_isLater : Cond.selects RX12 yX12_isLater yX12_isLater ∈ lw_g := lwg_at 56 (by decide +kernel) rfl
abbrev mX12_called : MI := (yX12_called, cX12_called, 4, some .int, 11)
theorem kX12_called : Lk mX12_called 3 := ⟨lwg_at 1417 (by decide +kernel) rfl, zX12, ⟨by decide +kernel, by decide +kernel⟩, by decide +kernel⟩
theorem iX12_called : Cond.instanceMethod yX12_called ∈ lw_g := lwg_at 1415 (by decide +kernel) rfl
theorem vX12_called : Cond.selects RX12 yX12_called yX12_called ∈ lw_g := lwg_at 1416 (by decide +kernel) rfl
abbrev mX12_worst : MI := (yX12_worst, cX12_worst, 8, some .int, 11)
theorem kX12_worst : Lk mX12_worst 3 := ⟨lwg_at 1429 (by decide +kernel) rfl, zX12, ⟨by decide +kernel, by decide +kernel⟩, by decide +kernel⟩
theorem iX12_worst : Cond.instanceMethod yX12_worst ∈ lw_g := lwg_at 1427 (by decide +kernel) rfl
theorem vX12_worst : Cond.selects RX12 yX12_worst yX12_worst ∈ lw_g := lwg_at 1428 (by decide +kernel) rfl
abbrev mX12_howLong : MI := (yX12_howLong, cX12_howLong, 5, some .int, 11)
theorem kX12_howLong : Lk mX12_howLong 2 := ⟨lwg_at 1433 (by decide +kernel) rfl, zX12, ⟨by decide +kernel, by decide +kernel⟩, by decide +kernel⟩
theorem iX12_howLong : Cond.instanceMethod yX12_howLong ∈ lw_g := lwg_at 1431 (by decide +kernel) rfl
theorem vX12_howLong : Cond.selects RX12 yX12_howLong yX12_howLong ∈ lw_g := lwg_at 1432 (by decide +kernel) rfl
abbrev mX12_cans : MI := (yX12_cans, cX12_cans, 3, some .int, 11)
theorem kX12_cans : Lk mX12_cans 1 := ⟨lwg_at 1437 (by decide +kernel) rfl, zX12, ⟨by decide +kernel, by decide +kernel⟩, by decide +kernel⟩
theorem iX12_cans : Cond.instanceMethod yX12_cans ∈ lw_g := lwg_at 1435 (by decide +kernel) rfl
theorem vX12_cans : Cond.selects RX12 yX12_cans yX12_cans ∈ lw_g := lwg_at 1436 (by decide +kernel) rfl
abbrev mX12_rollsSo : MI := (yX12_rollsSo, cX12_rollsSo, 7, some .boolean, 11)
theorem kX12_rollsSo : Lk mX12_rollsSo 4 := ⟨lwg_at 1445 (by decide +kernel) rfl, zX12, ⟨by decide +kernel, by decide +kernel⟩, by decide +kernel⟩
theorem iX12_rollsSo : Cond.instanceMethod yX12_rollsSo ∈ lw_g := lwg_at 1444 (by decide +kernel) rfl
theorem vX12_rollsSo : Cond.selects RX12 yX12_rollsSo yX12_rollsSo ∈ lw_g := lwg_at 58 (by decide +kernel) rfl
abbrev mX12_whose : MI := (yX12_whose, cX12_whose, 5, some .int, 11)
theorem kX12_whose : Lk mX12_whose 3 := ⟨lwg_at 1441 (by decide +kernel) rfl, zX12, ⟨by decide +kernel, by decide +kernel⟩, by decide +kernel⟩
theorem iX12_whose : Cond.instanceMethod yX12_whose ∈ lw_g := lwg_at 1439 (by decide +kernel) rfl
theorem vX12_whose : Cond.selects RX12 yX12_whose yX12_whose ∈ lw_g := lwg_at 1440 (by decide +kernel) rfl
abbrev mX12_odds : MI := (yX12_odds, cX12_odds, 8, some .int, 11)
theorem kX12_odds : Lk mX12_odds 4 := ⟨lwg_at 1449 (by decide +kernel) rfl, zX12, ⟨by decide +kernel, by decide +kernel⟩, by decide +kernel⟩
theorem iX12_odds : Cond.instanceMethod yX12_odds ∈ lw_g := lwg_at 1447 (by decide +kernel) rfl
theorem vX12_odds : Cond.selects RX12 yX12_odds yX12_odds ∈ lw_g := lwg_at 1448 (by decide +kernel) rfl
abbrev mX12_seed : MI := (yX12_seed, cX12_seed, 3, some .int, 11)
theorem kX12_seed : Lk mX12_seed 1 := ⟨lwg_at 1453 (by decide +kernel) rfl, zX12, ⟨by decide +kernel, by decide +kernel⟩, by decide +kernel⟩
theorem iX12_seed : Cond.instanceMethod yX12_seed ∈ lw_g := lwg_at 1451 (by decide +kernel) rfl
theorem vX12_seed : Cond.selects RX12 yX12_seed yX12_seed ∈ lw_g := lwg_at 1452 (by decide +kernel) rfl
abbrev mX12_ran : MI := (yX12_ran, cX12_ran, 2, none, 11)
theorem kX12_ran : Lk mX12_ran 1 := ⟨lwg_at 1465 (by decide +kernel) rfl, zX12, ⟨by decide +kernel, by decide +kernel⟩, by decide +kernel⟩
theorem iX12_ran : Cond.instanceMethod yX12_ran ∈ lw_g := lwg_at 1464 (by decide +kernel) rfl
theorem vX12_ran : Cond.selects RX12 yX12_ran yX12_ran ∈ lw_g := lwg_at 60 (by decide +kernel) rfl
abbrev mX12_loadsIn : MI := (yX12_loadsIn, cX12_loadsIn, 3, some .int, 11)
theorem kX12_loadsIn : Lk mX12_loadsIn 2 := ⟨lwg_at 1461 (by decide +kernel) rfl, zX12, ⟨by decide +kernel, by decide +kernel⟩, by decide +kernel⟩
theorem iX12_loadsIn : Cond.instanceMethod yX12_loadsIn ∈ lw_g := lwg_at 1460 (by decide +kernel) rfl
theorem vX12_loadsIn : Cond.selects RX12 yX12_loadsIn yX12_loadsIn ∈ lw_g := lwg_at 59 (by decide +kernel) rfl
abbrev mX12_driesIn : MI := (yX12_driesIn, cX12_driesIn, 3, some .int, 11)
theorem kX12_driesIn : Lk mX12_driesIn 2 := ⟨lwg_at 1473 (by decide +kernel) rfl, zX12, ⟨by decide +kernel, by decide +kernel⟩, by decide +kernel⟩
theorem iX12_driesIn : Cond.instanceMethod yX12_driesIn ∈ lw_g := lwg_at 1472 (by decide +kernel) rfl
theorem vX12_driesIn : Cond.selects RX12 yX12_driesIn yX12_driesIn ∈ lw_g := lwg_at 62 (by decide +kernel) rfl
abbrev mX12_rollsIn : MI := (yX12_rollsIn, cX12_rollsIn, 4, some .int, 11)
theorem kX12_rollsIn : Lk mX12_rollsIn 2 := ⟨lwg_at 1469 (by decide +kernel) rfl, zX12, ⟨by decide +kernel, by decide +kernel⟩, by decide +kernel⟩
theorem iX12_rollsIn : Cond.instanceMethod yX12_rollsIn ∈ lw_g := lwg_at 1468 (by decide +kernel) rfl
theorem vX12_rollsIn : Cond.selects RX12 yX12_rollsIn yX12_rollsIn ∈ lw_g := lwg_at 61 (by decide +kernel) rfl
abbrev mX12_tellsIn : MI := (yX12_tellsIn, cX12_tellsIn, 4, some .int, 11)
theorem kX12_tellsIn : Lk mX12_tellsIn 2 := ⟨lwg_at 1477 (by decide +kernel) rfl, zX12, ⟨by decide +kernel, by decide +kernel⟩, by decide +kernel⟩
theorem iX12_tellsIn : Cond.instanceMethod yX12_tellsIn ∈ lw_g := lwg_at 1476 (by decide +kernel) rfl
theorem vX12_tellsIn : Cond.selects RX12 yX12_tellsIn yX12_tellsIn ∈ lw_g := lwg_at 63 (by decide +kernel) rfl
abbrev mX12_voice : MI := (yX12_voice, cX12_voice, 4, some .int, 11)
theorem kX12_voice : Lk mX12_voice 3 := ⟨lwg_at 1457 (by decide +kernel) rfl, zX12, ⟨by decide +kernel, by decide +kernel⟩, by decide +kernel⟩
theorem iX12_voice : Cond.instanceMethod yX12_voice ∈ lw_g := lwg_at 1455 (by decide +kernel) rfl
theorem vX12_voice : Cond.selects RX12 yX12_voice yX12_voice ∈ lw_g := lwg_at 1456 (by decide +kernel) rfl
abbrev mX12_trace : MI := (yX12_trace, cX12_trace, 2, some .int, 11)
theorem kX12_trace : Lk mX12_trace 1 := ⟨lwg_at 1481 (by decide +kernel) rfl, zX12, ⟨by decide +kernel, by decide +kernel⟩, by decide +kernel⟩
theorem iX12_trace : Cond.instanceMethod yX12_trace ∈ lw_g := lwg_at 1479 (by decide +kernel) rfl
theorem vX12_trace : Cond.selects RX12 yX12_trace yX12_trace ∈ lw_g := lwg_at 1480 (by decide +kernel) rfl
abbrev mX12_narrow : MI := (yX12_narrow, cX12_narrow, 2, some .int, 11)
theorem kX12_narrow : Lk mX12_narrow 2 := ⟨lwg_at 1492 (by decide +kernel) rfl, zX12, ⟨by decide +kernel, by decide +kernel⟩, by decide +kernel⟩
theorem sX12_narrow : Cond.static yX12_narrow ∈ lw_g := lwg_at 1491 (by decide +kernel) rfl
abbrev mX12_sheet : MI := (yX12_sheet, cX12_sheet, 5, some .int, 11)
theorem kX12_sheet : Lk mX12_sheet 3 := ⟨lwg_at 1485 (by decide +kernel) rfl, zX12, ⟨by decide +kernel, by decide +kernel⟩, by decide +kernel⟩
theorem iX12_sheet : Cond.instanceMethod yX12_sheet ∈ lw_g := lwg_at 1483 (by decide +kernel) rfl
theorem vX12_sheet : Cond.selects RX12 yX12_sheet yX12_sheet ∈ lw_g := lwg_at 1484 (by decide +kernel) rfl
abbrev mX12_put : MI := (yX12_put, cX12_put, 4, some .int, 11)
theorem kX12_put : Lk mX12_put 3 := ⟨lwg_at 1489 (by decide +kernel) rfl, zX12, ⟨by decide +kernel, by decide +kernel⟩, by decide +kernel⟩
theorem iX12_put : Cond.instanceMethod yX12_put ∈ lw_g := lwg_at 1487 (by decide +kernel) rfl
theorem vX12_put : Cond.selects RX12 yX12_put yX12_put ∈ lw_g := lwg_at 1488 (by decide +kernel) rfl
abbrev mX12_move : MI := (yX12_move, cX12_move, 7, some .int, 11)
theorem kX12_move : Lk mX12_move 5 := ⟨lwg_at 1496 (by decide +kernel) rfl, zX12, ⟨by decide +kernel, by decide +kernel⟩, by decide +kernel⟩
theorem iX12_move : Cond.instanceMethod yX12_move ∈ lw_g := lwg_at 1494 (by decide +kernel) rfl
theorem vX12_move : Cond.selects RX12 yX12_move yX12_move ∈ lw_g := lwg_at 1495 (by decide +kernel) rfl
abbrev mX12_whites : MI := (yX12_whites, cX12_whites, 3, some .int, 11)
theorem kX12_whites : Lk mX12_whites 1 := ⟨lwg_at 1500 (by decide +kernel) rfl, zX12, ⟨by decide +kernel, by decide +kernel⟩, by decide +kernel⟩
theorem iX12_whites : Cond.instanceMethod yX12_whites ∈ lw_g := lwg_at 1498 (by decide +kernel) rfl
theorem vX12_whites : Cond.selects RX12 yX12_whites yX12_whites ∈ lw_g := lwg_at 1499 (by decide +kernel) rfl
abbrev mX12_judge : MI := (yX12_judge, cX12_judge, 3, some .int, 11)
theorem kX12_judge : Lk mX12_judge 1 := ⟨lwg_at 1504 (by decide +kernel) rfl, zX12, ⟨by decide +kernel, by decide +kernel⟩, by decide +kernel⟩
theorem iX12_judge : Cond.instanceMethod yX12_judge ∈ lw_g := lwg_at 1502 (by decide +kernel) rfl
theorem vX12_judge : Cond.selects RX12 yX12_judge yX12_judge ∈ lw_g := lwg_at 1503 (by decide +kernel) rfl
abbrev mX12_image : MI := (yX12_image, cX12_image, 1, some .int, 11)
theorem kX12_image : Lk mX12_image 0 := ⟨lwg_at 1508 (by decide +kernel) rfl, zX12, ⟨by decide +kernel, by decide +kernel⟩, by decide +kernel⟩
theorem iX12_image : Cond.instanceMethod yX12_image ∈ lw_g := lwg_at 1506 (by decide +kernel) rfl
theorem vX12_image : Cond.selects RX12 yX12_image yX12_image ∈ lw_g := lwg_at 1507 (by decide +kernel) rfl
abbrev mX12_restore : MI := (yX12_restore, cX12_restore, 1, some .int, 11)
theorem kX12_restore : Lk mX12_restore 0 := ⟨lwg_at 1512 (by decide +kernel) rfl, zX12, ⟨by decide +kernel, by decide +kernel⟩, by decide +kernel⟩
theorem iX12_restore : Cond.instanceMethod yX12_restore ∈ lw_g := lwg_at 1510 (by decide +kernel) rfl
theorem vX12_restore : Cond.selects RX12 yX12_restore yX12_restore ∈ lw_g := lwg_at 1511 (by decide +kernel) rfl
abbrev mX12_tell : MI := (yX12_tell, cX12_tell, 2, some .int, 11)
theorem kX12_tell : Lk mX12_tell 1 := ⟨lwg_at 1516 (by decide +kernel) rfl, zX12, ⟨by decide +kernel, by decide +kernel⟩, by decide +kernel⟩
theorem iX12_tell : Cond.instanceMethod yX12_tell ∈ lw_g := lwg_at 1514 (by decide +kernel) rfl
theorem vX12_tell : Cond.selects RX12 yX12_tell yX12_tell ∈ lw_g := lwg_at 1515 (by decide +kernel) rfl
abbrev mX12_check : MI := (yX12_check, cX12_check, 4, some .int, 11)
theorem kX12_check : Lk mX12_check 0 := ⟨lwg_at 1520 (by decide +kernel) rfl, zX12, ⟨by decide +kernel, by decide +kernel⟩, by decide +kernel⟩
theorem iX12_check : Cond.instanceMethod yX12_check ∈ lw_g := lwg_at 1518 (by decide +kernel) rfl
theorem vX12_check : Cond.selects RX12 yX12_check yX12_check ∈ lw_g := lwg_at 1519 (by decide +kernel) rfl
abbrev mX12_rolledMany : MI := (yX12_rolledMany, cX12_rolledMany, 3, some .int, 11)
theorem kX12_rolledMany : Lk mX12_rolledMany 0 := ⟨lwg_at 1528 (by decide +kernel) rfl, zX12, ⟨by decide +kernel, by decide +kernel⟩, by decide +kernel⟩
theorem iX12_rolledMany : Cond.instanceMethod yX12_rolledMany ∈ lw_g := lwg_at 1527 (by decide +kernel) rfl
theorem vX12_rolledMany : Cond.selects RX12 yX12_rolledMany yX12_rolledMany ∈ lw_g := lwg_at 64 (by decide +kernel) rfl
abbrev mX12_count : MI := (yX12_count, cX12_count, 2, some .int, 11)
theorem kX12_count : Lk mX12_count 1 := ⟨lwg_at 1524 (by decide +kernel) rfl, zX12, ⟨by decide +kernel, by decide +kernel⟩, by decide +kernel⟩
theorem iX12_count : Cond.instanceMethod yX12_count ∈ lw_g := lwg_at 1522 (by decide +kernel) rfl
theorem vX12_count : Cond.selects RX12 yX12_count yX12_count ∈ lw_g := lwg_at 1523 (by decide +kernel) rfl
abbrev mX12_told : MI := (yX12_told, cX12_told, 2, some .int, 11)
theorem kX12_told : Lk mX12_told 1 := ⟨lwg_at 1532 (by decide +kernel) rfl, zX12, ⟨by decide +kernel, by decide +kernel⟩, by decide +kernel⟩
theorem iX12_told : Cond.instanceMethod yX12_told ∈ lw_g := lwg_at 1530 (by decide +kernel) rfl
theorem vX12_told : Cond.selects RX12 yX12_told yX12_told ∈ lw_g := lwg_at 1531 (by decide +kernel) rfl
theorem cL_7 : Cond.classLink RL 7 "OneGoCeiling" ∈ lw_g := lwg_at 80 (by decide +kernel) rfl
theorem nL_9 : Cond.methodLink RL 9 yX11_init ∈ lw_g := lwg_at 82 (by decide +kernel) rfl
theorem nX11_1 : Cond.methodLink RX11 1 objectInit ∈ lw_g := lwg_at 85 (by decide +kernel) rfl
theorem cX11_7 : Cond.classLink RX11 7 "OneGoCeiling$State" ∈ lw_g := lwg_at 88 (by decide +kernel) rfl
theorem nX11_9 : Cond.methodLink RX11 9 yX7_init ∈ lw_g := lwg_at 90 (by decide +kernel) rfl
theorem nX7_1 : Cond.methodLink RX7 1 objectInit ∈ lw_g := lwg_at 93 (by decide +kernel) rfl
theorem cX7_7 : Cond.classLink RX7 7 "OneGoCeiling$Ceiling" ∈ lw_g := lwg_at 94 (by decide +kernel) rfl
theorem nX7_9 : Cond.methodLink RX7 9 yX0_init ∈ lw_g := lwg_at 96 (by decide +kernel) rfl
theorem nX0_1 : Cond.methodLink RX0 1 objectInit ∈ lw_g := lwg_at 99 (by decide +kernel) rfl
theorem cX0_7 : Cond.classLink RX0 7 "OneGoCeiling$Row" ∈ lw_g := lwg_at 100 (by decide +kernel) rfl
theorem nX0_11 : Cond.methodLink RX0 11 yX5_init ∈ lw_g := lwg_at 102 (by decide +kernel) rfl
theorem nX5_1 : Cond.methodLink RX5 1 objectInit ∈ lw_g := lwg_at 105 (by decide +kernel) rfl
theorem nX5_13 : Cond.methodLink RX5 13 Lib.Math.max.name ∈ lw_g := lwg_at 106 (by decide +kernel) rfl
theorem fX5_19 : Cond.fieldLink RX5 19 (TX5 0).1 (TX5 0).2.1 (TX5 0).2.2.1 ∈ lw_g := lwg_at 109 (by decide +kernel) rfl
theorem fX5_7 : Cond.fieldLink RX5 7 (TX5 1).1 (TX5 1).2.1 (TX5 1).2.2.1 ∈ lw_g := lwg_at 110 (by decide +kernel) rfl
theorem nX0_46 : Cond.methodLink RX0 46 yX5_fill ∈ lw_g := lwg_at 117 (by decide +kernel) rfl
theorem nX5_23 : Cond.methodLink RX5 23 Lib.Math.min.name ∈ lw_g := lwg_at 121 (by decide +kernel) rfl
theorem fX0_14 : Cond.fieldLink RX0 14 (TX0 0).1 (TX0 0).2.1 (TX0 0).2.2.1 ∈ lw_g := lwg_at 124 (by decide +kernel) rfl
theorem fX0_18 : Cond.fieldLink RX0 18 (TX0 1).1 (TX0 1).2.1 (TX0 1).2.2.1 ∈ lw_g := lwg_at 125 (by decide +kernel) rfl
theorem fX0_21 : Cond.fieldLink RX0 21 (TX0 2).1 (TX0 2).2.1 (TX0 2).2.2.1 ∈ lw_g := lwg_at 126 (by decide +kernel) rfl
theorem fX0_25 : Cond.fieldLink RX0 25 (TX0 3).1 (TX0 3).2.1 (TX0 3).2.2.1 ∈ lw_g := lwg_at 127 (by decide +kernel) rfl
theorem fX0_28 : Cond.fieldLink RX0 28 (TX0 4).1 (TX0 4).2.1 (TX0 4).2.2.1 ∈ lw_g := lwg_at 128 (by decide +kernel) rfl
theorem fX0_31 : Cond.fieldLink RX0 31 (TX0 5).1 (TX0 5).2.1 (TX0 5).2.2.1 ∈ lw_g := lwg_at 129 (by decide +kernel) rfl
theorem fX0_34 : Cond.fieldLink RX0 34 (TX0 6).1 (TX0 6).2.1 (TX0 6).2.2.1 ∈ lw_g := lwg_at 130 (by decide +kernel) rfl
theorem fX0_37 : Cond.fieldLink RX0 37 (TX0 7).1 (TX0 7).2.1 (TX0 7).2.2.1 ∈ lw_g := lwg_at 131 (by decide +kernel) rfl
theorem fX0_40 : Cond.fieldLink RX0 40 (TX0 8).1 (TX0 8).2.1 (TX0 8).2.2.1 ∈ lw_g := lwg_at 132 (by decide +kernel) rfl
theorem fX0_43 : Cond.fieldLink RX0 43 (TX0 9).1 (TX0 9).2.1 (TX0 9).2.2.1 ∈ lw_g := lwg_at 133 (by decide +kernel) rfl
theorem cX7_16 : Cond.classLink RX7 16 "OneGoCeiling$Crew" ∈ lw_g := lwg_at 155 (by decide +kernel) rfl
theorem nX7_18 : Cond.methodLink RX7 18 yX1_init ∈ lw_g := lwg_at 157 (by decide +kernel) rfl
theorem nX1_1 : Cond.methodLink RX1 1 objectInit ∈ lw_g := lwg_at 160 (by decide +kernel) rfl
theorem cX1_7 : Cond.classLink RX1 7 "OneGoCeiling$Row" ∈ lw_g := lwg_at 161 (by decide +kernel) rfl
theorem nX1_11 : Cond.methodLink RX1 11 yX5_init ∈ lw_g := lwg_at 162 (by decide +kernel) rfl
theorem fX1_14 : Cond.fieldLink RX1 14 (TX1 0).1 (TX1 0).2.1 (TX1 0).2.2.1 ∈ lw_g := lwg_at 163 (by decide +kernel) rfl
theorem fX1_18 : Cond.fieldLink RX1 18 (TX1 1).1 (TX1 1).2.1 (TX1 1).2.2.1 ∈ lw_g := lwg_at 164 (by decide +kernel) rfl
theorem cX7_23 : Cond.classLink RX7 23 "OneGoCeiling$Text" ∈ lw_g := lwg_at 170 (by decide +kernel) rfl
theorem nX7_25 : Cond.methodLink RX7 25 yX8_init ∈ lw_g := lwg_at 172 (by decide +kernel) rfl
theorem nX8_1 : Cond.methodLink RX8 1 objectInit ∈ lw_g := lwg_at 175 (by decide +kernel) rfl
theorem cX8_7 : Cond.classLink RX8 7 "OneGoCeiling$Row" ∈ lw_g := lwg_at 176 (by decide +kernel) rfl
theorem nX8_11 : Cond.methodLink RX8 11 yX5_init ∈ lw_g := lwg_at 177 (by decide +kernel) rfl
theorem fX8_21 : Cond.fieldLink RX8 21 (TX8 0).1 (TX8 0).2.1 (TX8 0).2.2.1 ∈ lw_g := lwg_at 178 (by decide +kernel) rfl
theorem fX8_14 : Cond.fieldLink RX8 14 (TX8 1).1 (TX8 1).2.1 (TX8 1).2.2.1 ∈ lw_g := lwg_at 179 (by decide +kernel) rfl
theorem fX8_18 : Cond.fieldLink RX8 18 (TX8 2).1 (TX8 2).2.1 (TX8 2).2.2.1 ∈ lw_g := lwg_at 180 (by decide +kernel) rfl
theorem cX7_35 : Cond.classLink RX7 35 "OneGoCeiling$Row" ∈ lw_g := lwg_at 188 (by decide +kernel) rfl
theorem nX7_37 : Cond.methodLink RX7 37 yX5_init ∈ lw_g := lwg_at 189 (by decide +kernel) rfl
theorem fX7_10 : Cond.fieldLink RX7 10 (TX7 0).1 (TX7 0).2.1 (TX7 0).2.2.1 ∈ lw_g := lwg_at 190 (by decide +kernel) rfl
theorem fX9_48 : Cond.fieldLink RX9 48 (TX7 0).1 (TX7 0).2.1 (TX7 0).2.2.1 ∈ lw_g := lwg_at 191 (by decide +kernel) rfl
theorem fX11_92 : Cond.fieldLink RX11 92 (TX7 0).1 (TX7 0).2.1 (TX7 0).2.2.1 ∈ lw_g := lwg_at 192 (by decide +kernel) rfl
theorem fX7_19 : Cond.fieldLink RX7 19 (TX7 1).1 (TX7 1).2.1 (TX7 1).2.2.1 ∈ lw_g := lwg_at 193 (by decide +kernel) rfl
theorem fX9_58 : Cond.fieldLink RX9 58 (TX7 1).1 (TX7 1).2.1 (TX7 1).2.2.1 ∈ lw_g := lwg_at 194 (by decide +kernel) rfl
theorem fX11_140 : Cond.fieldLink RX11 140 (TX7 1).1 (TX7 1).2.1 (TX7 1).2.2.1 ∈ lw_g := lwg_at 195 (by decide +kernel) rfl
theorem fX7_28 : Cond.fieldLink RX7 28 (TX7 2).1 (TX7 2).2.1 (TX7 2).2.2.1 ∈ lw_g := lwg_at 196 (by decide +kernel) rfl
theorem fX11_28 : Cond.fieldLink RX11 28 (TX7 2).1 (TX7 2).2.1 (TX7 2).2.2.1 ∈ lw_g := lwg_at 197 (by decide +kernel) rfl
theorem fX7_32 : Cond.fieldLink RX7 32 (TX7 3).1 (TX7 3).2.1 (TX7 3).2.2.1 ∈ lw_g := lwg_at 198 (by decide +kernel) rfl
theorem fX11_32 : Cond.fieldLink RX11 32 (TX7 3).1 (TX7 3).2.1 (TX7 3).2.2.1 ∈ lw_g := lwg_at 199 (by decide +kernel) rfl
theorem fX7_38 : Cond.fieldLink RX7 38 (TX7 4).1 (TX7 4).2.1 (TX7 4).2.2.1 ∈ lw_g := lwg_at 200 (by decide +kernel) rfl
theorem fX11_180 : Cond.fieldLink RX11 180 (TX7 4).1 (TX7 4).2.1 (TX7 4).2.2.1 ∈ lw_g := lwg_at 201 (by decide +kernel) rfl
theorem fX7_42 : Cond.fieldLink RX7 42 (TX7 5).1 (TX7 5).2.1 (TX7 5).2.2.1 ∈ lw_g := lwg_at 202 (by decide +kernel) rfl
theorem fX11_358 : Cond.fieldLink RX11 358 (TX7 5).1 (TX7 5).2.1 (TX7 5).2.2.1 ∈ lw_g := lwg_at 203 (by decide +kernel) rfl
theorem fX7_45 : Cond.fieldLink RX7 45 (TX7 6).1 (TX7 6).2.1 (TX7 6).2.2.1 ∈ lw_g := lwg_at 204 (by decide +kernel) rfl
theorem fX11_310 : Cond.fieldLink RX11 310 (TX7 6).1 (TX7 6).2.1 (TX7 6).2.2.1 ∈ lw_g := lwg_at 205 (by decide +kernel) rfl
theorem cX11_19 : Cond.classLink RX11 19 "OneGoCeiling$Reader" ∈ lw_g := lwg_at 221 (by decide +kernel) rfl
theorem nX11_21 : Cond.methodLink RX11 21 yX4_init ∈ lw_g := lwg_at 223 (by decide +kernel) rfl
theorem nX4_1 : Cond.methodLink RX4 1 objectInit ∈ lw_g := lwg_at 226 (by decide +kernel) rfl
theorem cX4_7 : Cond.classLink RX4 7 "OneGoCeiling$Row" ∈ lw_g := lwg_at 227 (by decide +kernel) rfl
theorem nX4_11 : Cond.methodLink RX4 11 yX5_init ∈ lw_g := lwg_at 228 (by decide +kernel) rfl
theorem fX4_14 : Cond.fieldLink RX4 14 (TX4 0).1 (TX4 0).2.1 (TX4 0).2.2.1 ∈ lw_g := lwg_at 229 (by decide +kernel) rfl
theorem fX4_20 : Cond.fieldLink RX4 20 (TX4 1).1 (TX4 1).2.1 (TX4 1).2.2.1 ∈ lw_g := lwg_at 230 (by decide +kernel) rfl
theorem fX4_23 : Cond.fieldLink RX4 23 (TX4 2).1 (TX4 2).2.1 (TX4 2).2.2.1 ∈ lw_g := lwg_at 231 (by decide +kernel) rfl
theorem fX4_27 : Cond.fieldLink RX4 27 (TX4 3).1 (TX4 3).2.1 (TX4 3).2.2.1 ∈ lw_g := lwg_at 232 (by decide +kernel) rfl
theorem fX4_31 : Cond.fieldLink RX4 31 (TX4 4).1 (TX4 4).2.1 (TX4 4).2.2.1 ∈ lw_g := lwg_at 233 (by decide +kernel) rfl
theorem cX11_26 : Cond.classLink RX11 26 "OneGoCeiling$Eye" ∈ lw_g := lwg_at 245 (by decide +kernel) rfl
theorem nX11_35 : Cond.methodLink RX11 35 yX2_init ∈ lw_g := lwg_at 247 (by decide +kernel) rfl
theorem nX2_3 : Cond.methodLink RX2 3 objectInit ∈ lw_g := lwg_at 250 (by decide +kernel) rfl
theorem cX2_9 : Cond.classLink RX2 9 "OneGoCeiling$Row" ∈ lw_g := lwg_at 251 (by decide +kernel) rfl
theorem nX2_13 : Cond.methodLink RX2 13 yX5_init ∈ lw_g := lwg_at 252 (by decide +kernel) rfl
theorem nX2_30 : Cond.methodLink RX2 30 yX5_fill ∈ lw_g := lwg_at 253 (by decide +kernel) rfl
theorem fX2_23 : Cond.fieldLink RX2 23 (TX2 0).1 (TX2 0).2.1 (TX2 0).2.2.1 ∈ lw_g := lwg_at 254 (by decide +kernel) rfl
theorem fX2_27 : Cond.fieldLink RX2 27 (TX2 1).1 (TX2 1).2.1 (TX2 1).2.2.1 ∈ lw_g := lwg_at 255 (by decide +kernel) rfl
theorem fX2_16 : Cond.fieldLink RX2 16 (TX2 2).1 (TX2 2).2.1 (TX2 2).2.2.1 ∈ lw_g := lwg_at 256 (by decide +kernel) rfl
theorem fX2_20 : Cond.fieldLink RX2 20 (TX2 3).1 (TX2 3).2.1 (TX2 3).2.2.1 ∈ lw_g := lwg_at 257 (by decide +kernel) rfl
theorem cX11_42 : Cond.classLink RX11 42 "OneGoCeiling$Thought" ∈ lw_g := lwg_at 267 (by decide +kernel) rfl
theorem nX11_44 : Cond.methodLink RX11 44 yX9_init ∈ lw_g := lwg_at 269 (by decide +kernel) rfl
theorem nX9_1 : Cond.methodLink RX9 1 objectInit ∈ lw_g := lwg_at 272 (by decide +kernel) rfl
theorem cX9_7 : Cond.classLink RX9 7 "OneGoCeiling$Ceiling" ∈ lw_g := lwg_at 273 (by decide +kernel) rfl
theorem nX9_9 : Cond.methodLink RX9 9 yX0_init ∈ lw_g := lwg_at 274 (by decide +kernel) rfl
theorem cX9_16 : Cond.classLink RX9 16 "OneGoCeiling$Row" ∈ lw_g := lwg_at 275 (by decide +kernel) rfl
theorem nX9_18 : Cond.methodLink RX9 18 yX5_init ∈ lw_g := lwg_at 276 (by decide +kernel) rfl
theorem fX9_44 : Cond.fieldLink RX9 44 (TX9 0).1 (TX9 0).2.1 (TX9 0).2.2.1 ∈ lw_g := lwg_at 277 (by decide +kernel) rfl
theorem fX9_10 : Cond.fieldLink RX9 10 (TX9 1).1 (TX9 1).2.1 (TX9 1).2.2.1 ∈ lw_g := lwg_at 278 (by decide +kernel) rfl
theorem fX9_21 : Cond.fieldLink RX9 21 (TX9 2).1 (TX9 2).2.1 (TX9 2).2.2.1 ∈ lw_g := lwg_at 279 (by decide +kernel) rfl
theorem fX9_25 : Cond.fieldLink RX9 25 (TX9 3).1 (TX9 3).2.1 (TX9 3).2.2.1 ∈ lw_g := lwg_at 280 (by decide +kernel) rfl
theorem fX9_28 : Cond.fieldLink RX9 28 (TX9 4).1 (TX9 4).2.1 (TX9 4).2.2.1 ∈ lw_g := lwg_at 281 (by decide +kernel) rfl
theorem fX9_31 : Cond.fieldLink RX9 31 (TX9 5).1 (TX9 5).2.1 (TX9 5).2.2.1 ∈ lw_g := lwg_at 282 (by decide +kernel) rfl
theorem fX9_34 : Cond.fieldLink RX9 34 (TX9 6).1 (TX9 6).2.1 (TX9 6).2.2.1 ∈ lw_g := lwg_at 283 (by decide +kernel) rfl
theorem fX9_37 : Cond.fieldLink RX9 37 (TX9 7).1 (TX9 7).2.1 (TX9 7).2.2.1 ∈ lw_g := lwg_at 284 (by decide +kernel) rfl
theorem fX9_40 : Cond.fieldLink RX9 40 (TX9 8).1 (TX9 8).2.1 (TX9 8).2.2.1 ∈ lw_g := lwg_at 285 (by decide +kernel) rfl
theorem cX11_51 : Cond.classLink RX11 51 "OneGoCeiling$Voices" ∈ lw_g := lwg_at 305 (by decide +kernel) rfl
theorem nX11_53 : Cond.methodLink RX11 53 yX10_init ∈ lw_g := lwg_at 307 (by decide +kernel) rfl
theorem nX10_1 : Cond.methodLink RX10 1 objectInit ∈ lw_g := lwg_at 310 (by decide +kernel) rfl
theorem cX10_7 : Cond.classLink RX10 7 "OneGoCeiling$Row" ∈ lw_g := lwg_at 311 (by decide +kernel) rfl
theorem nX10_11 : Cond.methodLink RX10 11 yX5_init ∈ lw_g := lwg_at 312 (by decide +kernel) rfl
theorem fX10_14 : Cond.fieldLink RX10 14 (TX10 0).1 (TX10 0).2.1 (TX10 0).2.2.1 ∈ lw_g := lwg_at 313 (by decide +kernel) rfl
theorem fX10_18 : Cond.fieldLink RX10 18 (TX10 1).1 (TX10 1).2.1 (TX10 1).2.2.1 ∈ lw_g := lwg_at 314 (by decide +kernel) rfl
theorem fX10_22 : Cond.fieldLink RX10 22 (TX10 2).1 (TX10 2).2.1 (TX10 2).2.2.1 ∈ lw_g := lwg_at 315 (by decide +kernel) rfl
theorem fX10_25 : Cond.fieldLink RX10 25 (TX10 3).1 (TX10 3).2.1 (TX10 3).2.2.1 ∈ lw_g := lwg_at 316 (by decide +kernel) rfl
theorem cX11_58 : Cond.classLink RX11 58 "OneGoCeiling$Sheet" ∈ lw_g := lwg_at 326 (by decide +kernel) rfl
theorem nX11_60 : Cond.methodLink RX11 60 yX6_init ∈ lw_g := lwg_at 329 (by decide +kernel) rfl
theorem nX6_1 : Cond.methodLink RX6 1 objectInit ∈ lw_g := lwg_at 332 (by decide +kernel) rfl
theorem cX6_7 : Cond.classLink RX6 7 "OneGoCeiling$Row" ∈ lw_g := lwg_at 333 (by decide +kernel) rfl
theorem nX6_11 : Cond.methodLink RX6 11 yX5_init ∈ lw_g := lwg_at 334 (by decide +kernel) rfl
theorem fX6_14 : Cond.fieldLink RX6 14 (TX6 0).1 (TX6 0).2.1 (TX6 0).2.2.1 ∈ lw_g := lwg_at 335 (by decide +kernel) rfl
theorem fX11_246 : Cond.fieldLink RX11 246 (TX6 0).1 (TX6 0).2.1 (TX6 0).2.2.1 ∈ lw_g := lwg_at 336 (by decide +kernel) rfl
theorem fX6_18 : Cond.fieldLink RX6 18 (TX6 1).1 (TX6 1).2.1 (TX6 1).2.2.1 ∈ lw_g := lwg_at 337 (by decide +kernel) rfl
theorem cX11_65 : Cond.classLink RX11 65 "OneGoCeiling$Row" ∈ lw_g := lwg_at 343 (by decide +kernel) rfl
theorem nX11_67 : Cond.methodLink RX11 67 yX5_init ∈ lw_g := lwg_at 344 (by decide +kernel) rfl
theorem nX11_78 : Cond.methodLink RX11 78 yX5_fill ∈ lw_g := lwg_at 345 (by decide +kernel) rfl
theorem fX11_10 : Cond.fieldLink RX11 10 (TX11 0).1 (TX11 0).2.1 (TX11 0).2.2.1 ∈ lw_g := lwg_at 346 (by decide +kernel) rfl
theorem fX11_16 : Cond.fieldLink RX11 16 (TX11 1).1 (TX11 1).2.1 (TX11 1).2.2.1 ∈ lw_g := lwg_at 347 (by decide +kernel) rfl
theorem fX11_22 : Cond.fieldLink RX11 22 (TX11 2).1 (TX11 2).2.1 (TX11 2).2.2.1 ∈ lw_g := lwg_at 348 (by decide +kernel) rfl
theorem fX11_38 : Cond.fieldLink RX11 38 (TX11 3).1 (TX11 3).2.1 (TX11 3).2.2.1 ∈ lw_g := lwg_at 349 (by decide +kernel) rfl
theorem fX11_47 : Cond.fieldLink RX11 47 (TX11 4).1 (TX11 4).2.1 (TX11 4).2.2.1 ∈ lw_g := lwg_at 350 (by decide +kernel) rfl
theorem fX11_54 : Cond.fieldLink RX11 54 (TX11 5).1 (TX11 5).2.1 (TX11 5).2.2.1 ∈ lw_g := lwg_at 351 (by decide +kernel) rfl
theorem fX11_61 : Cond.fieldLink RX11 61 (TX11 6).1 (TX11 6).2.1 (TX11 6).2.2.1 ∈ lw_g := lwg_at 352 (by decide +kernel) rfl
theorem fX11_70 : Cond.fieldLink RX11 70 (TX11 7).1 (TX11 7).2.1 (TX11 7).2.2.1 ∈ lw_g := lwg_at 353 (by decide +kernel) rfl
theorem fX11_74 : Cond.fieldLink RX11 74 (TX11 8).1 (TX11 8).2.1 (TX11 8).2.2.1 ∈ lw_g := lwg_at 354 (by decide +kernel) rfl
theorem nL_13 : Cond.methodLink RL 13 yX11_ceiling ∈ lw_g := lwg_at 374 (by decide +kernel) rfl
theorem nX11_84 : Cond.methodLink RX11 84 yX11_within ∈ lw_g := lwg_at 378 (by decide +kernel) rfl
theorem nX11_88 : Cond.methodLink RX11 88 yX11_error ∈ lw_g := lwg_at 381 (by decide +kernel) rfl
theorem nX11_322 : Cond.methodLink RX11 322 yX5_at ∈ lw_g := lwg_at 385 (by decide +kernel) rfl
theorem nX11_386 : Cond.methodLink RX11 386 yX5_write ∈ lw_g := lwg_at 389 (by decide +kernel) rfl
theorem qX11_387 : Cond.constant RX11 387 (-1000000000) ∈ lw_g := lwg_at 393 (by decide +kernel) rfl
theorem nX11_96 : Cond.methodLink RX11 96 yX0_build ∈ lw_g := lwg_at 394 (by decide +kernel) rfl
theorem nL_18 : Cond.methodLink RL 18 yX11_set ∈ lw_g := lwg_at 398 (by decide +kernel) rfl
theorem nX11_99 : Cond.methodLink RX11 99 yX0_isSetting ∈ lw_g := lwg_at 402 (by decide +kernel) rfl
theorem nX11_103 : Cond.methodLink RX11 103 yX0_change ∈ lw_g := lwg_at 405 (by decide +kernel) rfl
theorem nL_22 : Cond.methodLink RL 22 yX11_ofCell ∈ lw_g := lwg_at 409 (by decide +kernel) rfl
theorem nX11_107 : Cond.methodLink RX11 107 yX0_isCell ∈ lw_g := lwg_at 413 (by decide +kernel) rfl
theorem nX0_54 : Cond.methodLink RX0 54 yX5_has ∈ lw_g := lwg_at 417 (by decide +kernel) rfl
theorem nX11_111 : Cond.methodLink RX11 111 yX0_rowOf ∈ lw_g := lwg_at 421 (by decide +kernel) rfl
theorem nX11_114 : Cond.methodLink RX11 114 yX0_stripOf ∈ lw_g := lwg_at 425 (by decide +kernel) rfl
theorem nX11_117 : Cond.methodLink RX11 117 yX0_whenAt ∈ lw_g := lwg_at 429 (by decide +kernel) rfl
theorem nX0_58 : Cond.methodLink RX0 58 yX0_isStrip ∈ lw_g := lwg_at 433 (by decide +kernel) rfl
theorem nX0_61 : Cond.methodLink RX0 61 yX5_at ∈ lw_g := lwg_at 437 (by decide +kernel) rfl
theorem nX11_120 : Cond.methodLink RX11 120 yX0_whiteAt ∈ lw_g := lwg_at 438 (by decide +kernel) rfl
theorem nX11_123 : Cond.methodLink RX11 123 yX0_heat ∈ lw_g := lwg_at 442 (by decide +kernel) rfl
theorem nX11_127 : Cond.methodLink RX11 127 yX2_driesOf ∈ lw_g := lwg_at 446 (by decide +kernel) rfl
theorem nX2_38 : Cond.methodLink RX2 38 yX5_at ∈ lw_g := lwg_at 450 (by decide +kernel) rfl
theorem nX2_42 : Cond.methodLink RX2 42 yX8_value ∈ lw_g := lwg_at 451 (by decide +kernel) rfl
theorem nX8_29 : Cond.methodLink RX8 29 yX5_length ∈ lw_g := lwg_at 455 (by decide +kernel) rfl
theorem nX8_33 : Cond.methodLink RX8 33 yX8_held ∈ lw_g := lwg_at 459 (by decide +kernel) rfl
theorem nX8_51 : Cond.methodLink RX8 51 Lib.Math.min.name ∈ lw_g := lwg_at 462 (by decide +kernel) rfl
theorem nX8_57 : Cond.methodLink RX8 57 Lib.Math.max.name ∈ lw_g := lwg_at 463 (by decide +kernel) rfl
theorem nX8_37 : Cond.methodLink RX8 37 yX5_fill ∈ lw_g := lwg_at 464 (by decide +kernel) rfl
theorem nX8_41 : Cond.methodLink RX8 41 yX5_at ∈ lw_g := lwg_at 465 (by decide +kernel) rfl
theorem nX8_44 : Cond.methodLink RX8 44 yX5_write ∈ lw_g := lwg_at 466 (by decide +kernel) rfl
theorem nX8_47 : Cond.methodLink RX8 47 yX8_join ∈ lw_g := lwg_at 467 (by decide +kernel) rfl
theorem nX2_48 : Cond.methodLink RX2 48 yX5_write ∈ lw_g := lwg_at 470 (by decide +kernel) rfl
theorem nX11_131 : Cond.methodLink RX11 131 yX2_isSeam ∈ lw_g := lwg_at 471 (by decide +kernel) rfl
theorem nX2_51 : Cond.methodLink RX2 51 yX0_whenAt ∈ lw_g := lwg_at 475 (by decide +kernel) rfl
theorem nX2_55 : Cond.methodLink RX2 55 yX0_whiteAt ∈ lw_g := lwg_at 476 (by decide +kernel) rfl
theorem nX2_58 : Cond.methodLink RX2 58 yX0_heat ∈ lw_g := lwg_at 477 (by decide +kernel) rfl
theorem nX2_61 : Cond.methodLink RX2 61 yX2_driesOf ∈ lw_g := lwg_at 478 (by decide +kernel) rfl
theorem nL_26 : Cond.methodLink RL 26 yX11_hand ∈ lw_g := lwg_at 479 (by decide +kernel) rfl
theorem nX11_135 : Cond.methodLink RX11 135 yX3_isKindAndNumber ∈ lw_g := lwg_at 483 (by decide +kernel) rfl
theorem nX11_144 : Cond.methodLink RX11 144 yX1_isFull ∈ lw_g := lwg_at 486 (by decide +kernel) rfl
theorem nX1_25 : Cond.methodLink RX1 25 yX1_size ∈ lw_g := lwg_at 490 (by decide +kernel) rfl
theorem nX1_21 : Cond.methodLink RX1 21 yX5_length ∈ lw_g := lwg_at 494 (by decide +kernel) rfl
theorem nX11_150 : Cond.methodLink RX11 150 yX1_join ∈ lw_g := lwg_at 495 (by decide +kernel) rfl
theorem nX1_36 : Cond.methodLink RX1 36 yX5_add ∈ lw_g := lwg_at 499 (by decide +kernel) rfl
theorem nL_31 : Cond.methodLink RL 31 yX11_ofHand ∈ lw_g := lwg_at 503 (by decide +kernel) rfl
theorem nX11_153 : Cond.methodLink RX11 153 yX1_has ∈ lw_g := lwg_at 507 (by decide +kernel) rfl
theorem nX1_28 : Cond.methodLink RX1 28 yX5_has ∈ lw_g := lwg_at 511 (by decide +kernel) rfl
theorem nX11_156 : Cond.methodLink RX11 156 yX1_kindOf ∈ lw_g := lwg_at 512 (by decide +kernel) rfl
theorem nX1_32 : Cond.methodLink RX1 32 yX5_at ∈ lw_g := lwg_at 516 (by decide +kernel) rfl
theorem nX11_159 : Cond.methodLink RX11 159 yX1_numberOf ∈ lw_g := lwg_at 517 (by decide +kernel) rfl
theorem nX11_162 : Cond.methodLink RX11 162 yX3_pace ∈ lw_g := lwg_at 521 (by decide +kernel) rfl
theorem nX11_165 : Cond.methodLink RX11 165 yX3_load ∈ lw_g := lwg_at 524 (by decide +kernel) rfl
theorem nX11_168 : Cond.methodLink RX11 168 yX3_uses ∈ lw_g := lwg_at 527 (by decide +kernel) rfl
theorem nL_35 : Cond.methodLink RL 35 yX11_become ∈ lw_g := lwg_at 530 (by decide +kernel) rfl
theorem nX11_171 : Cond.methodLink RX11 171 yX1_turnInto ∈ lw_g := lwg_at 534 (by decide +kernel) rfl
theorem nX1_39 : Cond.methodLink RX1 39 yX1_kindOf ∈ lw_g := lwg_at 538 (by decide +kernel) rfl
theorem nX1_42 : Cond.methodLink RX1 42 yX5_write ∈ lw_g := lwg_at 539 (by decide +kernel) rfl
theorem nL_39 : Cond.methodLink RL 39 yX11_as ∈ lw_g := lwg_at 540 (by decide +kernel) rfl
theorem nX11_174 : Cond.methodLink RX11 174 yX3_isKind ∈ lw_g := lwg_at 544 (by decide +kernel) rfl
theorem nX11_177 : Cond.methodLink RX11 177 yX3_isUnder ∈ lw_g := lwg_at 547 (by decide +kernel) rfl
theorem nX3_13 : Cond.methodLink RX3 13 yX3_above ∈ lw_g := lwg_at 550 (by decide +kernel) rfl
theorem fX3_9 : Cond.fieldLink RX3 9 "OneGoCeiling$Kinds" "ABOVE" "[I" ∈ lw_g := lwg_at 553 (by decide +kernel) rfl
theorem nL_45 : Cond.methodLink RL 45 yX11_feed ∈ lw_g := lwg_at 555 (by decide +kernel) rfl
theorem nX11_183 : Cond.methodLink RX11 183 yX5_length ∈ lw_g := lwg_at 559 (by decide +kernel) rfl
theorem qX11_186 : Cond.constantLong RX11 186 (255) ∈ lw_g := lwg_at 560 (by decide +kernel) rfl
theorem nX11_188 : Cond.methodLink RX11 188 yX5_add ∈ lw_g := lwg_at 561 (by decide +kernel) rfl
theorem nL_50 : Cond.methodLink RL 50 yX11_text ∈ lw_g := lwg_at 562 (by decide +kernel) rfl
theorem nX11_191 : Cond.methodLink RX11 191 yX11_textOf ∈ lw_g := lwg_at 566 (by decide +kernel) rfl
theorem nX11_195 : Cond.methodLink RX11 195 yX4_read ∈ lw_g := lwg_at 570 (by decide +kernel) rfl
theorem nX4_35 : Cond.methodLink RX4 35 yX5_clear ∈ lw_g := lwg_at 574 (by decide +kernel) rfl
theorem nX4_38 : Cond.methodLink RX4 38 yX4_readT ∈ lw_g := lwg_at 578 (by decide +kernel) rfl
theorem nX4_62 : Cond.methodLink RX4 62 yX4_readA ∈ lw_g := lwg_at 582 (by decide +kernel) rfl
theorem nX4_71 : Cond.methodLink RX4 71 yX4_readB ∈ lw_g := lwg_at 586 (by decide +kernel) rfl
theorem nX4_74 : Cond.methodLink RX4 74 yX4_readS ∈ lw_g := lwg_at 590 (by decide +kernel) rfl
theorem nX4_77 : Cond.methodLink RX4 77 yX4_readP ∈ lw_g := lwg_at 594 (by decide +kernel) rfl
theorem nX4_80 : Cond.methodLink RX4 80 yX4_readQ ∈ lw_g := lwg_at 598 (by decide +kernel) rfl
theorem nX4_56 : Cond.methodLink RX4 56 yX4_next ∈ lw_g := lwg_at 602 (by decide +kernel) rfl
theorem nX4_49 : Cond.methodLink RX4 49 yX5_has ∈ lw_g := lwg_at 606 (by decide +kernel) rfl
theorem nX4_53 : Cond.methodLink RX4 53 yX5_at ∈ lw_g := lwg_at 607 (by decide +kernel) rfl
theorem nX4_83 : Cond.methodLink RX4 83 yX4_isDigit ∈ lw_g := lwg_at 608 (by decide +kernel) rfl
theorem nX4_86 : Cond.methodLink RX4 86 yX4_readNumber ∈ lw_g := lwg_at 611 (by decide +kernel) rfl
theorem nX4_59 : Cond.methodLink RX4 59 yX5_add ∈ lw_g := lwg_at 615 (by decide +kernel) rfl
theorem nX4_89 : Cond.methodLink RX4 89 yX8_nameOf ∈ lw_g := lwg_at 616 (by decide +kernel) rfl
theorem nX4_68 : Cond.methodLink RX4 68 yX4_emit ∈ lw_g := lwg_at 620 (by decide +kernel) rfl
theorem nX4_65 : Cond.methodLink RX4 65 yX4_nextIs ∈ lw_g := lwg_at 624 (by decide +kernel) rfl
theorem nX4_41 : Cond.methodLink RX4 41 yX5_length ∈ lw_g := lwg_at 628 (by decide +kernel) rfl
theorem nX4_45 : Cond.methodLink RX4 45 yX8_takeSteps ∈ lw_g := lwg_at 629 (by decide +kernel) rfl
theorem nX8_25 : Cond.methodLink RX8 25 yX5_take ∈ lw_g := lwg_at 633 (by decide +kernel) rfl
theorem nX5_26 : Cond.methodLink RX5 26 yX5_at ∈ lw_g := lwg_at 637 (by decide +kernel) rfl
theorem nX11_199 : Cond.methodLink RX11 199 yX5_clear ∈ lw_g := lwg_at 638 (by decide +kernel) rfl
theorem nX11_202 : Cond.methodLink RX11 202 yX2_forget ∈ lw_g := lwg_at 639 (by decide +kernel) rfl
theorem nX2_34 : Cond.methodLink RX2 34 yX5_length ∈ lw_g := lwg_at 643 (by decide +kernel) rfl
theorem nL_54 : Cond.methodLink RL 54 yX11_law ∈ lw_g := lwg_at 644 (by decide +kernel) rfl
theorem nX11_205 : Cond.methodLink RX11 205 yX8_value ∈ lw_g := lwg_at 648 (by decide +kernel) rfl
theorem nL_59 : Cond.methodLink RL 59 yX11_roll ∈ lw_g := lwg_at 649 (by decide +kernel) rfl
theorem nX11_210 : Cond.methodLink RX11 210 yX0_isStrip ∈ lw_g := lwg_at 653 (by decide +kernel) rfl
theorem nX11_213 : Cond.methodLink RX11 213 yX0_mayBeRolled ∈ lw_g := lwg_at 654 (by decide +kernel) rfl
theorem nX11_216 : Cond.methodLink RX11 216 yX0_paint ∈ lw_g := lwg_at 658 (by decide +kernel) rfl
theorem nX0_71 : Cond.methodLink RX0 71 yX3_uses ∈ lw_g := lwg_at 662 (by decide +kernel) rfl
theorem nX0_76 : Cond.methodLink RX0 76 yX0_openCan ∈ lw_g := lwg_at 663 (by decide +kernel) rfl
theorem nX0_79 : Cond.methodLink RX0 79 Lib.Math.max.name ∈ lw_g := lwg_at 667 (by decide +kernel) rfl
theorem nX0_82 : Cond.methodLink RX0 82 yX3_minutesFor ∈ lw_g := lwg_at 668 (by decide +kernel) rfl
theorem nX3_17 : Cond.methodLink RX3 17 yX3_load ∈ lw_g := lwg_at 671 (by decide +kernel) rfl
theorem nX3_21 : Cond.methodLink RX3 21 yX3_pace ∈ lw_g := lwg_at 672 (by decide +kernel) rfl
theorem nX0_86 : Cond.methodLink RX0 86 yX5_write ∈ lw_g := lwg_at 673 (by decide +kernel) rfl
theorem nX11_220 : Cond.methodLink RX11 220 yX0_minute ∈ lw_g := lwg_at 674 (by decide +kernel) rfl
theorem nL_64 : Cond.methodLink RL 64 yX11_minutes ∈ lw_g := lwg_at 678 (by decide +kernel) rfl
theorem nX11_223 : Cond.methodLink RX11 223 yX0_letPass ∈ lw_g := lwg_at 682 (by decide +kernel) rfl
theorem nL_68 : Cond.methodLink RL 68 yX11_days ∈ lw_g := lwg_at 686 (by decide +kernel) rfl
theorem nX11_226 : Cond.methodLink RX11 226 yX1_size ∈ lw_g := lwg_at 690 (by decide +kernel) rfl
theorem nX11_229 : Cond.methodLink RX11 229 yX7_passDay ∈ lw_g := lwg_at 691 (by decide +kernel) rfl
theorem nX7_62 : Cond.methodLink RX7 62 yX1_size ∈ lw_g := lwg_at 695 (by decide +kernel) rfl
theorem nX7_66 : Cond.methodLink RX7 66 yX7_draw ∈ lw_g := lwg_at 696 (by decide +kernel) rfl
theorem qX7_90 : Cond.constant RX7 90 (1103515245) ∈ lw_g := lwg_at 700 (by decide +kernel) rfl
theorem nX7_70 : Cond.methodLink RX7 70 yX0_strips ∈ lw_g := lwg_at 701 (by decide +kernel) rfl
theorem nX7_73 : Cond.methodLink RX7 73 yX0_letPassWithinBounds ∈ lw_g := lwg_at 705 (by decide +kernel) rfl
theorem nX0_65 : Cond.methodLink RX0 65 Lib.Math.min.name ∈ lw_g := lwg_at 709 (by decide +kernel) rfl
theorem nX7_76 : Cond.methodLink RX7 76 yX0_mayBeRolled ∈ lw_g := lwg_at 710 (by decide +kernel) rfl
theorem nX7_80 : Cond.methodLink RX7 80 yX1_kindOf ∈ lw_g := lwg_at 711 (by decide +kernel) rfl
theorem nX7_83 : Cond.methodLink RX7 83 yX1_numberOf ∈ lw_g := lwg_at 712 (by decide +kernel) rfl
theorem nX7_86 : Cond.methodLink RX7 86 yX0_paint ∈ lw_g := lwg_at 713 (by decide +kernel) rfl
theorem nX11_232 : Cond.methodLink RX11 232 yX2_seen ∈ lw_g := lwg_at 714 (by decide +kernel) rfl
theorem nX2_79 : Cond.methodLink RX2 79 yX0_strips ∈ lw_g := lwg_at 718 (by decide +kernel) rfl
theorem nX2_82 : Cond.methodLink RX2 82 yX2_seenBetween ∈ lw_g := lwg_at 719 (by decide +kernel) rfl
theorem nX2_64 : Cond.methodLink RX2 64 yX0_rows ∈ lw_g := lwg_at 723 (by decide +kernel) rfl
theorem nX2_67 : Cond.methodLink RX2 67 yX2_isSeam ∈ lw_g := lwg_at 727 (by decide +kernel) rfl
theorem nX2_71 : Cond.methodLink RX2 71 Lib.Math.abs.name ∈ lw_g := lwg_at 728 (by decide +kernel) rfl
theorem nX2_76 : Cond.methodLink RX2 76 yX2_lightOf ∈ lw_g := lwg_at 731 (by decide +kernel) rfl
theorem nL_72 : Cond.methodLink RL 72 yX11_seams ∈ lw_g := lwg_at 735 (by decide +kernel) rfl
theorem nX11_236 : Cond.methodLink RX11 236 yX2_countSeams ∈ lw_g := lwg_at 739 (by decide +kernel) rfl
theorem nL_76 : Cond.methodLink RL 76 yX11_done ∈ lw_g := lwg_at 743 (by decide +kernel) rfl
theorem nX11_239 : Cond.methodLink RX11 239 yX11_sheetOf ∈ lw_g := lwg_at 747 (by decide +kernel) rfl
theorem nX11_243 : Cond.methodLink RX11 243 yX6_isMissing ∈ lw_g := lwg_at 751 (by decide +kernel) rfl
theorem nX11_249 : Cond.methodLink RX11 249 yX0_strips ∈ lw_g := lwg_at 755 (by decide +kernel) rfl
theorem nX11_252 : Cond.methodLink RX11 252 yX9_takeOrder ∈ lw_g := lwg_at 756 (by decide +kernel) rfl
theorem nX9_95 : Cond.methodLink RX9 95 yX5_length ∈ lw_g := lwg_at 760 (by decide +kernel) rfl
theorem nX9_98 : Cond.methodLink RX9 98 yX5_fill ∈ lw_g := lwg_at 761 (by decide +kernel) rfl
theorem nX9_102 : Cond.methodLink RX9 102 yX5_at ∈ lw_g := lwg_at 762 (by decide +kernel) rfl
theorem nX9_105 : Cond.methodLink RX9 105 yX5_has ∈ lw_g := lwg_at 763 (by decide +kernel) rfl
theorem nX9_109 : Cond.methodLink RX9 109 yX5_write ∈ lw_g := lwg_at 764 (by decide +kernel) rfl
theorem nX11_256 : Cond.methodLink RX11 256 yX9_rollAll ∈ lw_g := lwg_at 765 (by decide +kernel) rfl
theorem nX9_75 : Cond.methodLink RX9 75 yX9_begin ∈ lw_g := lwg_at 769 (by decide +kernel) rfl
theorem nX9_51 : Cond.methodLink RX9 51 yX0_take ∈ lw_g := lwg_at 773 (by decide +kernel) rfl
theorem nX0_89 : Cond.methodLink RX0 89 yX5_take ∈ lw_g := lwg_at 777 (by decide +kernel) rfl
theorem nX9_55 : Cond.methodLink RX9 55 yX0_strips ∈ lw_g := lwg_at 778 (by decide +kernel) rfl
theorem nX9_79 : Cond.methodLink RX9 79 yX9_rollNext ∈ lw_g := lwg_at 779 (by decide +kernel) rfl
theorem nX9_62 : Cond.methodLink RX9 62 yX1_kindOf ∈ lw_g := lwg_at 783 (by decide +kernel) rfl
theorem nX9_68 : Cond.methodLink RX9 68 yX1_numberOf ∈ lw_g := lwg_at 784 (by decide +kernel) rfl
theorem nX9_71 : Cond.methodLink RX9 71 yX0_paint ∈ lw_g := lwg_at 785 (by decide +kernel) rfl
theorem nX11_260 : Cond.methodLink RX11 260 yX9_seenByOrder ∈ lw_g := lwg_at 786 (by decide +kernel) rfl
theorem nX9_112 : Cond.methodLink RX9 112 yX2_seenBetween ∈ lw_g := lwg_at 790 (by decide +kernel) rfl
theorem nL_80 : Cond.methodLink RL 80 yX11_order ∈ lw_g := lwg_at 791 (by decide +kernel) rfl
theorem nX11_263 : Cond.methodLink RX11 263 yX9_weighPlaces ∈ lw_g := lwg_at 795 (by decide +kernel) rfl
theorem nX9_125 : Cond.methodLink RX9 125 yX9_weightAt ∈ lw_g := lwg_at 799 (by decide +kernel) rfl
theorem qX11_266 : Cond.constant RX11 266 (1000000) ∈ lw_g := lwg_at 802 (by decide +kernel) rfl
theorem nX11_267 : Cond.methodLink RX11 267 yX9_findBelow ∈ lw_g := lwg_at 803 (by decide +kernel) rfl
theorem nX9_116 : Cond.methodLink RX9 116 yX9_extendOrder ∈ lw_g := lwg_at 807 (by decide +kernel) rfl
theorem nX9_119 : Cond.methodLink RX9 119 yX5_take ∈ lw_g := lwg_at 811 (by decide +kernel) rfl
theorem nX9_122 : Cond.methodLink RX9 122 yX9_seenBeside ∈ lw_g := lwg_at 812 (by decide +kernel) rfl
theorem nX11_270 : Cond.methodLink RX11 270 yX9_best ∈ lw_g := lwg_at 816 (by decide +kernel) rfl
theorem nX11_273 : Cond.methodLink RX11 273 yX9_bestStripAt ∈ lw_g := lwg_at 820 (by decide +kernel) rfl
theorem nL_84 : Cond.methodLink RL 84 yX11_clean ∈ lw_g := lwg_at 824 (by decide +kernel) rfl
theorem nX11_276 : Cond.methodLink RX11 276 yX9_warmTo ∈ lw_g := lwg_at 828 (by decide +kernel) rfl
theorem nX9_92 : Cond.methodLink RX9 92 yX0_warmTo ∈ lw_g := lwg_at 832 (by decide +kernel) rfl
theorem nL_88 : Cond.methodLink RL 88 yX11_called ∈ lw_g := lwg_at 836 (by decide +kernel) rfl
theorem nX11_279 : Cond.methodLink RX11 279 yX11_isLaterStrip ∈ lw_g := lwg_at 840 (by decide +kernel) rfl
theorem nX11_282 : Cond.methodLink RX11 282 yX9_weighPauses ∈ lw_g := lwg_at 844 (by decide +kernel) rfl
theorem nX11_285 : Cond.methodLink RX11 285 yX9_seenCalledAhead ∈ lw_g := lwg_at 848 (by decide +kernel) rfl
theorem nL_92 : Cond.methodLink RL 92 yX11_worst ∈ lw_g := lwg_at 852 (by decide +kernel) rfl
theorem nX11_288 : Cond.methodLink RX11 288 yX9_worstStrip ∈ lw_g := lwg_at 856 (by decide +kernel) rfl
theorem nX9_129 : Cond.methodLink RX9 129 yX9_seenCalledAhead ∈ lw_g := lwg_at 860 (by decide +kernel) rfl
theorem nL_96 : Cond.methodLink RL 96 yX11_howLong ∈ lw_g := lwg_at 861 (by decide +kernel) rfl
theorem nX11_291 : Cond.methodLink RX11 291 yX9_longestPause ∈ lw_g := lwg_at 865 (by decide +kernel) rfl
theorem nL_100 : Cond.methodLink RL 100 yX11_cans ∈ lw_g := lwg_at 869 (by decide +kernel) rfl
theorem nX11_294 : Cond.methodLink RX11 294 yX9_cansBegun ∈ lw_g := lwg_at 873 (by decide +kernel) rfl
theorem nX9_83 : Cond.methodLink RX9 83 yX0_cansBegun ∈ lw_g := lwg_at 877 (by decide +kernel) rfl
theorem nL_104 : Cond.methodLink RL 104 yX11_whose ∈ lw_g := lwg_at 881 (by decide +kernel) rfl
theorem nX11_297 : Cond.methodLink RX11 297 yX0_rows ∈ lw_g := lwg_at 885 (by decide +kernel) rfl
theorem nX11_300 : Cond.methodLink RX11 300 yX3_leastBy ∈ lw_g := lwg_at 886 (by decide +kernel) rfl
theorem nX3_25 : Cond.methodLink RX3 25 yX3_doesAt ∈ lw_g := lwg_at 889 (by decide +kernel) rfl
theorem nX3_29 : Cond.methodLink RX3 29 yX5_length ∈ lw_g := lwg_at 892 (by decide +kernel) rfl
theorem nX3_35 : Cond.methodLink RX3 35 yX3_minutesFor ∈ lw_g := lwg_at 893 (by decide +kernel) rfl
theorem nX3_38 : Cond.methodLink RX3 38 yX5_at ∈ lw_g := lwg_at 894 (by decide +kernel) rfl
theorem nL_108 : Cond.methodLink RL 108 yX11_odds ∈ lw_g := lwg_at 895 (by decide +kernel) rfl
theorem nX11_304 : Cond.methodLink RX11 304 yX9_waysSeenAtMost ∈ lw_g := lwg_at 899 (by decide +kernel) rfl
theorem nX9_132 : Cond.methodLink RX9 132 yX9_waysOfPauses ∈ lw_g := lwg_at 903 (by decide +kernel) rfl
theorem nX11_307 : Cond.methodLink RX11 307 yX9_waysOfPauses ∈ lw_g := lwg_at 907 (by decide +kernel) rfl
theorem nL_112 : Cond.methodLink RL 112 yX11_seed ∈ lw_g := lwg_at 908 (by decide +kernel) rfl
theorem nL_116 : Cond.methodLink RL 116 yX11_voice ∈ lw_g := lwg_at 912 (by decide +kernel) rfl
theorem nX11_313 : Cond.methodLink RX11 313 yX10_speak ∈ lw_g := lwg_at 916 (by decide +kernel) rfl
theorem nX10_28 : Cond.methodLink RX10 28 yX5_clear ∈ lw_g := lwg_at 920 (by decide +kernel) rfl
theorem nX10_31 : Cond.methodLink RX10 31 yX1_kindOf ∈ lw_g := lwg_at 921 (by decide +kernel) rfl
theorem nX10_37 : Cond.methodLink RX10 37 yX1_numberOf ∈ lw_g := lwg_at 922 (by decide +kernel) rfl
theorem nX10_40 : Cond.methodLink RX10 40 yX10_own ∈ lw_g := lwg_at 923 (by decide +kernel) rfl
theorem nX10_44 : Cond.methodLink RX10 44 yX10_from ∈ lw_g := lwg_at 927 (by decide +kernel) rfl
theorem nX10_50 : Cond.methodLink RX10 50 yX10_bodyOf ∈ lw_g := lwg_at 931 (by decide +kernel) rfl
theorem fX10_64 : Cond.fieldLink RX10 64 "OneGoCeiling$Voices" "BODIES" "[I" ∈ lw_g := lwg_at 934 (by decide +kernel) rfl
theorem nX10_54 : Cond.methodLink RX10 54 yX3_above ∈ lw_g := lwg_at 936 (by decide +kernel) rfl
theorem nX10_57 : Cond.methodLink RX10 57 yX5_add ∈ lw_g := lwg_at 937 (by decide +kernel) rfl
theorem nX10_61 : Cond.methodLink RX10 61 yX10_say ∈ lw_g := lwg_at 938 (by decide +kernel) rfl
theorem nL_120 : Cond.methodLink RL 120 yX11_trace ∈ lw_g := lwg_at 942 (by decide +kernel) rfl
theorem nX11_317 : Cond.methodLink RX11 317 yX10_heard ∈ lw_g := lwg_at 946 (by decide +kernel) rfl
theorem nX11_321 : Cond.methodLink RX11 321 yX5_has ∈ lw_g := lwg_at 950 (by decide +kernel) rfl
theorem nL_124 : Cond.methodLink RL 124 yX11_sheet ∈ lw_g := lwg_at 951 (by decide +kernel) rfl
theorem nX11_325 : Cond.methodLink RX11 325 yX6_isWidth ∈ lw_g := lwg_at 955 (by decide +kernel) rfl
theorem nX11_328 : Cond.methodLink RX11 328 yX6_remove ∈ lw_g := lwg_at 958 (by decide +kernel) rfl
theorem nX6_22 : Cond.methodLink RX6 22 yX5_clear ∈ lw_g := lwg_at 962 (by decide +kernel) rfl
theorem nX11_331 : Cond.methodLink RX11 331 yX6_renew ∈ lw_g := lwg_at 963 (by decide +kernel) rfl
theorem nX6_25 : Cond.methodLink RX6 25 yX5_fill ∈ lw_g := lwg_at 967 (by decide +kernel) rfl
theorem nL_128 : Cond.methodLink RL 128 yX11_put ∈ lw_g := lwg_at 968 (by decide +kernel) rfl
theorem nX11_334 : Cond.methodLink RX11 334 yX6_write ∈ lw_g := lwg_at 972 (by decide +kernel) rfl
theorem nX6_29 : Cond.methodLink RX6 29 yX5_write ∈ lw_g := lwg_at 976 (by decide +kernel) rfl
theorem nL_132 : Cond.methodLink RL 132 yX11_move ∈ lw_g := lwg_at 977 (by decide +kernel) rfl
theorem nX11_337 : Cond.methodLink RX11 337 yX6_bits ∈ lw_g := lwg_at 981 (by decide +kernel) rfl
theorem nX11_340 : Cond.methodLink RX11 340 yX5_hasRun ∈ lw_g := lwg_at 985 (by decide +kernel) rfl
theorem nX11_343 : Cond.methodLink RX11 343 yX5_takeRun ∈ lw_g := lwg_at 989 (by decide +kernel) rfl
theorem nX5_30 : Cond.methodLink RX5 30 yX5_write ∈ lw_g := lwg_at 993 (by decide +kernel) rfl
theorem nL_137 : Cond.methodLink RL 137 yX11_whites ∈ lw_g := lwg_at 994 (by decide +kernel) rfl
theorem nX11_347 : Cond.methodLink RX11 347 yX0_whiten ∈ lw_g := lwg_at 998 (by decide +kernel) rfl
theorem nX0_50 : Cond.methodLink RX0 50 yX5_length ∈ lw_g := lwg_at 1002 (by decide +kernel) rfl
theorem nL_141 : Cond.methodLink RL 141 yX11_judge ∈ lw_g := lwg_at 1003 (by decide +kernel) rfl
theorem nX11_351 : Cond.methodLink RX11 351 yX0_firstOtherWhen ∈ lw_g := lwg_at 1007 (by decide +kernel) rfl
theorem nL_145 : Cond.methodLink RL 145 yX11_image ∈ lw_g := lwg_at 1011 (by decide +kernel) rfl
theorem nX11_354 : Cond.methodLink RX11 354 yX7_take ∈ lw_g := lwg_at 1015 (by decide +kernel) rfl
theorem nX7_49 : Cond.methodLink RX7 49 yX0_take ∈ lw_g := lwg_at 1019 (by decide +kernel) rfl
theorem nX7_53 : Cond.methodLink RX7 53 yX1_take ∈ lw_g := lwg_at 1020 (by decide +kernel) rfl
theorem nX1_46 : Cond.methodLink RX1 46 yX5_take ∈ lw_g := lwg_at 1024 (by decide +kernel) rfl
theorem nX7_56 : Cond.methodLink RX7 56 yX8_take ∈ lw_g := lwg_at 1025 (by decide +kernel) rfl
theorem nX7_59 : Cond.methodLink RX7 59 yX5_take ∈ lw_g := lwg_at 1029 (by decide +kernel) rfl
theorem nL_150 : Cond.methodLink RL 150 yX11_restore ∈ lw_g := lwg_at 1030 (by decide +kernel) rfl
theorem nL_154 : Cond.methodLink RL 154 yX11_tell ∈ lw_g := lwg_at 1034 (by decide +kernel) rfl
theorem nL_158 : Cond.methodLink RL 158 yX11_check ∈ lw_g := lwg_at 1038 (by decide +kernel) rfl
theorem nX11_361 : Cond.methodLink RX11 361 yX9_begin ∈ lw_g := lwg_at 1042 (by decide +kernel) rfl
theorem nX11_364 : Cond.methodLink RX11 364 yX9_rollNext ∈ lw_g := lwg_at 1043 (by decide +kernel) rfl
theorem nX11_368 : Cond.methodLink RX11 368 yX9_seenNow ∈ lw_g := lwg_at 1044 (by decide +kernel) rfl
theorem nX9_86 : Cond.methodLink RX9 86 yX2_seen ∈ lw_g := lwg_at 1048 (by decide +kernel) rfl
theorem nL_162 : Cond.methodLink RL 162 yX11_count ∈ lw_g := lwg_at 1049 (by decide +kernel) rfl
theorem nX11_371 : Cond.methodLink RX11 371 yX0_cells ∈ lw_g := lwg_at 1053 (by decide +kernel) rfl
theorem nX11_374 : Cond.methodLink RX11 374 yX0_rolledCells ∈ lw_g := lwg_at 1057 (by decide +kernel) rfl
theorem nX11_377 : Cond.methodLink RX11 377 yX0_left ∈ lw_g := lwg_at 1061 (by decide +kernel) rfl
theorem nX11_380 : Cond.methodLink RX11 380 yX0_canWhite ∈ lw_g := lwg_at 1065 (by decide +kernel) rfl
theorem nX11_383 : Cond.methodLink RX11 383 yX0_canSize ∈ lw_g := lwg_at 1069 (by decide +kernel) rfl
theorem nL_166 : Cond.methodLink RL 166 yX11_told ∈ lw_g := lwg_at 1073 (by decide +kernel) rfl
theorem cL_10 : Cond.classLink RL 10 "OneGoCeilingModel" ∈ lw_g := lwg_at 1077 (by decide +kernel) rfl
theorem nL_12 : Cond.methodLink RL 12 yX12_init ∈ lw_g := lwg_at 1079 (by decide +kernel) rfl
theorem nX12_1 : Cond.methodLink RX12 1 objectInit ∈ lw_g := lwg_at 1082 (by decide +kernel) rfl
theorem nX12_52 : Cond.methodLink RX12 52 yX12_bare ∈ lw_g := lwg_at 1083 (by decide +kernel) rfl
theorem fX12_7 : Cond.fieldLink RX12 7 (TX12 0).1 (TX12 0).2.1 (TX12 0).2.2.1 ∈ lw_g := lwg_at 1087 (by decide +kernel) rfl
theorem fX12_13 : Cond.fieldLink RX12 13 (TX12 1).1 (TX12 1).2.1 (TX12 1).2.2.1 ∈ lw_g := lwg_at 1088 (by decide +kernel) rfl
theorem fX12_16 : Cond.fieldLink RX12 16 (TX12 2).1 (TX12 2).2.1 (TX12 2).2.2.1 ∈ lw_g := lwg_at 1089 (by decide +kernel) rfl
theorem fX12_19 : Cond.fieldLink RX12 19 (TX12 3).1 (TX12 3).2.1 (TX12 3).2.2.1 ∈ lw_g := lwg_at 1090 (by decide +kernel) rfl
theorem fX12_275 : Cond.fieldLink RX12 275 (TX12 4).1 (TX12 4).2.1 (TX12 4).2.2.1 ∈ lw_g := lwg_at 1091 (by decide +kernel) rfl
theorem fX12_278 : Cond.fieldLink RX12 278 (TX12 5).1 (TX12 5).2.1 (TX12 5).2.2.1 ∈ lw_g := lwg_at 1092 (by decide +kernel) rfl
theorem fX12_22 : Cond.fieldLink RX12 22 (TX12 6).1 (TX12 6).2.1 (TX12 6).2.2.1 ∈ lw_g := lwg_at 1093 (by decide +kernel) rfl
theorem fX12_25 : Cond.fieldLink RX12 25 (TX12 7).1 (TX12 7).2.1 (TX12 7).2.2.1 ∈ lw_g := lwg_at 1094 (by decide +kernel) rfl
theorem fX12_28 : Cond.fieldLink RX12 28 (TX12 8).1 (TX12 8).2.1 (TX12 8).2.2.1 ∈ lw_g := lwg_at 1095 (by decide +kernel) rfl
theorem fX12_70 : Cond.fieldLink RX12 70 (TX12 9).1 (TX12 9).2.1 (TX12 9).2.2.1 ∈ lw_g := lwg_at 1096 (by decide +kernel) rfl
theorem fX12_126 : Cond.fieldLink RX12 126 (TX12 10).1 (TX12 10).2.1 (TX12 10).2.2.1 ∈ lw_g := lwg_at 1097 (by decide +kernel) rfl
theorem fX12_132 : Cond.fieldLink RX12 132 (TX12 11).1 (TX12 11).2.1 (TX12 11).2.2.1 ∈ lw_g := lwg_at 1098 (by decide +kernel) rfl
theorem fX12_122 : Cond.fieldLink RX12 122 (TX12 12).1 (TX12 12).2.1 (TX12 12).2.2.1 ∈ lw_g := lwg_at 1099 (by decide +kernel) rfl
theorem fX12_159 : Cond.fieldLink RX12 159 (TX12 13).1 (TX12 13).2.1 (TX12 13).2.2.1 ∈ lw_g := lwg_at 1100 (by decide +kernel) rfl
theorem fX12_144 : Cond.fieldLink RX12 144 (TX12 14).1 (TX12 14).2.1 (TX12 14).2.2.1 ∈ lw_g := lwg_at 1101 (by decide +kernel) rfl
theorem fX12_147 : Cond.fieldLink RX12 147 (TX12 15).1 (TX12 15).2.1 (TX12 15).2.2.1 ∈ lw_g := lwg_at 1102 (by decide +kernel) rfl
theorem fX12_150 : Cond.fieldLink RX12 150 (TX12 16).1 (TX12 16).2.1 (TX12 16).2.2.1 ∈ lw_g := lwg_at 1103 (by decide +kernel) rfl
theorem fX12_129 : Cond.fieldLink RX12 129 (TX12 17).1 (TX12 17).2.1 (TX12 17).2.2.1 ∈ lw_g := lwg_at 1104 (by decide +kernel) rfl
theorem fX12_192 : Cond.fieldLink RX12 192 (TX12 18).1 (TX12 18).2.1 (TX12 18).2.2.1 ∈ lw_g := lwg_at 1105 (by decide +kernel) rfl
theorem fX12_31 : Cond.fieldLink RX12 31 (TX12 19).1 (TX12 19).2.1 (TX12 19).2.2.1 ∈ lw_g := lwg_at 1106 (by decide +kernel) rfl
theorem fX12_34 : Cond.fieldLink RX12 34 (TX12 20).1 (TX12 20).2.1 (TX12 20).2.2.1 ∈ lw_g := lwg_at 1107 (by decide +kernel) rfl
theorem fX12_37 : Cond.fieldLink RX12 37 (TX12 21).1 (TX12 21).2.1 (TX12 21).2.2.1 ∈ lw_g := lwg_at 1108 (by decide +kernel) rfl
theorem fX12_40 : Cond.fieldLink RX12 40 (TX12 22).1 (TX12 22).2.1 (TX12 22).2.2.1 ∈ lw_g := lwg_at 1109 (by decide +kernel) rfl
theorem fX12_43 : Cond.fieldLink RX12 43 (TX12 23).1 (TX12 23).2.1 (TX12 23).2.2.1 ∈ lw_g := lwg_at 1110 (by decide +kernel) rfl
theorem fX12_46 : Cond.fieldLink RX12 46 (TX12 24).1 (TX12 24).2.1 (TX12 24).2.2.1 ∈ lw_g := lwg_at 1111 (by decide +kernel) rfl
theorem fX12_49 : Cond.fieldLink RX12 49 (TX12 25).1 (TX12 25).2.1 (TX12 25).2.2.1 ∈ lw_g := lwg_at 1112 (by decide +kernel) rfl
theorem fX12_244 : Cond.fieldLink RX12 244 (TX12 26).1 (TX12 26).2.1 (TX12 26).2.2.1 ∈ lw_g := lwg_at 1113 (by decide +kernel) rfl
theorem fX12_263 : Cond.fieldLink RX12 263 (TX12 27).1 (TX12 27).2.1 (TX12 27).2.2.1 ∈ lw_g := lwg_at 1114 (by decide +kernel) rfl
theorem fX12_251 : Cond.fieldLink RX12 251 (TX12 28).1 (TX12 28).2.1 (TX12 28).2.2.1 ∈ lw_g := lwg_at 1115 (by decide +kernel) rfl
theorem fX12_257 : Cond.fieldLink RX12 257 (TX12 29).1 (TX12 29).2.1 (TX12 29).2.2.1 ∈ lw_g := lwg_at 1116 (by decide +kernel) rfl
theorem nL_17 : Cond.methodLink RL 17 yX12_ceiling ∈ lw_g := lwg_at 1178 (by decide +kernel) rfl
theorem nX12_57 : Cond.methodLink RX12 57 yX12_in ∈ lw_g := lwg_at 1182 (by decide +kernel) rfl
theorem qX12_61 : Cond.constant RX12 61 (-1000000001) ∈ lw_g := lwg_at 1185 (by decide +kernel) rfl
theorem nX12_62 : Cond.methodLink RX12 62 yX12_errs ∈ lw_g := lwg_at 1186 (by decide +kernel) rfl
theorem qX12_56 : Cond.constant RX12 56 (-1000000000) ∈ lw_g := lwg_at 1190 (by decide +kernel) rfl
theorem nX12_66 : Cond.methodLink RX12 66 yX12_cells ∈ lw_g := lwg_at 1191 (by decide +kernel) rfl
theorem nL_21 : Cond.methodLink RL 21 yX12_set ∈ lw_g := lwg_at 1195 (by decide +kernel) rfl
theorem nL_25 : Cond.methodLink RL 25 yX12_ofCell ∈ lw_g := lwg_at 1199 (by decide +kernel) rfl
theorem nX12_91 : Cond.methodLink RX12 91 yX12_isCell ∈ lw_g := lwg_at 1203 (by decide +kernel) rfl
theorem nX12_81 : Cond.methodLink RX12 81 yX12_whenOf ∈ lw_g := lwg_at 1207 (by decide +kernel) rfl
theorem nX12_84 : Cond.methodLink RX12 84 yX12_whiteOf ∈ lw_g := lwg_at 1211 (by decide +kernel) rfl
theorem nX12_78 : Cond.methodLink RX12 78 yX12_driesAt ∈ lw_g := lwg_at 1215 (by decide +kernel) rfl
theorem nX12_74 : Cond.methodLink RX12 74 yX12_lawOf ∈ lw_g := lwg_at 1219 (by decide +kernel) rfl
theorem nX12_180 : Cond.methodLink RX12 180 yX12_held ∈ lw_g := lwg_at 1223 (by decide +kernel) rfl
theorem nX12_183 : Cond.methodLink RX12 183 yX12_walks ∈ lw_g := lwg_at 1226 (by decide +kernel) rfl
theorem nX12_165 : Cond.methodLink RX12 165 yX12_whole ∈ lw_g := lwg_at 1230 (by decide +kernel) rfl
theorem nX12_177 : Cond.methodLink RX12 177 yX12_both ∈ lw_g := lwg_at 1234 (by decide +kernel) rfl
theorem nX12_174 : Cond.methodLink RX12 174 yX12_compared ∈ lw_g := lwg_at 1238 (by decide +kernel) rfl
theorem nX12_171 : Cond.methodLink RX12 171 yX12_sum ∈ lw_g := lwg_at 1242 (by decide +kernel) rfl
theorem nX12_168 : Cond.methodLink RX12 168 yX12_product ∈ lw_g := lwg_at 1246 (by decide +kernel) rfl
theorem nX12_162 : Cond.methodLink RX12 162 yX12_factor ∈ lw_g := lwg_at 1250 (by decide +kernel) rfl
theorem nX12_135 : Cond.methodLink RX12 135 yX12_byteAt ∈ lw_g := lwg_at 1254 (by decide +kernel) rfl
theorem nX12_138 : Cond.methodLink RX12 138 yX12_isDigit ∈ lw_g := lwg_at 1258 (by decide +kernel) rfl
theorem nX12_153 : Cond.methodLink RX12 153 yX12_number ∈ lw_g := lwg_at 1261 (by decide +kernel) rfl
theorem nX12_156 : Cond.methodLink RX12 156 yX12_named ∈ lw_g := lwg_at 1265 (by decide +kernel) rfl
theorem nX12_141 : Cond.methodLink RX12 141 yX12_fails ∈ lw_g := lwg_at 1269 (by decide +kernel) rfl
theorem nX12_94 : Cond.methodLink RX12 94 yX12_seamAt ∈ lw_g := lwg_at 1273 (by decide +kernel) rfl
theorem nX12_87 : Cond.methodLink RX12 87 yX12_isSeam ∈ lw_g := lwg_at 1277 (by decide +kernel) rfl
theorem nL_30 : Cond.methodLink RL 30 yX12_hand ∈ lw_g := lwg_at 1281 (by decide +kernel) rfl
theorem qX12_97 : Cond.constant RX12 97 (-1000000004) ∈ lw_g := lwg_at 1285 (by decide +kernel) rfl
theorem nL_34 : Cond.methodLink RL 34 yX12_ofHand ∈ lw_g := lwg_at 1286 (by decide +kernel) rfl
theorem nX12_98 : Cond.methodLink RX12 98 yX12_isHand ∈ lw_g := lwg_at 1290 (by decide +kernel) rfl
theorem nX12_101 : Cond.methodLink RX12 101 yX12_kindOf ∈ lw_g := lwg_at 1294 (by decide +kernel) rfl
theorem nX12_104 : Cond.methodLink RX12 104 yX12_mOf ∈ lw_g := lwg_at 1298 (by decide +kernel) rfl
theorem nX12_107 : Cond.methodLink RX12 107 yX12_paceOf ∈ lw_g := lwg_at 1302 (by decide +kernel) rfl
theorem nX12_111 : Cond.methodLink RX12 111 yX12_loadOf ∈ lw_g := lwg_at 1305 (by decide +kernel) rfl
theorem nX12_115 : Cond.methodLink RX12 115 yX12_usesOf ∈ lw_g := lwg_at 1308 (by decide +kernel) rfl
theorem nL_38 : Cond.methodLink RL 38 yX12_become ∈ lw_g := lwg_at 1311 (by decide +kernel) rfl
theorem nL_42 : Cond.methodLink RL 42 yX12_as ∈ lw_g := lwg_at 1315 (by decide +kernel) rfl
theorem nX12_118 : Cond.methodLink RX12 118 yX12_above ∈ lw_g := lwg_at 1319 (by decide +kernel) rfl
theorem qX12_121 : Cond.constant RX12 121 (-1000000005) ∈ lw_g := lwg_at 1322 (by decide +kernel) rfl
theorem nL_58 : Cond.methodLink RL 58 yX12_law ∈ lw_g := lwg_at 1323 (by decide +kernel) rfl
theorem nL_49 : Cond.methodLink RL 49 yX12_feed ∈ lw_g := lwg_at 1327 (by decide +kernel) rfl
theorem qX12_186 : Cond.constantLong RX12 186 (255) ∈ lw_g := lwg_at 1331 (by decide +kernel) rfl
theorem nL_53 : Cond.methodLink RL 53 yX12_text ∈ lw_g := lwg_at 1332 (by decide +kernel) rfl
theorem nX12_188 : Cond.methodLink RX12 188 yX12_moveAll ∈ lw_g := lwg_at 1336 (by decide +kernel) rfl
theorem nL_63 : Cond.methodLink RL 63 yX12_roll ∈ lw_g := lwg_at 1340 (by decide +kernel) rfl
theorem nX12_199 : Cond.methodLink RX12 199 yX12_isStrip ∈ lw_g := lwg_at 1344 (by decide +kernel) rfl
theorem qX12_202 : Cond.constant RX12 202 (-1000000003) ∈ lw_g := lwg_at 1348 (by decide +kernel) rfl
theorem nX12_203 : Cond.methodLink RX12 203 yX12_rollsBy ∈ lw_g := lwg_at 1349 (by decide +kernel) rfl
theorem nX12_195 : Cond.methodLink RX12 195 yX12_rolls ∈ lw_g := lwg_at 1353 (by decide +kernel) rfl
theorem nL_67 : Cond.methodLink RL 67 yX12_minutes ∈ lw_g := lwg_at 1357 (by decide +kernel) rfl
theorem nL_71 : Cond.methodLink RL 71 yX12_days ∈ lw_g := lwg_at 1361 (by decide +kernel) rfl
theorem nX12_208 : Cond.methodLink RX12 208 yX12_drawn ∈ lw_g := lwg_at 1365 (by decide +kernel) rfl
theorem qX12_207 : Cond.constant RX12 207 (1103515245) ∈ lw_g := lwg_at 1369 (by decide +kernel) rfl
theorem nX12_211 : Cond.methodLink RX12 211 yX12_seen ∈ lw_g := lwg_at 1370 (by decide +kernel) rfl
theorem nX12_214 : Cond.methodLink RX12 214 yX12_shows ∈ lw_g := lwg_at 1374 (by decide +kernel) rfl
theorem nL_75 : Cond.methodLink RL 75 yX12_seams ∈ lw_g := lwg_at 1378 (by decide +kernel) rfl
theorem nL_79 : Cond.methodLink RL 79 yX12_done ∈ lw_g := lwg_at 1382 (by decide +kernel) rfl
theorem nX12_217 : Cond.methodLink RX12 217 yX12_isSheet ∈ lw_g := lwg_at 1386 (by decide +kernel) rfl
theorem qX12_220 : Cond.constant RX12 220 (-1000000002) ∈ lw_g := lwg_at 1389 (by decide +kernel) rfl
theorem nX12_221 : Cond.methodLink RX12 221 yX12_seenBy ∈ lw_g := lwg_at 1390 (by decide +kernel) rfl
theorem nL_83 : Cond.methodLink RL 83 yX12_order ∈ lw_g := lwg_at 1394 (by decide +kernel) rfl
theorem nX12_231 : Cond.methodLink RX12 231 yX12_leastSeen ∈ lw_g := lwg_at 1398 (by decide +kernel) rfl
theorem nX12_224 : Cond.methodLink RX12 224 yX12_tables ∈ lw_g := lwg_at 1402 (by decide +kernel) rfl
theorem nX12_227 : Cond.methodLink RX12 227 yX12_goesOn ∈ lw_g := lwg_at 1406 (by decide +kernel) rfl
theorem nL_87 : Cond.methodLink RL 87 yX12_clean ∈ lw_g := lwg_at 1410 (by decide +kernel) rfl
theorem nL_91 : Cond.methodLink RL 91 yX12_called ∈ lw_g := lwg_at 1414 (by decide +kernel) rfl
theorem nX12_234 : Cond.methodLink RX12 234 yX12_isLater ∈ lw_g := lwg_at 1418 (by decide +kernel) rfl
theorem nX12_237 : Cond.methodLink RX12 237 yX12_seenAway ∈ lw_g := lwg_at 1422 (by decide +kernel) rfl
theorem nL_95 : Cond.methodLink RL 95 yX12_worst ∈ lw_g := lwg_at 1426 (by decide +kernel) rfl
theorem nL_99 : Cond.methodLink RL 99 yX12_howLong ∈ lw_g := lwg_at 1430 (by decide +kernel) rfl
theorem nL_103 : Cond.methodLink RL 103 yX12_cans ∈ lw_g := lwg_at 1434 (by decide +kernel) rfl
theorem nL_107 : Cond.methodLink RL 107 yX12_whose ∈ lw_g := lwg_at 1438 (by decide +kernel) rfl
theorem nX12_240 : Cond.methodLink RX12 240 yX12_rollsSo ∈ lw_g := lwg_at 1442 (by decide +kernel) rfl
theorem nL_111 : Cond.methodLink RL 111 yX12_odds ∈ lw_g := lwg_at 1446 (by decide +kernel) rfl
theorem nL_115 : Cond.methodLink RL 115 yX12_seed ∈ lw_g := lwg_at 1450 (by decide +kernel) rfl
theorem nL_119 : Cond.methodLink RL 119 yX12_voice ∈ lw_g := lwg_at 1454 (by decide +kernel) rfl
theorem nX12_254 : Cond.methodLink RX12 254 yX12_loadsIn ∈ lw_g := lwg_at 1458 (by decide +kernel) rfl
theorem nX12_247 : Cond.methodLink RX12 247 yX12_ran ∈ lw_g := lwg_at 1462 (by decide +kernel) rfl
theorem nX12_266 : Cond.methodLink RX12 266 yX12_rollsIn ∈ lw_g := lwg_at 1466 (by decide +kernel) rfl
theorem nX12_260 : Cond.methodLink RX12 260 yX12_driesIn ∈ lw_g := lwg_at 1470 (by decide +kernel) rfl
theorem nX12_269 : Cond.methodLink RX12 269 yX12_tellsIn ∈ lw_g := lwg_at 1474 (by decide +kernel) rfl
theorem nL_123 : Cond.methodLink RL 123 yX12_trace ∈ lw_g := lwg_at 1478 (by decide +kernel) rfl
theorem nL_127 : Cond.methodLink RL 127 yX12_sheet ∈ lw_g := lwg_at 1482 (by decide +kernel) rfl
theorem nL_131 : Cond.methodLink RL 131 yX12_put ∈ lw_g := lwg_at 1486 (by decide +kernel) rfl
theorem nX12_272 : Cond.methodLink RX12 272 yX12_narrow ∈ lw_g := lwg_at 1490 (by decide +kernel) rfl
theorem nL_136 : Cond.methodLink RL 136 yX12_move ∈ lw_g := lwg_at 1493 (by decide +kernel) rfl
theorem nL_140 : Cond.methodLink RL 140 yX12_whites ∈ lw_g := lwg_at 1497 (by decide +kernel) rfl
theorem nL_144 : Cond.methodLink RL 144 yX12_judge ∈ lw_g := lwg_at 1501 (by decide +kernel) rfl
theorem nL_149 : Cond.methodLink RL 149 yX12_image ∈ lw_g := lwg_at 1505 (by decide +kernel) rfl
theorem nL_153 : Cond.methodLink RL 153 yX12_restore ∈ lw_g := lwg_at 1509 (by decide +kernel) rfl
theorem nL_157 : Cond.methodLink RL 157 yX12_tell ∈ lw_g := lwg_at 1513 (by decide +kernel) rfl
theorem nL_161 : Cond.methodLink RL 161 yX12_check ∈ lw_g := lwg_at 1517 (by decide +kernel) rfl
theorem nL_165 : Cond.methodLink RL 165 yX12_count ∈ lw_g := lwg_at 1521 (by decide +kernel) rfl
theorem nX12_281 : Cond.methodLink RX12 281 yX12_rolledMany ∈ lw_g := lwg_at 1525 (by decide +kernel) rfl
theorem nL_169 : Cond.methodLink RL 169 yX12_told ∈ lw_g := lwg_at 1529 (by decide +kernel) rfl
theorem qL_43 : Cond.constantLong RL 43 (4294967295) ∈ lw_g := lwg_at 1533 (by decide +kernel) rfl
end
section
/-! rows in the shape in which the walks use them -/
def popn : Nat → List Value → List Value → List Value × List Value
  | 0, st, acc => (acc, st)
  | _ + 1, [], acc => (acc, [])
  | n + 1, v :: st, acc => popn n st (v :: acc)
theorem popn_ok : ∀ (n : Nat) (st acc as rest : List Value), popn n st acc = (as, rest) → ∃ bs, as = bs.reverse ++ acc ∧ st = bs ++ rest := by
  intro n
  induction n with
  | zero => intro st acc as rest h; cases h; exact ⟨[], rfl, rfl⟩
  | succ n ih =>
    intro st acc as rest h
    cases st with
    | nil => cases h; exact ⟨[], rfl, rfl⟩
    | cons v st =>
      obtain ⟨bs, h1, h2⟩ := ih st (v :: acc) as rest h
      exact ⟨v :: bs, by rw [h1]; simp, by rw [h2]; rfl⟩
theorem popn_st {n : Nat} {st as rest : List Value} (h : popn n st [] = (as, rest)) : st = as.reverse ++ rest := by
  obtain ⟨bs, h1, h2⟩ := popn_ok n st [] as rest h
  rw [h2, h1]; simp
def catS : List Value → Nat
  | [] => 0
  | .long _ :: l => 2 + catS l
  | .double _ :: l => 2 + catS l
  | _ :: l => 1 + catS l
theorem catS_ok : ∀ st : List Value, (st.map fun v => v.category).sum = catS st := by
  intro st
  induction st with
  | nil => rfl
  | cons v l ih =>
    rw [List.map_cons, List.sum_cons, ih]
    cases v <;> rfl
theorem CT.mono {d mc ms : Nat} {μ : MI} {as : List Value} {h : AH} {Q Q' : Option Value → AH → Prop} (hct : CT d mc ms μ as h Q) (hq : ∀ v g, Q v g → Q' v g) : CT d mc ms μ as h Q' := by
  intro l D b base X
  intro p e ha hc2 hk s m args below hf hfit hP hT
  obtain ⟨k, o, h1, h2, h3, h4⟩ := hct l D b base X p e ha hc2 hk s m args below hf hfit hP hT
  obtain ⟨⟨⟨v, h', e1, e2, e3⟩, e4⟩, e5⟩ := h4
  exact ⟨k, o, h1, h2, h3, ⟨⟨v, h', e1, hq v h' e2, e3⟩, e4⟩, e5⟩
theorem CV.mono {d mc ms a : Nat} {μ : MI} {as : List Value} {h : AH} {Q Q' : Option Value → AH → Prop} (hct : CV d mc ms μ a as h Q) (hq : ∀ v g, Q v g → Q' v g) : CV d mc ms μ a as h Q' := ⟨hct.1, hct.2.mono hq⟩
def Rr (R : Room) (d : Nat) (μ' : MI) : Prop := d + 1 ≤ R.frames ∧ 41 * d + μ'.2.2.1 + 19 ≤ R.locals
theorem rr {d d' mc ms : Nat} {μ' : MI} (h : d' < d) (h2 : Nat.ble μ'.2.2.1 22 = true) : Rr (rmd d mc ms) d' μ' := by
  have h2 := Nat.le_of_ble_eq_true h2
  exact ⟨h, by show 41 * d' + μ'.2.2.1 + 19 ≤ 41 * d; omega⟩
section RowsD
variable {XS : XT → Prop} {R : Room} {μ : MI} {kc ks pc : Nat} {ls : List (Option Value)} {st : List Value} {P P' : AH → Prop} {Q : Option Value → AH → Prop}
theorem r_iinc1 {i : Nat} {x : Int32} (hf : decode μ.2.1 pc = .ok (.iinc i 1, 3)) (hl : lget ls i = some (.int x)) (hn : i < μ.2.2.1) (hk : lok ls i = true) (kk : AW XS R μ kc ks (pc + 3) (lset ls i (.int (x + 1))) st P Q) : AW XS R μ kc ks pc ls st P Q := r_iinc hf hl rfl hn hk kk
theorem r_iincm {i : Nat} {x : Int32} (hf : decode μ.2.1 pc = .ok (.iinc i (-1), 3)) (hl : lget ls i = some (.int x)) (hn : i < μ.2.2.1) (hk : lok ls i = true) (kk : AW XS R μ kc ks (pc + 3) (lset ls i (.int (x - 1))) st P Q) : AW XS R μ kc ks pc ls st P Q := r_iinc hf hl (by rw [show Int32.ofInt (-1) = -1 from rfl, Int32.sub_eq_add_neg]) hn hk kk
theorem r_iinc6 {i : Nat} {x : Int32} (hf : decode μ.2.1 pc = .ok (.iinc i 6, 3)) (hl : lget ls i = some (.int x)) (hn : i < μ.2.2.1) (hk : lok ls i = true) (kk : AW XS R μ kc ks (pc + 3) (lset ls i (.int (x + 6))) st P Q) : AW XS R μ kc ks pc ls st P Q := r_iinc hf hl rfl hn hk kk
theorem i32_rem (x y : Int32) : x - x / y * y = x % y := by
  apply Int32.toInt_inj.mp
  rw [rem_toInt, Int32.toInt_mod]
theorem r_irem' {x y : Int32} (hf : decode μ.2.1 pc = .ok (.irem, 1)) (hne : ¬ y = 0) (kk : AW XS R μ kc ks (pc + 1) ls (.int (x % y) :: st) P Q) : AW XS R μ kc ks pc ls (.int y :: .int x :: st) P Q := r_irem hf hne (i32_rem x y) kk
theorem r_tableAt {dflt lo hi : Int} {offs : Array Int} {len : Nat} {x : Int32} {off : Int} (tgt j : Nat) (hf : decode μ.2.1 pc = .ok (.tableswitch dflt lo hi offs, len)) (hx : x.toInt = lo + j) (hj : lo + j ≤ hi) (ho : offs[j]? = some off) (ht : (pc : Int) + off = (tgt : Int)) (kk : AW XS R μ kc ks tgt ls st P Q) : AW XS R μ kc ks pc ls (.int x :: st) P Q :=
  r_tableIn tgt hf (by omega) (by omega) (by rw [show (x.toInt - lo).toNat = j by omega]; exact ho) ht kk
-- calls of what makes no cell; the answer is told, the heap behind is of P'
theorem r_Vi {idx n d a : Nat} {μ' : MI} {as rest : List Value} {x : Int32} (hf : decode μ.2.1 pc = .ok (.invokevirtual idx, 3)) (hl : Cond.methodLink μ.1.cls idx μ'.1 ∈ lw_g) (hs : Cond.instanceMethod μ'.1 ∈ lw_g) (hse : Cond.selects μ'.1.cls μ'.1 μ'.1 ∈ lw_g) (hk : Lk μ' n) (hp : popn n st [] = (as, .ref a :: rest)) (hn : as.length = n) (hR : Rr R d μ') (hW : Nat.ble (catS rest) 8 = true) (hm : kc ≤ R.cells ∧ ks ≤ R.slots)
    (hct : ∀ h, P h → CV d 0 0 μ' a as h (fun v g => v = some (.int x) ∧ P' g)) (kk : AW XS R μ kc ks (pc + 3) ls (.int x :: rest) P' Q) : AW XS R μ kc ks pc ls st P Q :=
  r_invV as rest hf hl hs hse hk hn (popn_st hp) hR (by rw [catS_ok]; exact Nat.le_of_ble_eq_true hW) hm hct (fun v => aw_pr fun e => by subst e; exact kk)
theorem r_Vr {idx n d a y : Nat} {μ' : MI} {as rest : List Value} (hf : decode μ.2.1 pc = .ok (.invokevirtual idx, 3)) (hl : Cond.methodLink μ.1.cls idx μ'.1 ∈ lw_g) (hs : Cond.instanceMethod μ'.1 ∈ lw_g) (hse : Cond.selects μ'.1.cls μ'.1 μ'.1 ∈ lw_g) (hk : Lk μ' n) (hp : popn n st [] = (as, .ref a :: rest)) (hn : as.length = n) (hR : Rr R d μ') (hW : Nat.ble (catS rest) 8 = true) (hm : kc ≤ R.cells ∧ ks ≤ R.slots)
    (hct : ∀ h, P h → CV d 0 0 μ' a as h (fun v g => v = some (.ref y) ∧ P' g)) (kk : AW XS R μ kc ks (pc + 3) ls (.ref y :: rest) P' Q) : AW XS R μ kc ks pc ls st P Q :=
  r_invV as rest hf hl hs hse hk hn (popn_st hp) hR (by rw [catS_ok]; exact Nat.le_of_ble_eq_true hW) hm hct (fun v => aw_pr fun e => by subst e; exact kk)
theorem r_VrN {idx n d a : Nat} {μ' : MI} {as rest : List Value} (hf : decode μ.2.1 pc = .ok (.invokevirtual idx, 3)) (hl : Cond.methodLink μ.1.cls idx μ'.1 ∈ lw_g) (hs : Cond.instanceMethod μ'.1 ∈ lw_g) (hse : Cond.selects μ'.1.cls μ'.1 μ'.1 ∈ lw_g) (hk : Lk μ' n) (hp : popn n st [] = (as, .ref a :: rest)) (hn : as.length = n) (hR : Rr R d μ') (hW : Nat.ble (catS rest) 8 = true) (hm : kc ≤ R.cells ∧ ks ≤ R.slots)
    (hct : ∀ h, P h → CV d 0 0 μ' a as h (fun v g => v = some .null ∧ P' g)) (kk : AW XS R μ kc ks (pc + 3) ls (.null :: rest) P' Q) : AW XS R μ kc ks pc ls st P Q :=
  r_invV as rest hf hl hs hse hk hn (popn_st hp) hR (by rw [catS_ok]; exact Nat.le_of_ble_eq_true hW) hm hct (fun v => aw_pr fun e => by subst e; exact kk)
theorem r_Vv {idx n d a : Nat} {μ' : MI} {as rest : List Value} (hf : decode μ.2.1 pc = .ok (.invokevirtual idx, 3)) (hl : Cond.methodLink μ.1.cls idx μ'.1 ∈ lw_g) (hs : Cond.instanceMethod μ'.1 ∈ lw_g) (hse : Cond.selects μ'.1.cls μ'.1 μ'.1 ∈ lw_g) (hk : Lk μ' n) (hp : popn n st [] = (as, .ref a :: rest)) (hn : as.length = n) (hR : Rr R d μ') (hW : Nat.ble (catS rest) 8 = true) (hm : kc ≤ R.cells ∧ ks ≤ R.slots)
    (hct : ∀ h, P h → CV d 0 0 μ' a as h (fun v g => v = none ∧ P' g)) (kk : AW XS R μ kc ks (pc + 3) ls rest P' Q) : AW XS R μ kc ks pc ls st P Q :=
  r_invV as rest hf hl hs hse hk hn (popn_st hp) hR (by rw [catS_ok]; exact Nat.le_of_ble_eq_true hW) hm hct (fun v => aw_pr fun e => by subst e; exact kk)
theorem r_Si {idx n d : Nat} {μ' : MI} {as rest : List Value} {x : Int32} (hf : decode μ.2.1 pc = .ok (.invokestatic idx, 3)) (hl : Cond.methodLink μ.1.cls idx μ'.1 ∈ lw_g) (hs : Cond.static μ'.1 ∈ lw_g) (hk : Lk μ' n) (hp : popn n st [] = (as, rest)) (hn : as.length = n) (hR : Rr R d μ') (hW : Nat.ble (catS rest) 8 = true) (hm : kc ≤ R.cells ∧ ks ≤ R.slots)
    (hct : ∀ h, P h → CT d 0 0 μ' as h (fun v g => v = some (.int x) ∧ P' g)) (kk : AW XS R μ kc ks (pc + 3) ls (.int x :: rest) P' Q) : AW XS R μ kc ks pc ls st P Q :=
  r_invS as rest hf hl hs hk hn (popn_st hp) hR (by rw [catS_ok]; exact Nat.le_of_ble_eq_true hW) hm hct (fun v => aw_pr fun e => by subst e; exact kk)
-- a static method whose answer is a number of its arguments alone
theorem r_Sp {idx n d : Nat} {μ' : MI} {as rest : List Value} {x : Int32} (hf : decode μ.2.1 pc = .ok (.invokestatic idx, 3)) (hl : Cond.methodLink μ.1.cls idx μ'.1 ∈ lw_g) (hs : Cond.static μ'.1 ∈ lw_g) (hk : Lk μ' n) (hp : popn n st [] = (as, rest)) (hn : as.length = n) (hR : Rr R d μ') (hW : Nat.ble (catS rest) 8 = true) (hm : kc ≤ R.cells ∧ ks ≤ R.slots)
    (hct : ∀ h, CT d 0 0 μ' as h (fun v g => v = some (.int x) ∧ g = h)) (kk : AW XS R μ kc ks (pc + 3) ls (.int x :: rest) P Q) : AW XS R μ kc ks pc ls st P Q :=
  r_Si hf hl hs hk hp hn hR hW hm (fun h hP => (hct h).mono fun v g q => ⟨q.1, by rw [q.2]; exact hP⟩) kk
end RowsD
def ldrop : List (Option Value) → Nat → List (Option Value)
  | [], _ => []
  | _ :: l, 0 => none :: l
  | w :: l, i + 1 => w :: ldrop l i
theorem ldrop_ok : ∀ {ls : List (Option Value)} {i j : Nat} {v : Value}, lget (ldrop ls i) j = some v → lget ls j = some v := by
  intro ls
  induction ls with
  | nil => intro i j v h; exact h
  | cons w l ih =>
    intro i j v h
    cases i with
    | zero =>
      cases j with
      | zero => cases h
      | succ j => exact h
    | succ i =>
      cases j with
      | zero => exact h
      | succ j => exact ih (i := i) (j := j) h
/-- a local is forgotten -/
theorem aw_dr {XS : XT → Prop} {R : Room} {μ : MI} {kc ks pc : Nat} {ls ls' : List (Option Value)} {st : List Value} {P : AH → Prop} {Q : Option Value → AH → Prop} (i : Nat) (e : ldrop ls i = ls') (kk : AW XS R μ kc ks pc ls' st P Q) : AW XS R μ kc ks pc ls st P Q :=
  aw_lk (fun j v h => by subst e; exact ldrop_ok h) kk
/-- a loop that goes up: at its head, with k of n rounds done -/
theorem up_loop {n : Nat} {G : Nat → Prop} (hn : G n) (hs : ∀ k, k < n → G (k + 1) → G k) : ∀ k, k ≤ n → G k := by
  intro k hk
  obtain ⟨j, hj⟩ : ∃ j, n - k = j := ⟨_, rfl⟩
  induction j generalizing k with
  | zero => rw [show k = n by omega]; exact hn
  | succ j ih => exact hs k (by omega) (ih (k + 1) (by omega) (by omega))
end
section
theorem dX5_init_0 : decode cX5_init 0 = .ok (.aload_n 0, 1) := by decide +kernel
theorem dX5_init_1 : decode cX5_init 1 = .ok (.invokespecial 1, 3) := by decide +kernel
theorem dX5_init_4 : decode cX5_init 4 = .ok (.aload_n 0, 1) := by decide +kernel
theorem dX5_init_5 : decode cX5_init 5 = .ok (.iconst 0, 1) := by decide +kernel
theorem dX5_init_6 : decode cX5_init 6 = .ok (.putfield 7, 3) := by decide +kernel
theorem dX5_init_9 : decode cX5_init 9 = .ok (.aload_n 0, 1) := by decide +kernel
theorem dX5_init_10 : decode cX5_init 10 = .ok (.iconst 0, 1) := by decide +kernel
theorem dX5_init_11 : decode cX5_init 11 = .ok (.iload_n 1, 1) := by decide +kernel
theorem dX5_init_12 : decode cX5_init 12 = .ok (.invokestatic 13, 3) := by decide +kernel
theorem dX5_init_15 : decode cX5_init 15 = .ok (.newarray .int, 2) := by decide +kernel
theorem dX5_init_17 : decode cX5_init 17 = .ok (.putfield 19, 3) := by decide +kernel
theorem dX5_init_20 : decode cX5_init 20 = .ok (.return_, 1) := by decide +kernel
theorem dX5_length_0 : decode cX5_length 0 = .ok (.aload_n 0, 1) := by decide +kernel
theorem dX5_length_1 : decode cX5_length 1 = .ok (.getfield 7, 3) := by decide +kernel
theorem dX5_length_4 : decode cX5_length 4 = .ok (.ireturn, 1) := by decide +kernel
theorem dX5_has_0 : decode cX5_has 0 = .ok (.iload_n 1, 1) := by decide +kernel
theorem dX5_has_1 : decode cX5_has 1 = .ok (.ifCond .lt 24, 3) := by decide +kernel
theorem dX5_has_4 : decode cX5_has 4 = .ok (.iload_n 1, 1) := by decide +kernel
theorem dX5_has_5 : decode cX5_has 5 = .ok (.aload_n 0, 1) := by decide +kernel
theorem dX5_has_6 : decode cX5_has 6 = .ok (.getfield 7, 3) := by decide +kernel
theorem dX5_has_9 : decode cX5_has 9 = .ok (.if_icmp .ge 16, 3) := by decide +kernel
theorem dX5_has_12 : decode cX5_has 12 = .ok (.iload_n 1, 1) := by decide +kernel
theorem dX5_has_13 : decode cX5_has 13 = .ok (.aload_n 0, 1) := by decide +kernel
theorem dX5_has_14 : decode cX5_has 14 = .ok (.getfield 19, 3) := by decide +kernel
theorem dX5_has_17 : decode cX5_has 17 = .ok (.arraylength, 1) := by decide +kernel
theorem dX5_has_18 : decode cX5_has 18 = .ok (.if_icmp .ge 7, 3) := by decide +kernel
theorem dX5_has_21 : decode cX5_has 21 = .ok (.iconst 1, 1) := by decide +kernel
theorem dX5_has_22 : decode cX5_has 22 = .ok (.goto 4, 3) := by decide +kernel
theorem dX5_has_25 : decode cX5_has 25 = .ok (.iconst 0, 1) := by decide +kernel
theorem dX5_has_26 : decode cX5_has 26 = .ok (.ireturn, 1) := by decide +kernel
theorem dX5_hasRun_0 : decode cX5_hasRun 0 = .ok (.iload_n 1, 1) := by decide +kernel
theorem dX5_hasRun_1 : decode cX5_hasRun 1 = .ok (.ifCond .lt 29, 3) := by decide +kernel
theorem dX5_hasRun_4 : decode cX5_hasRun 4 = .ok (.iload_n 2, 1) := by decide +kernel
theorem dX5_hasRun_5 : decode cX5_hasRun 5 = .ok (.ifCond .lt 25, 3) := by decide +kernel
theorem dX5_hasRun_8 : decode cX5_hasRun 8 = .ok (.iload_n 2, 1) := by decide +kernel
theorem dX5_hasRun_9 : decode cX5_hasRun 9 = .ok (.aload_n 0, 1) := by decide +kernel
theorem dX5_hasRun_10 : decode cX5_hasRun 10 = .ok (.getfield 7, 3) := by decide +kernel
theorem dX5_hasRun_13 : decode cX5_hasRun 13 = .ok (.if_icmp .gt 17, 3) := by decide +kernel
theorem dX5_hasRun_16 : decode cX5_hasRun 16 = .ok (.iload_n 1, 1) := by decide +kernel
theorem dX5_hasRun_17 : decode cX5_hasRun 17 = .ok (.aload_n 0, 1) := by decide +kernel
theorem dX5_hasRun_18 : decode cX5_hasRun 18 = .ok (.getfield 7, 3) := by decide +kernel
theorem dX5_hasRun_21 : decode cX5_hasRun 21 = .ok (.iload_n 2, 1) := by decide +kernel
theorem dX5_hasRun_22 : decode cX5_hasRun 22 = .ok (.isub, 1) := by decide +kernel
theorem dX5_hasRun_23 : decode cX5_hasRun 23 = .ok (.if_icmp .gt 7, 3) := by decide +kernel
theorem dX5_hasRun_26 : decode cX5_hasRun 26 = .ok (.iconst 1, 1) := by decide +kernel
theorem dX5_hasRun_27 : decode cX5_hasRun 27 = .ok (.goto 4, 3) := by decide +kernel
theorem dX5_hasRun_30 : decode cX5_hasRun 30 = .ok (.iconst 0, 1) := by decide +kernel
theorem dX5_hasRun_31 : decode cX5_hasRun 31 = .ok (.ireturn, 1) := by decide +kernel
theorem dX5_at_0 : decode cX5_at 0 = .ok (.iload_n 1, 1) := by decide +kernel
theorem dX5_at_1 : decode cX5_at 1 = .ok (.ifCond .lt 29, 3) := by decide +kernel
theorem dX5_at_4 : decode cX5_at 4 = .ok (.iload_n 1, 1) := by decide +kernel
theorem dX5_at_5 : decode cX5_at 5 = .ok (.aload_n 0, 1) := by decide +kernel
theorem dX5_at_6 : decode cX5_at 6 = .ok (.getfield 7, 3) := by decide +kernel
theorem dX5_at_9 : decode cX5_at 9 = .ok (.if_icmp .ge 21, 3) := by decide +kernel
theorem dX5_at_12 : decode cX5_at 12 = .ok (.iload_n 1, 1) := by decide +kernel
theorem dX5_at_13 : decode cX5_at 13 = .ok (.aload_n 0, 1) := by decide +kernel
theorem dX5_at_14 : decode cX5_at 14 = .ok (.getfield 19, 3) := by decide +kernel
theorem dX5_at_17 : decode cX5_at 17 = .ok (.arraylength, 1) := by decide +kernel
theorem dX5_at_18 : decode cX5_at 18 = .ok (.if_icmp .ge 12, 3) := by decide +kernel
theorem dX5_at_21 : decode cX5_at 21 = .ok (.aload_n 0, 1) := by decide +kernel
theorem dX5_at_22 : decode cX5_at 22 = .ok (.getfield 19, 3) := by decide +kernel
theorem dX5_at_25 : decode cX5_at 25 = .ok (.iload_n 1, 1) := by decide +kernel
theorem dX5_at_26 : decode cX5_at 26 = .ok (.iaload, 1) := by decide +kernel
theorem dX5_at_27 : decode cX5_at 27 = .ok (.goto 4, 3) := by decide +kernel
theorem dX5_at_30 : decode cX5_at 30 = .ok (.iconst 0, 1) := by decide +kernel
theorem dX5_at_31 : decode cX5_at 31 = .ok (.ireturn, 1) := by decide +kernel
theorem dX5_write_0 : decode cX5_write 0 = .ok (.iload_n 1, 1) := by decide +kernel
theorem dX5_write_1 : decode cX5_write 1 = .ok (.ifCond .lt 27, 3) := by decide +kernel
theorem dX5_write_4 : decode cX5_write 4 = .ok (.iload_n 1, 1) := by decide +kernel
theorem dX5_write_5 : decode cX5_write 5 = .ok (.aload_n 0, 1) := by decide +kernel
theorem dX5_write_6 : decode cX5_write 6 = .ok (.getfield 7, 3) := by decide +kernel
theorem dX5_write_9 : decode cX5_write 9 = .ok (.if_icmp .ge 19, 3) := by decide +kernel
theorem dX5_write_12 : decode cX5_write 12 = .ok (.iload_n 1, 1) := by decide +kernel
theorem dX5_write_13 : decode cX5_write 13 = .ok (.aload_n 0, 1) := by decide +kernel
theorem dX5_write_14 : decode cX5_write 14 = .ok (.getfield 19, 3) := by decide +kernel
theorem dX5_write_17 : decode cX5_write 17 = .ok (.arraylength, 1) := by decide +kernel
theorem dX5_write_18 : decode cX5_write 18 = .ok (.if_icmp .ge 10, 3) := by decide +kernel
theorem dX5_write_21 : decode cX5_write 21 = .ok (.aload_n 0, 1) := by decide +kernel
theorem dX5_write_22 : decode cX5_write 22 = .ok (.getfield 19, 3) := by decide +kernel
theorem dX5_write_25 : decode cX5_write 25 = .ok (.iload_n 1, 1) := by decide +kernel
theorem dX5_write_26 : decode cX5_write 26 = .ok (.iload_n 2, 1) := by decide +kernel
theorem dX5_write_27 : decode cX5_write 27 = .ok (.iastore, 1) := by decide +kernel
theorem dX5_write_28 : decode cX5_write 28 = .ok (.return_, 1) := by decide +kernel
theorem dX5_add_0 : decode cX5_add 0 = .ok (.aload_n 0, 1) := by decide +kernel
theorem dX5_add_1 : decode cX5_add 1 = .ok (.getfield 7, 3) := by decide +kernel
theorem dX5_add_4 : decode cX5_add 4 = .ok (.ifCond .lt 15, 3) := by decide +kernel
theorem dX5_add_7 : decode cX5_add 7 = .ok (.aload_n 0, 1) := by decide +kernel
theorem dX5_add_8 : decode cX5_add 8 = .ok (.getfield 7, 3) := by decide +kernel
theorem dX5_add_11 : decode cX5_add 11 = .ok (.aload_n 0, 1) := by decide +kernel
theorem dX5_add_12 : decode cX5_add 12 = .ok (.getfield 19, 3) := by decide +kernel
theorem dX5_add_15 : decode cX5_add 15 = .ok (.arraylength, 1) := by decide +kernel
theorem dX5_add_16 : decode cX5_add 16 = .ok (.if_icmp .lt 5, 3) := by decide +kernel
theorem dX5_add_19 : decode cX5_add 19 = .ok (.iconst 0, 1) := by decide +kernel
theorem dX5_add_20 : decode cX5_add 20 = .ok (.ireturn, 1) := by decide +kernel
theorem dX5_add_21 : decode cX5_add 21 = .ok (.aload_n 0, 1) := by decide +kernel
theorem dX5_add_22 : decode cX5_add 22 = .ok (.getfield 19, 3) := by decide +kernel
theorem dX5_add_25 : decode cX5_add 25 = .ok (.aload_n 0, 1) := by decide +kernel
theorem dX5_add_26 : decode cX5_add 26 = .ok (.getfield 7, 3) := by decide +kernel
theorem dX5_add_29 : decode cX5_add 29 = .ok (.iload_n 1, 1) := by decide +kernel
theorem dX5_add_30 : decode cX5_add 30 = .ok (.iastore, 1) := by decide +kernel
theorem dX5_add_31 : decode cX5_add 31 = .ok (.aload_n 0, 1) := by decide +kernel
theorem dX5_add_32 : decode cX5_add 32 = .ok (.dup, 1) := by decide +kernel
theorem dX5_add_33 : decode cX5_add 33 = .ok (.getfield 7, 3) := by decide +kernel
theorem dX5_add_36 : decode cX5_add 36 = .ok (.iconst 1, 1) := by decide +kernel
theorem dX5_add_37 : decode cX5_add 37 = .ok (.iadd, 1) := by decide +kernel
theorem dX5_add_38 : decode cX5_add 38 = .ok (.putfield 7, 3) := by decide +kernel
theorem dX5_add_41 : decode cX5_add 41 = .ok (.iconst 1, 1) := by decide +kernel
theorem dX5_add_42 : decode cX5_add 42 = .ok (.ireturn, 1) := by decide +kernel
theorem dX5_clear_0 : decode cX5_clear 0 = .ok (.aload_n 0, 1) := by decide +kernel
theorem dX5_clear_1 : decode cX5_clear 1 = .ok (.iconst 0, 1) := by decide +kernel
theorem dX5_clear_2 : decode cX5_clear 2 = .ok (.putfield 7, 3) := by decide +kernel
theorem dX5_clear_5 : decode cX5_clear 5 = .ok (.return_, 1) := by decide +kernel
theorem dX5_fill_0 : decode cX5_fill 0 = .ok (.aload_n 0, 1) := by decide +kernel
theorem dX5_fill_1 : decode cX5_fill 1 = .ok (.iconst 0, 1) := by decide +kernel
theorem dX5_fill_2 : decode cX5_fill 2 = .ok (.iload_n 1, 1) := by decide +kernel
theorem dX5_fill_3 : decode cX5_fill 3 = .ok (.aload_n 0, 1) := by decide +kernel
theorem dX5_fill_4 : decode cX5_fill 4 = .ok (.getfield 19, 3) := by decide +kernel
theorem dX5_fill_7 : decode cX5_fill 7 = .ok (.arraylength, 1) := by decide +kernel
theorem dX5_fill_8 : decode cX5_fill 8 = .ok (.invokestatic 23, 3) := by decide +kernel
theorem dX5_fill_11 : decode cX5_fill 11 = .ok (.invokestatic 13, 3) := by decide +kernel
theorem dX5_fill_14 : decode cX5_fill 14 = .ok (.putfield 7, 3) := by decide +kernel
theorem dX5_fill_17 : decode cX5_fill 17 = .ok (.iconst 0, 1) := by decide +kernel
theorem dX5_fill_18 : decode cX5_fill 18 = .ok (.istore_n 3, 1) := by decide +kernel
theorem dX5_fill_19 : decode cX5_fill 19 = .ok (.iload_n 3, 1) := by decide +kernel
theorem dX5_fill_20 : decode cX5_fill 20 = .ok (.aload_n 0, 1) := by decide +kernel
theorem dX5_fill_21 : decode cX5_fill 21 = .ok (.getfield 7, 3) := by decide +kernel
theorem dX5_fill_24 : decode cX5_fill 24 = .ok (.if_icmp .ge 25, 3) := by decide +kernel
theorem dX5_fill_27 : decode cX5_fill 27 = .ok (.iload_n 3, 1) := by decide +kernel
theorem dX5_fill_28 : decode cX5_fill 28 = .ok (.aload_n 0, 1) := by decide +kernel
theorem dX5_fill_29 : decode cX5_fill 29 = .ok (.getfield 19, 3) := by decide +kernel
theorem dX5_fill_32 : decode cX5_fill 32 = .ok (.arraylength, 1) := by decide +kernel
theorem dX5_fill_33 : decode cX5_fill 33 = .ok (.if_icmp .ge 16, 3) := by decide +kernel
theorem dX5_fill_36 : decode cX5_fill 36 = .ok (.aload_n 0, 1) := by decide +kernel
theorem dX5_fill_37 : decode cX5_fill 37 = .ok (.getfield 19, 3) := by decide +kernel
theorem dX5_fill_40 : decode cX5_fill 40 = .ok (.iload_n 3, 1) := by decide +kernel
theorem dX5_fill_41 : decode cX5_fill 41 = .ok (.iload_n 2, 1) := by decide +kernel
theorem dX5_fill_42 : decode cX5_fill 42 = .ok (.iastore, 1) := by decide +kernel
theorem dX5_fill_43 : decode cX5_fill 43 = .ok (.iinc 3 1, 3) := by decide +kernel
theorem dX5_fill_46 : decode cX5_fill 46 = .ok (.goto (-27), 3) := by decide +kernel
theorem dX5_fill_49 : decode cX5_fill 49 = .ok (.return_, 1) := by decide +kernel
theorem dX5_take_0 : decode cX5_take 0 = .ok (.aload_n 0, 1) := by decide +kernel
theorem dX5_take_1 : decode cX5_take 1 = .ok (.aload_n 1, 1) := by decide +kernel
theorem dX5_take_2 : decode cX5_take 2 = .ok (.getfield 7, 3) := by decide +kernel
theorem dX5_take_5 : decode cX5_take 5 = .ok (.aload_n 0, 1) := by decide +kernel
theorem dX5_take_6 : decode cX5_take 6 = .ok (.getfield 19, 3) := by decide +kernel
theorem dX5_take_9 : decode cX5_take 9 = .ok (.arraylength, 1) := by decide +kernel
theorem dX5_take_10 : decode cX5_take 10 = .ok (.invokestatic 23, 3) := by decide +kernel
theorem dX5_take_13 : decode cX5_take 13 = .ok (.putfield 7, 3) := by decide +kernel
theorem dX5_take_16 : decode cX5_take 16 = .ok (.iconst 0, 1) := by decide +kernel
theorem dX5_take_17 : decode cX5_take 17 = .ok (.istore_n 2, 1) := by decide +kernel
theorem dX5_take_18 : decode cX5_take 18 = .ok (.iload_n 2, 1) := by decide +kernel
theorem dX5_take_19 : decode cX5_take 19 = .ok (.aload_n 0, 1) := by decide +kernel
theorem dX5_take_20 : decode cX5_take 20 = .ok (.getfield 7, 3) := by decide +kernel
theorem dX5_take_23 : decode cX5_take 23 = .ok (.if_icmp .ge 29, 3) := by decide +kernel
theorem dX5_take_26 : decode cX5_take 26 = .ok (.iload_n 2, 1) := by decide +kernel
theorem dX5_take_27 : decode cX5_take 27 = .ok (.aload_n 0, 1) := by decide +kernel
theorem dX5_take_28 : decode cX5_take 28 = .ok (.getfield 19, 3) := by decide +kernel
theorem dX5_take_31 : decode cX5_take 31 = .ok (.arraylength, 1) := by decide +kernel
theorem dX5_take_32 : decode cX5_take 32 = .ok (.if_icmp .ge 20, 3) := by decide +kernel
theorem dX5_take_35 : decode cX5_take 35 = .ok (.aload_n 0, 1) := by decide +kernel
theorem dX5_take_36 : decode cX5_take 36 = .ok (.getfield 19, 3) := by decide +kernel
theorem dX5_take_39 : decode cX5_take 39 = .ok (.iload_n 2, 1) := by decide +kernel
theorem dX5_take_40 : decode cX5_take 40 = .ok (.aload_n 1, 1) := by decide +kernel
theorem dX5_take_41 : decode cX5_take 41 = .ok (.iload_n 2, 1) := by decide +kernel
theorem dX5_take_42 : decode cX5_take 42 = .ok (.invokevirtual 26, 3) := by decide +kernel
theorem dX5_take_45 : decode cX5_take 45 = .ok (.iastore, 1) := by decide +kernel
theorem dX5_take_46 : decode cX5_take 46 = .ok (.iinc 2 1, 3) := by decide +kernel
theorem dX5_take_49 : decode cX5_take 49 = .ok (.goto (-31), 3) := by decide +kernel
theorem dX5_take_52 : decode cX5_take 52 = .ok (.return_, 1) := by decide +kernel
theorem dX5_takeRun_0 : decode cX5_takeRun 0 = .ok (.iload_n 3, 1) := by decide +kernel
theorem dX5_takeRun_1 : decode cX5_takeRun 1 = .ok (.iload_n 1, 1) := by decide +kernel
theorem dX5_takeRun_2 : decode cX5_takeRun 2 = .ok (.if_icmp .lt 38, 3) := by decide +kernel
theorem dX5_takeRun_5 : decode cX5_takeRun 5 = .ok (.iconst 0, 1) := by decide +kernel
theorem dX5_takeRun_6 : decode cX5_takeRun 6 = .ok (.istore 5, 2) := by decide +kernel
theorem dX5_takeRun_8 : decode cX5_takeRun 8 = .ok (.iload 5, 2) := by decide +kernel
theorem dX5_takeRun_10 : decode cX5_takeRun 10 = .ok (.iload 4, 2) := by decide +kernel
theorem dX5_takeRun_12 : decode cX5_takeRun 12 = .ok (.if_icmp .ge 25, 3) := by decide +kernel
theorem dX5_takeRun_15 : decode cX5_takeRun 15 = .ok (.aload_n 0, 1) := by decide +kernel
theorem dX5_takeRun_16 : decode cX5_takeRun 16 = .ok (.iload_n 1, 1) := by decide +kernel
theorem dX5_takeRun_17 : decode cX5_takeRun 17 = .ok (.iload 5, 2) := by decide +kernel
theorem dX5_takeRun_19 : decode cX5_takeRun 19 = .ok (.iadd, 1) := by decide +kernel
theorem dX5_takeRun_20 : decode cX5_takeRun 20 = .ok (.aload_n 2, 1) := by decide +kernel
theorem dX5_takeRun_21 : decode cX5_takeRun 21 = .ok (.iload_n 3, 1) := by decide +kernel
theorem dX5_takeRun_22 : decode cX5_takeRun 22 = .ok (.iload 5, 2) := by decide +kernel
theorem dX5_takeRun_24 : decode cX5_takeRun 24 = .ok (.iadd, 1) := by decide +kernel
theorem dX5_takeRun_25 : decode cX5_takeRun 25 = .ok (.invokevirtual 26, 3) := by decide +kernel
theorem dX5_takeRun_28 : decode cX5_takeRun 28 = .ok (.invokevirtual 30, 3) := by decide +kernel
theorem dX5_takeRun_31 : decode cX5_takeRun 31 = .ok (.iinc 5 1, 3) := by decide +kernel
theorem dX5_takeRun_34 : decode cX5_takeRun 34 = .ok (.goto (-26), 3) := by decide +kernel
theorem dX5_takeRun_37 : decode cX5_takeRun 37 = .ok (.goto 36, 3) := by decide +kernel
theorem dX5_takeRun_40 : decode cX5_takeRun 40 = .ok (.iload 4, 2) := by decide +kernel
theorem dX5_takeRun_42 : decode cX5_takeRun 42 = .ok (.iconst 1, 1) := by decide +kernel
theorem dX5_takeRun_43 : decode cX5_takeRun 43 = .ok (.isub, 1) := by decide +kernel
theorem dX5_takeRun_44 : decode cX5_takeRun 44 = .ok (.istore 5, 2) := by decide +kernel
theorem dX5_takeRun_46 : decode cX5_takeRun 46 = .ok (.iload 5, 2) := by decide +kernel
theorem dX5_takeRun_48 : decode cX5_takeRun 48 = .ok (.ifCond .lt 25, 3) := by decide +kernel
theorem dX5_takeRun_51 : decode cX5_takeRun 51 = .ok (.aload_n 0, 1) := by decide +kernel
theorem dX5_takeRun_52 : decode cX5_takeRun 52 = .ok (.iload_n 1, 1) := by decide +kernel
theorem dX5_takeRun_53 : decode cX5_takeRun 53 = .ok (.iload 5, 2) := by decide +kernel
theorem dX5_takeRun_55 : decode cX5_takeRun 55 = .ok (.iadd, 1) := by decide +kernel
theorem dX5_takeRun_56 : decode cX5_takeRun 56 = .ok (.aload_n 2, 1) := by decide +kernel
theorem dX5_takeRun_57 : decode cX5_takeRun 57 = .ok (.iload_n 3, 1) := by decide +kernel
theorem dX5_takeRun_58 : decode cX5_takeRun 58 = .ok (.iload 5, 2) := by decide +kernel
theorem dX5_takeRun_60 : decode cX5_takeRun 60 = .ok (.iadd, 1) := by decide +kernel
theorem dX5_takeRun_61 : decode cX5_takeRun 61 = .ok (.invokevirtual 26, 3) := by decide +kernel
theorem dX5_takeRun_64 : decode cX5_takeRun 64 = .ok (.invokevirtual 30, 3) := by decide +kernel
theorem dX5_takeRun_67 : decode cX5_takeRun 67 = .ok (.iinc 5 (-1), 3) := by decide +kernel
theorem dX5_takeRun_70 : decode cX5_takeRun 70 = .ok (.goto (-24), 3) := by decide +kernel
theorem dX5_takeRun_73 : decode cX5_takeRun 73 = .ok (.return_, 1) := by decide +kernel
end
section
/-! ROWS OF NUMBERS (OneGoCeiling$Row): a row at r, its array at r + 1 -/
/-- the row at r, of at most cap numbers, holds n numbers f; all else is as in h0 -/
def RowR (r cap : Nat) (h0 : AH) (n : Int32) (f : Nat → Int32) (g : AH) : Prop :=
  g.1 = h0.1 ∧ r + 1 < g.1 ∧ g.2 r = .inr (.inr (4, [.ref (r + 1), .int n])) ∧ g.2 (r + 1) = .inl (cap, f) ∧ ∀ j, j ≠ r → j ≠ r + 1 → g.2 j = h0.2 j
theorem RowR.o {r cap : Nat} {h0 g : AH} {n : Int32} {f : Nat → Int32} (q : RowR r cap h0 n f g) : r < g.1 ∧ g.2 r = .inr (.inr (4, [.ref (r + 1), .int n])) := ⟨Nat.lt_of_succ_lt q.2.1, q.2.2.1⟩
theorem RowR.a {r cap : Nat} {h0 g : AH} {n : Int32} {f : Nat → Int32} (q : RowR r cap h0 n f g) : r + 1 < g.1 ∧ g.2 (r + 1) = .inl (cap, f) := ⟨q.2.1, q.2.2.2.1⟩
theorem RowR.putN {r cap : Nat} {h0 g : AH} {n n' : Int32} {f : Nat → Int32} (q : RowR r cap h0 n f g) : RowR r cap h0 n' f (hset g r (.inr (.inr (4, [.ref (r + 1), .int n'])))) := by
  obtain ⟨q1, q2, q3, q4, q5⟩ := q
  refine ⟨q1, q2, hset_same _ _ _, ?_, fun j h1 h2 => ?_⟩
  · rw [hset_ne _ _ (by omega)]; exact q4
  · rw [hset_ne _ _ h1]; exact q5 j h1 h2
theorem RowR.putA {r cap : Nat} {h0 g : AH} {n : Int32} {f f' : Nat → Int32} (q : RowR r cap h0 n f g) : RowR r cap h0 n f' (hset g (r + 1) (.inl (cap, f'))) := by
  obtain ⟨q1, q2, q3, q4, q5⟩ := q
  refine ⟨q1, q2, ?_, hset_same _ _ _, fun j h1 h2 => ?_⟩
  · rw [hset_ne _ _ (by omega)]; exact q3
  · rw [hset_ne _ _ h2]; exact q5 j h1 h2
/-- what the row at r holds: a list -/
def RowAt (r cap : Nat) (l : List Int32) (g : AH) : Prop :=
  r + 1 < g.1 ∧ l.length ≤ cap ∧ cap ≤ 4000 ∧ ∃ f : Nat → Int32, g.2 r = .inr (.inr (4, [.ref (r + 1), .int (nI l.length)])) ∧ g.2 (r + 1) = .inl (cap, f) ∧ ∀ j, j < l.length → f j = l.getD j 0
/-- nothing but the cells lo .. lo + w - 1 changed -/
def Off (lo w : Nat) (h g : AH) : Prop := g.1 = h.1 ∧ ∀ j, (j < lo ∨ lo + w ≤ j) → g.2 j = h.2 j
theorem Off.rf (lo w : Nat) (h : AH) : Off lo w h h := ⟨rfl, fun _ _ => rfl⟩
theorem Off.tr {lo w : Nat} {h g k : AH} (a : Off lo w h g) (b : Off lo w g k) : Off lo w h k := ⟨b.1.trans a.1, fun j hj => (b.2 j hj).trans (a.2 j hj)⟩
theorem Off.wide {lo w lo' w' : Nat} {h g : AH} (a : Off lo w h g) (h1 : lo' ≤ lo) (h2 : lo + w ≤ lo' + w') : Off lo' w' h g := ⟨a.1, fun j hj => a.2 j (by omega)⟩
theorem RowAt.off {r cap : Nat} {l : List Int32} {h g : AH} (q : RowAt r cap l h) {lo w : Nat} (o : Off lo w h g) (hd : r + 2 ≤ lo ∨ lo + w ≤ r) : RowAt r cap l g := by
  obtain ⟨q1, q2, q3, f, q4, q5, q6⟩ := q
  exact ⟨by rw [o.1]; exact q1, q2, q3, f, by rw [o.2 r (by omega)]; exact q4, by rw [o.2 (r + 1) (by omega)]; exact q5, q6⟩
theorem RowAt.R {r cap : Nat} {l : List Int32} {h : AH} (q : RowAt r cap l h) : ∃ f : Nat → Int32, RowR r cap h (nI l.length) f h ∧ ∀ j, j < l.length → f j = l.getD j 0 := by
  obtain ⟨q1, q2, q3, f, q4, q5, q6⟩ := q
  exact ⟨f, ⟨rfl, q1, q4, q5, fun _ _ _ => rfl⟩, q6⟩
theorem RowR.at {r cap : Nat} {l : List Int32} {h g : AH} {f : Nat → Int32} (q : RowR r cap h (nI l.length) f g) (h1 : l.length ≤ cap) (h2 : cap ≤ 4000) (h3 : ∀ j, j < l.length → f j = l.getD j 0) : RowAt r cap l g ∧ Off r 2 h g :=
  ⟨⟨q.2.1, h1, h2, f, q.2.2.1, q.2.2.2.1, h3⟩, q.1, fun j hj => q.2.2.2.2 j (by omega) (by omega)⟩
theorem RowAt.V {r cap : Nat} {l : List Int32} {g : AH} (q : RowAt r cap l g) : ∃ (fs : List Value) (T : u_T) (N : Nat), r < g.1 ∧ g.2 r = .inr (.inr (4, fs)) ∧ vwCl[4]? = some (RX5, T, N) := by
  obtain ⟨q1, q2, q3, f, q4, q5, q6⟩ := q
  exact ⟨_, _, _, by omega, q4, rfl⟩
-- numbers
theorem getD_out {l : List Int32} {n : Nat} (h : l.length ≤ n) : l.getD n 0 = 0 := by rw [List.getD_eq_getElem?_getD, List.getElem?_eq_none h]; rfl
theorem getD_in {l : List Int32} {n : Nat} (h : n < l.length) : l.getD n 0 = l[n] := by rw [List.getD_eq_getElem?_getD, List.getElem?_eq_getElem h]; rfl
theorem getD_set {l : List Int32} {n j : Nat} {v : Int32} (h : n < l.length) : (l.set n v).getD j 0 = if j = n then v else l.getD j 0 := by
  rw [List.getD_eq_getElem?_getD, List.getElem?_set, List.getD_eq_getElem?_getD]
  by_cases e : j = n
  · subst e; simp [h]
  · rw [if_neg (Ne.symm e), if_neg e]
def inI (i : Int32) (n : Nat) : Prop := 0 ≤ i.toInt ∧ i.toInt < n
def atL (l : List Int32) (i : Int32) : Int32 := if 0 ≤ i.toInt then l.getD i.toInt.toNat 0 else 0
def wrL (l : List Int32) (i v : Int32) : List Int32 := if 0 ≤ i.toInt then l.set i.toInt.toNat v else l
def hasL (l : List Int32) (i : Int32) : Bool := decide (0 ≤ i.toInt ∧ i.toInt < l.length)
def b2i (b : Bool) : Int32 := if b then 1 else 0
theorem b2i_t : b2i true = 1 := rfl
theorem b2i_f : b2i false = 0 := rfl
theorem i32_lt0 {i : Int32} : i < 0 ↔ i.toInt < 0 := Int32.lt_iff_toInt_lt
theorem i32_le0 {i : Int32} : 0 ≤ i ↔ 0 ≤ i.toInt := Int32.le_iff_toInt_le
theorem fa_lt {a b : Int32} : a < b ↔ a.toInt < b.toInt := Int32.lt_iff_toInt_lt
theorem fa_le {a b : Int32} : a ≤ b ↔ a.toInt ≤ b.toInt := Int32.le_iff_toInt_le
theorem fa_eq {a b : Int32} : a = b ↔ a.toInt = b.toInt := Int32.toInt_inj.symm
theorem t0 : (0 : Int32).toInt = 0 := rfl
theorem t1 : (1 : Int32).toInt = 1 := rfl
theorem ge0 {i : Int32} (h : ¬ i < 0) : 0 ≤ i.toInt := by rw [fa_lt, t0] at h; omega
theorem ix_hi {i : Int32} (h : ¬ i < 0) : i.toInt = ((i.toInt.toNat : Nat) : Int) := by have := ge0 h; omega
theorem nI_T {n : Nat} (h : n ≤ 4000) : (nI n).toInt = (n : Int) := nI_toInt (by omega)
theorem lt_nI {i : Int32} {n : Nat} (hn : n ≤ 4000) (h : ¬ nI n ≤ i) : i.toInt < n := by rw [fa_le, nI_T hn] at h; omega
theorem le_nI {i : Int32} {n : Nat} (hn : n ≤ 4000) (h : nI n ≤ i) : (n : Int) ≤ i.toInt := by rw [fa_le, nI_T hn] at h; omega
set_option maxHeartbeats 4000000 in
theorem ct_Row_length {r cap : Nat} {l : List Int32} {g : AH} {P' : AH → Prop} (hR : RowAt r cap l g) (hP : P' g) : CV 1 0 0 mX5_length r [] g (fun v g' => v = some (.int (nI l.length)) ∧ P' g') := by
  refine ⟨hR.V, ?_⟩
  refine ct_of (by decide) (fun _ _ => Nat.le_of_ble_eq_true rfl) ?_
  dsimp only [pad, ent]
  obtain ⟨f, hr, hf⟩ := hR.R
  refine aw_P (P' := fun g' => RowR r cap g (nI l.length) f g' ∧ g' = g) (fun g' e => by subst e; exact ⟨hr, rfl⟩) ?_
  refine r_aload_n (pc := 0) dX5_length_0 rfl ?_
  refine r_getf (pc := 1) (k := 1) dX5_length_1 hX5 eX5 (by decide) fX5_7 (fun _ q => q.1.o) rfl ?_
  refine r_ireturn (pc := 4) (ty := .int) dX5_length_4 rfl rfl ⟨Nat.zero_le _, Nat.zero_le _⟩ (fun gE hg => ?_)
  exact ⟨rfl, by rw [hg.2]; exact hP⟩
set_option maxHeartbeats 4000000 in
theorem ct_Row_at {r cap : Nat} {l : List Int32} {i : Int32} {g : AH} {P' : AH → Prop} (hR : RowAt r cap l g) (hP : P' g) : CV 1 0 0 mX5_at r [.int i] g (fun v g' => v = some (.int (atL l i)) ∧ P' g') := by
  refine ⟨hR.V, ?_⟩
  refine ct_of (by decide) (fun _ _ => Nat.le_of_ble_eq_true rfl) ?_
  dsimp only [pad, ent]
  obtain ⟨f, hr, hf⟩ := hR.R
  have hn := hR.2.1
  have hc := hR.2.2.1
  have hT := nI_T (n := l.length) (by omega)
  have hT2 := nI_T (n := cap) hc
  refine aw_P (P' := fun g' => RowR r cap g (nI l.length) f g' ∧ g' = g) (fun g' e => by subst e; exact ⟨hr, rfl⟩) ?_
  refine r_iload_n (pc := 0) dX5_at_0 rfl ?_
  refine r_if_lt (pc := 1) 30 dX5_at_1 (by decide) (fun c1 => ?_) (fun c1 => ?_)
  · skip
    have k1 := i32_lt0.mp c1
    refine r_iconst (pc := 30) (v := 0) dX5_at_30 (by decide) ?_
    refine r_ireturn (pc := 31) (ty := .int) dX5_at_31 rfl rfl ⟨Nat.zero_le _, Nat.zero_le _⟩ (fun gE hg => ?_)
    refine ⟨?_, by rw [hg.2]; exact hP⟩
    unfold atL
    first
    | (rw [if_pos (by omega), hf _ (by omega)]; done)
    | (rw [if_neg (by omega)]; done)
    | (rw [if_pos (by omega), getD_out (by omega)]; done)
    | omega
  · skip
    have k1 := ge0 c1
    refine r_iload_n (pc := 4) dX5_at_4 rfl ?_
    refine r_aload_n (pc := 5) dX5_at_5 rfl ?_
    refine r_getf (pc := 6) (k := 1) dX5_at_6 hX5 eX5 (by decide) fX5_7 (fun _ q => q.1.o) rfl ?_
    refine r_icmp_ge (pc := 9) 30 dX5_at_9 (by decide) (fun c9 => ?_) (fun c9 => ?_)
    · skip
      have k9 := le_nI (by omega) c9
      refine r_iconst (pc := 30) (v := 0) dX5_at_30 (by decide) ?_
      refine r_ireturn (pc := 31) (ty := .int) dX5_at_31 rfl rfl ⟨Nat.zero_le _, Nat.zero_le _⟩ (fun gE hg => ?_)
      refine ⟨?_, by rw [hg.2]; exact hP⟩
      unfold atL
      first
      | (rw [if_pos (by omega), hf _ (by omega)]; done)
      | (rw [if_neg (by omega)]; done)
      | (rw [if_pos (by omega), getD_out (by omega)]; done)
      | omega
    · skip
      have k9 := lt_nI (by omega) c9
      refine r_iload_n (pc := 12) dX5_at_12 rfl ?_
      refine r_aload_n (pc := 13) dX5_at_13 rfl ?_
      refine r_getf (pc := 14) (k := 0) dX5_at_14 hX5 eX5 (by decide) fX5_19 (fun _ q => q.1.o) rfl ?_
      refine r_alen (pc := 17) (v := nI cap) dX5_at_17 (fun _ q => q.1.a) rfl ?_
      refine r_icmp_ge (pc := 18) 30 dX5_at_18 (by decide) (fun c18 => ?_) (fun c18 => ?_)
      · skip
        have k18 := le_nI hc c18
        refine r_iconst (pc := 30) (v := 0) dX5_at_30 (by decide) ?_
        refine r_ireturn (pc := 31) (ty := .int) dX5_at_31 rfl rfl ⟨Nat.zero_le _, Nat.zero_le _⟩ (fun gE hg => ?_)
        refine ⟨?_, by rw [hg.2]; exact hP⟩
        unfold atL
        first
        | (rw [if_pos (by omega), hf _ (by omega)]; done)
        | (rw [if_neg (by omega)]; done)
        | (rw [if_pos (by omega), getD_out (by omega)]; done)
        | omega
      · skip
        have k18 := lt_nI hc c18
        refine r_aload_n (pc := 21) dX5_at_21 rfl ?_
        refine r_getf (pc := 22) (k := 0) dX5_at_22 hX5 eX5 (by decide) fX5_19 (fun _ q => q.1.o) rfl ?_
        refine r_iload_n (pc := 25) dX5_at_25 rfl ?_
        refine r_iald (pc := 26) (j := i.toInt.toNat) dX5_at_26 (fun _ q => q.1.a) (ix_hi c1) (by have := lt_nI hc c18; have := ge0 c1; omega) ?_
        refine r_goto (pc := 27) 31 dX5_at_27 (by decide) ?_
        refine r_ireturn (pc := 31) (ty := .int) dX5_at_31 rfl rfl ⟨Nat.zero_le _, Nat.zero_le _⟩ (fun gE hg => ?_)
        refine ⟨?_, by rw [hg.2]; exact hP⟩
        unfold atL
        first
        | (rw [if_pos (by omega), hf _ (by omega)]; done)
        | (rw [if_neg (by omega)]; done)
        | (rw [if_pos (by omega), getD_out (by omega)]; done)
        | omega
set_option maxHeartbeats 4000000 in
theorem ct_Row_has {r cap : Nat} {l : List Int32} {i : Int32} {g : AH} {P' : AH → Prop} (hR : RowAt r cap l g) (hP : P' g) : CV 1 0 0 mX5_has r [.int i] g (fun v g' => v = some (.int (b2i (hasL l i))) ∧ P' g') := by
  refine ⟨hR.V, ?_⟩
  refine ct_of (by decide) (fun _ _ => Nat.le_of_ble_eq_true rfl) ?_
  dsimp only [pad, ent]
  obtain ⟨f, hr, hf⟩ := hR.R
  have hn := hR.2.1
  have hc := hR.2.2.1
  refine aw_P (P' := fun g' => RowR r cap g (nI l.length) f g' ∧ g' = g) (fun g' e => by subst e; exact ⟨hr, rfl⟩) ?_
  refine r_iload_n (pc := 0) dX5_has_0 rfl ?_
  refine r_if_lt (pc := 1) 25 dX5_has_1 (by decide) (fun c1 => ?_) (fun c1 => ?_)
  · skip
    have k1 := i32_lt0.mp c1
    refine r_iconst (pc := 25) (v := 0) dX5_has_25 (by decide) ?_
    refine r_ireturn (pc := 26) (ty := .boolean) dX5_has_26 rfl rfl ⟨Nat.zero_le _, Nat.zero_le _⟩ (fun gE hg => ?_)
    refine ⟨?_, by rw [hg.2]; exact hP⟩
    unfold hasL
    first
    | (rw [decide_eq_true (by omega)]; rfl)
    | (rw [decide_eq_false (by omega)]; rfl)
  · skip
    have k1 := ge0 c1
    refine r_iload_n (pc := 4) dX5_has_4 rfl ?_
    refine r_aload_n (pc := 5) dX5_has_5 rfl ?_
    refine r_getf (pc := 6) (k := 1) dX5_has_6 hX5 eX5 (by decide) fX5_7 (fun _ q => q.1.o) rfl ?_
    refine r_icmp_ge (pc := 9) 25 dX5_has_9 (by decide) (fun c9 => ?_) (fun c9 => ?_)
    · skip
      have k9 := le_nI (by omega) c9
      refine r_iconst (pc := 25) (v := 0) dX5_has_25 (by decide) ?_
      refine r_ireturn (pc := 26) (ty := .boolean) dX5_has_26 rfl rfl ⟨Nat.zero_le _, Nat.zero_le _⟩ (fun gE hg => ?_)
      refine ⟨?_, by rw [hg.2]; exact hP⟩
      unfold hasL
      first
      | (rw [decide_eq_true (by omega)]; rfl)
      | (rw [decide_eq_false (by omega)]; rfl)
    · skip
      have k9 := lt_nI (by omega) c9
      refine r_iload_n (pc := 12) dX5_has_12 rfl ?_
      refine r_aload_n (pc := 13) dX5_has_13 rfl ?_
      refine r_getf (pc := 14) (k := 0) dX5_has_14 hX5 eX5 (by decide) fX5_19 (fun _ q => q.1.o) rfl ?_
      refine r_alen (pc := 17) (v := nI cap) dX5_has_17 (fun _ q => q.1.a) rfl ?_
      refine r_icmp_ge (pc := 18) 25 dX5_has_18 (by decide) (fun c18 => ?_) (fun c18 => ?_)
      · skip
        have k18 := le_nI hc c18
        refine r_iconst (pc := 25) (v := 0) dX5_has_25 (by decide) ?_
        refine r_ireturn (pc := 26) (ty := .boolean) dX5_has_26 rfl rfl ⟨Nat.zero_le _, Nat.zero_le _⟩ (fun gE hg => ?_)
        refine ⟨?_, by rw [hg.2]; exact hP⟩
        unfold hasL
        first
        | (rw [decide_eq_true (by omega)]; rfl)
        | (rw [decide_eq_false (by omega)]; rfl)
      · skip
        have k18 := lt_nI hc c18
        refine r_iconst (pc := 21) (v := 1) dX5_has_21 (by decide) ?_
        refine r_goto (pc := 22) 26 dX5_has_22 (by decide) ?_
        refine r_ireturn (pc := 26) (ty := .boolean) dX5_has_26 rfl rfl ⟨Nat.zero_le _, Nat.zero_le _⟩ (fun gE hg => ?_)
        refine ⟨?_, by rw [hg.2]; exact hP⟩
        unfold hasL
        first
        | (rw [decide_eq_true (by omega)]; rfl)
        | (rw [decide_eq_false (by omega)]; rfl)
set_option maxHeartbeats 4000000 in
theorem ct_Row_hasRun {r cap : Nat} {l : List Int32} {i n : Int32} {g : AH} {P' : AH → Prop} (hR : RowAt r cap l g) (hP : P' g) : CV 1 0 0 mX5_hasRun r [.int i, .int n] g (fun v g' => v = some (.int (b2i (decide (0 ≤ i.toInt ∧ 0 ≤ n.toInt ∧ i.toInt + n.toInt ≤ l.length)))) ∧ P' g') := by
  refine ⟨hR.V, ?_⟩
  refine ct_of (by decide) (fun _ _ => Nat.le_of_ble_eq_true rfl) ?_
  dsimp only [pad, ent]
  obtain ⟨f, hr, hf⟩ := hR.R
  have hn := hR.2.1
  have hc := hR.2.2.1
  refine aw_P (P' := fun g' => RowR r cap g (nI l.length) f g' ∧ g' = g) (fun g' e => by subst e; exact ⟨hr, rfl⟩) ?_
  have hT := nI_T (n := l.length) (by omega)
  refine r_iload_n (pc := 0) dX5_hasRun_0 rfl ?_
  refine r_if_lt (pc := 1) 30 dX5_hasRun_1 (by decide) (fun c1 => ?_) (fun c1 => ?_)
  · skip
    refine r_iconst (pc := 30) (v := 0) dX5_hasRun_30 (by decide) ?_
    refine r_ireturn (pc := 31) (ty := .boolean) dX5_hasRun_31 rfl rfl ⟨Nat.zero_le _, Nat.zero_le _⟩ (fun gE hg => ?_)
    refine ⟨?_, by rw [hg.2]; exact hP⟩
    have hT := nI_T (n := l.length) (by omega)
    simp only [fa_lt, fa_le, t0, hT] at *
    first
    | (rw [decide_eq_true (by omega)]; rfl)
    | (rw [decide_eq_false (by omega)]; rfl)
    | (have hT := nI_T (n := l.length) (by omega)
       have hs : (nI l.length - n).toInt = (l.length : Int) - n.toInt := by
          rw [Int32.toInt_sub, hT]
          exact Int.bmod_eq_of_le (by omega) (by omega)
       simp only [hs] at *
       first
       | (rw [decide_eq_true (by omega)]; rfl)
       | (rw [decide_eq_false (by omega)]; rfl))
  · skip
    refine r_iload_n (pc := 4) dX5_hasRun_4 rfl ?_
    refine r_if_lt (pc := 5) 30 dX5_hasRun_5 (by decide) (fun c5 => ?_) (fun c5 => ?_)
    · skip
      refine r_iconst (pc := 30) (v := 0) dX5_hasRun_30 (by decide) ?_
      refine r_ireturn (pc := 31) (ty := .boolean) dX5_hasRun_31 rfl rfl ⟨Nat.zero_le _, Nat.zero_le _⟩ (fun gE hg => ?_)
      refine ⟨?_, by rw [hg.2]; exact hP⟩
      have hT := nI_T (n := l.length) (by omega)
      simp only [fa_lt, fa_le, t0, hT] at *
      first
      | (rw [decide_eq_true (by omega)]; rfl)
      | (rw [decide_eq_false (by omega)]; rfl)
      | (have hT := nI_T (n := l.length) (by omega)
         have hs : (nI l.length - n).toInt = (l.length : Int) - n.toInt := by
            rw [Int32.toInt_sub, hT]
            exact Int.bmod_eq_of_le (by omega) (by omega)
         simp only [hs] at *
         first
         | (rw [decide_eq_true (by omega)]; rfl)
         | (rw [decide_eq_false (by omega)]; rfl))
    · skip
      refine r_iload_n (pc := 8) dX5_hasRun_8 rfl ?_
      refine r_aload_n (pc := 9) dX5_hasRun_9 rfl ?_
      refine r_getf (pc := 10) (k := 1) dX5_hasRun_10 hX5 eX5 (by decide) fX5_7 (fun _ q => q.1.o) rfl ?_
      refine r_icmp_gt (pc := 13) 30 dX5_hasRun_13 (by decide) (fun c13 => ?_) (fun c13 => ?_)
      · skip
        refine r_iconst (pc := 30) (v := 0) dX5_hasRun_30 (by decide) ?_
        refine r_ireturn (pc := 31) (ty := .boolean) dX5_hasRun_31 rfl rfl ⟨Nat.zero_le _, Nat.zero_le _⟩ (fun gE hg => ?_)
        refine ⟨?_, by rw [hg.2]; exact hP⟩
        have hT := nI_T (n := l.length) (by omega)
        simp only [fa_lt, fa_le, t0, hT] at *
        first
        | (rw [decide_eq_true (by omega)]; rfl)
        | (rw [decide_eq_false (by omega)]; rfl)
        | (have hT := nI_T (n := l.length) (by omega)
           have hs : (nI l.length - n).toInt = (l.length : Int) - n.toInt := by
              rw [Int32.toInt_sub, hT]
              exact Int.bmod_eq_of_le (by omega) (by omega)
           simp only [hs] at *
           first
           | (rw [decide_eq_true (by omega)]; rfl)
           | (rw [decide_eq_false (by omega)]; rfl))
      · skip
        refine r_iload_n (pc := 16) dX5_hasRun_16 rfl ?_
        refine r_aload_n (pc := 17) dX5_hasRun_17 rfl ?_
        refine r_getf (pc := 18) (k := 1) dX5_hasRun_18 hX5 eX5 (by decide) fX5_7 (fun _ q => q.1.o) rfl ?_
        refine r_iload_n (pc := 21) dX5_hasRun_21 rfl ?_
        refine r_isub (pc := 22) dX5_hasRun_22 ?_
        refine r_icmp_gt (pc := 23) 30 dX5_hasRun_23 (by decide) (fun c23 => ?_) (fun c23 => ?_)
        · skip
          refine r_iconst (pc := 30) (v := 0) dX5_hasRun_30 (by decide) ?_
          refine r_ireturn (pc := 31) (ty := .boolean) dX5_hasRun_31 rfl rfl ⟨Nat.zero_le _, Nat.zero_le _⟩ (fun gE hg => ?_)
          refine ⟨?_, by rw [hg.2]; exact hP⟩
          have hT := nI_T (n := l.length) (by omega)
          simp only [fa_lt, fa_le, t0, hT] at *
          first
          | (rw [decide_eq_true (by omega)]; rfl)
          | (rw [decide_eq_false (by omega)]; rfl)
          | (have hT := nI_T (n := l.length) (by omega)
             have hs : (nI l.length - n).toInt = (l.length : Int) - n.toInt := by
                rw [Int32.toInt_sub, hT]
                exact Int.bmod_eq_of_le (by omega) (by omega)
             simp only [hs] at *
             first
             | (rw [decide_eq_true (by omega)]; rfl)
             | (rw [decide_eq_false (by omega)]; rfl))
        · skip
          refine r_iconst (pc := 26) (v := 1) dX5_hasRun_26 (by decide) ?_
          refine r_goto (pc := 27) 31 dX5_hasRun_27 (by decide) ?_
          refine r_ireturn (pc := 31) (ty := .boolean) dX5_hasRun_31 rfl rfl ⟨Nat.zero_le _, Nat.zero_le _⟩ (fun gE hg => ?_)
          refine ⟨?_, by rw [hg.2]; exact hP⟩
          have hT := nI_T (n := l.length) (by omega)
          simp only [fa_lt, fa_le, t0, hT] at *
          first
          | (rw [decide_eq_true (by omega)]; rfl)
          | (rw [decide_eq_false (by omega)]; rfl)
          | (have hT := nI_T (n := l.length) (by omega)
             have hs : (nI l.length - n).toInt = (l.length : Int) - n.toInt := by
                rw [Int32.toInt_sub, hT]
                exact Int.bmod_eq_of_le (by omega) (by omega)
             simp only [hs] at *
             first
             | (rw [decide_eq_true (by omega)]; rfl)
             | (rw [decide_eq_false (by omega)]; rfl))
set_option maxHeartbeats 4000000 in
theorem ct_Row_write {r cap : Nat} {l : List Int32} {i x : Int32} {g : AH} {P' : AH → Prop} (hR : RowAt r cap l g) (hP : ∀ g', RowAt r cap (wrL l i x) g' → Off r 2 g g' → P' g') : CV 1 0 0 mX5_write r [.int i, .int x] g (fun v g' => v = none ∧ P' g') := by
  refine ⟨hR.V, ?_⟩
  refine ct_of (by decide) (fun _ _ => Nat.le_of_ble_eq_true rfl) ?_
  dsimp only [pad, ent]
  obtain ⟨f, hr, hf⟩ := hR.R
  have hn := hR.2.1
  have hc := hR.2.2.1
  refine aw_P (P' := RowR r cap g (nI l.length) f) (fun g' e => by subst e; exact hr) ?_
  have hT := nI_T (n := l.length) (by omega)
  refine r_iload_n (pc := 0) dX5_write_0 rfl ?_
  refine r_if_lt (pc := 1) 28 dX5_write_1 (by decide) (fun c1 => ?_) (fun c1 => ?_)
  · skip
    have k1 := i32_lt0.mp c1
    refine r_return (pc := 28) dX5_write_28 rfl ⟨Nat.zero_le _, Nat.zero_le _⟩ (fun gE hg => ?_)
    first
    | (have hg2 : RowR r cap g (nI (l.set i.toInt.toNat x).length) (upd f i.toInt.toNat x) gE := by rw [List.length_set]; exact hg
       obtain ⟨a, b⟩ := hg2.at (by rw [List.length_set]; exact hn) hc (fun j hj => by
         rw [List.length_set] at hj
         rw [getD_set (by omega)]
         by_cases e : j = i.toInt.toNat
         · rw [if_pos e]; exact if_pos e
         · rw [if_neg e, ← hf j hj]; exact if_neg e)
       unfold wrL at hP
       rw [if_pos (by omega)] at hP
       exact ⟨rfl, hP _ a b⟩)
    | (unfold wrL at hP
       rw [if_neg (by omega)] at hP
       obtain ⟨a, b⟩ := hg.at hn hc hf
       exact ⟨rfl, hP _ a b⟩)
    | (unfold wrL at hP
       rw [if_pos (by omega), List.set_eq_of_length_le (by omega)] at hP
       obtain ⟨a, b⟩ := hg.at hn hc hf
       exact ⟨rfl, hP _ a b⟩)
  · skip
    have k1 := ge0 c1
    refine r_iload_n (pc := 4) dX5_write_4 rfl ?_
    refine r_aload_n (pc := 5) dX5_write_5 rfl ?_
    refine r_getf (pc := 6) (k := 1) dX5_write_6 hX5 eX5 (by decide) fX5_7 (fun _ q => q.o) rfl ?_
    refine r_icmp_ge (pc := 9) 28 dX5_write_9 (by decide) (fun c9 => ?_) (fun c9 => ?_)
    · skip
      have k9 := le_nI (by omega) c9
      refine r_return (pc := 28) dX5_write_28 rfl ⟨Nat.zero_le _, Nat.zero_le _⟩ (fun gE hg => ?_)
      first
      | (have hg2 : RowR r cap g (nI (l.set i.toInt.toNat x).length) (upd f i.toInt.toNat x) gE := by rw [List.length_set]; exact hg
         obtain ⟨a, b⟩ := hg2.at (by rw [List.length_set]; exact hn) hc (fun j hj => by
           rw [List.length_set] at hj
           rw [getD_set (by omega)]
           by_cases e : j = i.toInt.toNat
           · rw [if_pos e]; exact if_pos e
           · rw [if_neg e, ← hf j hj]; exact if_neg e)
         unfold wrL at hP
         rw [if_pos (by omega)] at hP
         exact ⟨rfl, hP _ a b⟩)
      | (unfold wrL at hP
         rw [if_neg (by omega)] at hP
         obtain ⟨a, b⟩ := hg.at hn hc hf
         exact ⟨rfl, hP _ a b⟩)
      | (unfold wrL at hP
         rw [if_pos (by omega), List.set_eq_of_length_le (by omega)] at hP
         obtain ⟨a, b⟩ := hg.at hn hc hf
         exact ⟨rfl, hP _ a b⟩)
    · skip
      have k9 := lt_nI (by omega) c9
      refine r_iload_n (pc := 12) dX5_write_12 rfl ?_
      refine r_aload_n (pc := 13) dX5_write_13 rfl ?_
      refine r_getf (pc := 14) (k := 0) dX5_write_14 hX5 eX5 (by decide) fX5_19 (fun _ q => q.o) rfl ?_
      refine r_alen (pc := 17) (v := nI cap) dX5_write_17 (fun _ q => q.a) rfl ?_
      refine r_icmp_ge (pc := 18) 28 dX5_write_18 (by decide) (fun c18 => ?_) (fun c18 => ?_)
      · skip
        have k18 := le_nI hc c18
        refine r_return (pc := 28) dX5_write_28 rfl ⟨Nat.zero_le _, Nat.zero_le _⟩ (fun gE hg => ?_)
        first
        | (have hg2 : RowR r cap g (nI (l.set i.toInt.toNat x).length) (upd f i.toInt.toNat x) gE := by rw [List.length_set]; exact hg
           obtain ⟨a, b⟩ := hg2.at (by rw [List.length_set]; exact hn) hc (fun j hj => by
             rw [List.length_set] at hj
             rw [getD_set (by omega)]
             by_cases e : j = i.toInt.toNat
             · rw [if_pos e]; exact if_pos e
             · rw [if_neg e, ← hf j hj]; exact if_neg e)
           unfold wrL at hP
           rw [if_pos (by omega)] at hP
           exact ⟨rfl, hP _ a b⟩)
        | (unfold wrL at hP
           rw [if_neg (by omega)] at hP
           obtain ⟨a, b⟩ := hg.at hn hc hf
           exact ⟨rfl, hP _ a b⟩)
        | (unfold wrL at hP
           rw [if_pos (by omega), List.set_eq_of_length_le (by omega)] at hP
           obtain ⟨a, b⟩ := hg.at hn hc hf
           exact ⟨rfl, hP _ a b⟩)
      · skip
        have k18 := lt_nI hc c18
        refine r_aload_n (pc := 21) dX5_write_21 rfl ?_
        refine r_getf (pc := 22) (k := 0) dX5_write_22 hX5 eX5 (by decide) fX5_19 (fun _ q => q.o) rfl ?_
        refine r_iload_n (pc := 25) dX5_write_25 rfl ?_
        refine r_iload_n (pc := 26) dX5_write_26 rfl ?_
        refine r_iast (pc := 27) (j := i.toInt.toNat) (P' := RowR r cap g (nI l.length) (upd f i.toInt.toNat x)) dX5_write_27 (fun _ q => q.a) (ix_hi c1) (by omega) (fun _ q => q.putA) ?_
        refine r_return (pc := 28) dX5_write_28 rfl ⟨Nat.zero_le _, Nat.zero_le _⟩ (fun gE hg => ?_)
        first
        | (have hg2 : RowR r cap g (nI (l.set i.toInt.toNat x).length) (upd f i.toInt.toNat x) gE := by rw [List.length_set]; exact hg
           obtain ⟨a, b⟩ := hg2.at (by rw [List.length_set]; exact hn) hc (fun j hj => by
             rw [List.length_set] at hj
             rw [getD_set (by omega)]
             by_cases e : j = i.toInt.toNat
             · rw [if_pos e]; exact if_pos e
             · rw [if_neg e, ← hf j hj]; exact if_neg e)
           unfold wrL at hP
           rw [if_pos (by omega)] at hP
           exact ⟨rfl, hP _ a b⟩)
        | (unfold wrL at hP
           rw [if_neg (by omega)] at hP
           obtain ⟨a, b⟩ := hg.at hn hc hf
           exact ⟨rfl, hP _ a b⟩)
        | (unfold wrL at hP
           rw [if_pos (by omega), List.set_eq_of_length_le (by omega)] at hP
           obtain ⟨a, b⟩ := hg.at hn hc hf
           exact ⟨rfl, hP _ a b⟩)
set_option maxHeartbeats 4000000 in
theorem ct_Row_clear {r cap : Nat} {l : List Int32} {g : AH} {P' : AH → Prop} (hR : RowAt r cap l g) (hP : ∀ g', RowAt r cap [] g' → Off r 2 g g' → P' g') : CV 1 0 0 mX5_clear r [] g (fun v g' => v = none ∧ P' g') := by
  refine ⟨hR.V, ?_⟩
  refine ct_of (by decide) (fun _ _ => Nat.le_of_ble_eq_true rfl) ?_
  dsimp only [pad, ent]
  obtain ⟨f, hr, hf⟩ := hR.R
  have hn := hR.2.1
  have hc := hR.2.2.1
  refine aw_P (P' := RowR r cap g (nI l.length) f) (fun g' e => by subst e; exact hr) ?_
  refine r_aload_n (pc := 0) dX5_clear_0 rfl ?_
  refine r_iconst (pc := 1) (v := 0) dX5_clear_1 (by decide) ?_
  refine r_putf (pc := 2) (k := 1) (P' := RowR r cap g (nI ([] : List Int32).length) f) tyX5 dX5_clear_2 hX5 tyX5_ok nmX5 eX5 (by decide) fX5_7 rfl rfl (fun _ _ => rfl) (fun _ _ => rfl) (Nat.le_of_ble_eq_true rfl) (fun _ q => q.o) (fun _ q => q.putN) ?_
  refine r_return (pc := 5) dX5_clear_5 rfl ⟨Nat.zero_le _, Nat.zero_le _⟩ (fun gE hg => ?_)
  obtain ⟨a, b⟩ := hg.at (Nat.zero_le _) hc (fun j hj => absurd hj (Nat.not_lt_zero j))
  exact ⟨rfl, hP _ a b⟩
def addL (cap : Nat) (l : List Int32) (x : Int32) : List Int32 := if l.length < cap then l ++ [x] else l
theorem getD_app {l : List Int32} {x : Int32} {j : Nat} (h : j < l.length + 1) : (l ++ [x]).getD j 0 = if j = l.length then x else l.getD j 0 := by
  rw [List.getD_eq_getElem?_getD, List.getD_eq_getElem?_getD]
  by_cases e : j = l.length
  · subst e; simp
  · rw [if_neg e, List.getElem?_append_left (by omega)]
set_option maxHeartbeats 4000000 in
theorem ct_Row_add {r cap : Nat} {l : List Int32} {x : Int32} {g : AH} {P' : AH → Prop} (hR : RowAt r cap l g) (hP : ∀ g', RowAt r cap (addL cap l x) g' → Off r 2 g g' → P' g') : CV 1 0 0 mX5_add r [.int x] g (fun v g' => v = some (.int (b2i (decide (l.length < cap)))) ∧ P' g') := by
  refine ⟨hR.V, ?_⟩
  refine ct_of (by decide) (fun _ _ => Nat.le_of_ble_eq_true rfl) ?_
  dsimp only [pad, ent]
  obtain ⟨f, hr, hf⟩ := hR.R
  have hn := hR.2.1
  have hc := hR.2.2.1
  have hT := nI_T (n := l.length) (by omega)
  have hT2 := nI_T (n := cap) hc
  refine aw_P (P' := RowR r cap g (nI l.length) f) (fun g' e => by subst e; exact hr) ?_
  refine r_aload_n (pc := 0) dX5_add_0 rfl ?_
  refine r_getf (pc := 1) (k := 1) dX5_add_1 hX5 eX5 (by decide) fX5_7 (fun _ q => q.o) rfl ?_
  refine r_if_lt (pc := 4) 19 dX5_add_4 (by decide) (fun c4 => ?_) (fun c4 => ?_)
  · skip
    exact absurd c4 (fun q => by have := i32_lt0.mp q; omega)
  · skip
    refine r_aload_n (pc := 7) dX5_add_7 rfl ?_
    refine r_getf (pc := 8) (k := 1) dX5_add_8 hX5 eX5 (by decide) fX5_7 (fun _ q => q.o) rfl ?_
    refine r_aload_n (pc := 11) dX5_add_11 rfl ?_
    refine r_getf (pc := 12) (k := 0) dX5_add_12 hX5 eX5 (by decide) fX5_19 (fun _ q => q.o) rfl ?_
    refine r_alen (pc := 15) (v := nI cap) dX5_add_15 (fun _ q => q.a) rfl ?_
    refine r_icmp_lt (pc := 16) 21 dX5_add_16 (by decide) (fun c16 => ?_) (fun c16 => ?_)
    · skip
      have k16 : l.length < cap := by have := fa_lt.mp c16; omega
      refine r_aload_n (pc := 21) dX5_add_21 rfl ?_
      refine r_getf (pc := 22) (k := 0) dX5_add_22 hX5 eX5 (by decide) fX5_19 (fun _ q => q.o) rfl ?_
      refine r_aload_n (pc := 25) dX5_add_25 rfl ?_
      refine r_getf (pc := 26) (k := 1) dX5_add_26 hX5 eX5 (by decide) fX5_7 (fun _ q => q.o) rfl ?_
      refine r_iload_n (pc := 29) dX5_add_29 rfl ?_
      refine r_iast (pc := 30) (j := l.length) (P' := RowR r cap g (nI l.length) (upd f l.length x)) dX5_add_30 (fun _ q => q.a) hT k16 (fun _ q => q.putA) ?_
      refine r_aload_n (pc := 31) dX5_add_31 rfl ?_
      refine r_dup (pc := 32) dX5_add_32 rfl ?_
      refine r_getf (pc := 33) (k := 1) dX5_add_33 hX5 eX5 (by decide) fX5_7 (fun _ q => q.o) rfl ?_
      refine r_iconst (pc := 36) (v := 1) dX5_add_36 (by decide) ?_
      refine r_iadd (pc := 37) dX5_add_37 ?_
      refine r_putf (pc := 38) (k := 1) (P' := RowR r cap g (nI l.length + 1) (upd f l.length x)) tyX5 dX5_add_38 hX5 tyX5_ok nmX5 eX5 (by decide) fX5_7 rfl rfl (fun _ _ => rfl) (fun _ _ => rfl) (Nat.le_of_ble_eq_true rfl) (fun _ q => q.o) (fun _ q => q.putN) ?_
      refine r_iconst (pc := 41) (v := 1) dX5_add_41 (by decide) ?_
      refine r_ireturn (pc := 42) (ty := .boolean) dX5_add_42 rfl rfl ⟨Nat.zero_le _, Nat.zero_le _⟩ (fun gE hg => ?_)
      rw [decide_eq_true k16]
      unfold addL at hP
      rw [if_pos k16] at hP
      have hg2 : RowR r cap g (nI (l ++ [x]).length) (upd f l.length x) gE := by rw [List.length_append, List.length_singleton, nI_succ]; exact hg
      obtain ⟨a, b⟩ := hg2.at (by rw [List.length_append, List.length_singleton]; exact k16) hc (fun j hj => by
        rw [List.length_append, List.length_singleton] at hj
        rw [getD_app hj]
        by_cases e : j = l.length
        · rw [if_pos e]; exact if_pos e
        · rw [if_neg e, ← hf j (by omega)]; exact if_neg e)
      exact ⟨rfl, hP _ a b⟩
    · skip
      have k16 : ¬ l.length < cap := fun q => c16 (fa_lt.mpr (by omega))
      refine r_iconst (pc := 19) (v := 0) dX5_add_19 (by decide) ?_
      refine r_ireturn (pc := 20) (ty := .boolean) dX5_add_20 rfl rfl ⟨Nat.zero_le _, Nat.zero_le _⟩ (fun gE hg => ?_)
      rw [decide_eq_false k16]
      unfold addL at hP
      rw [if_neg k16] at hP
      obtain ⟨a, b⟩ := hg.at hn hc hf
      exact ⟨rfl, hP _ a b⟩
/-- how many numbers a row of cap keeps of n -/
def clampI (n : Int32) (cap : Nat) : Nat := min n.toInt.toNat cap
theorem clamp_eq {n : Int32} {cap : Nat} (hc : cap ≤ 4000) : (if (0 : Int32) < (if nI cap < n then nI cap else n) then (if nI cap < n then nI cap else n) else 0) = nI (clampI n cap) := by
  have hT := nI_T (n := cap) hc
  have hT2 := nI_T (n := clampI n cap) (by unfold clampI; omega)
  apply Int32.toInt_inj.mp
  rw [hT2]
  unfold clampI
  by_cases a : nI cap < n
  · rw [if_pos a]
    have a2 := fa_lt.mp a
    by_cases b : (0 : Int32) < nI cap
    · rw [if_pos b]; omega
    · rw [if_neg b]; have : ¬ (0 : Int) < (nI cap).toInt := fun q => b (fa_lt.mpr q); rw [t0]; omega
  · rw [if_neg a]
    have a2 : ¬ (nI cap).toInt < n.toInt := fun q => a (fa_lt.mpr q)
    by_cases b : (0 : Int32) < n
    · rw [if_pos b]; have := fa_lt.mp b; rw [t0] at this; omega
    · rw [if_neg b]; have : ¬ (0 : Int) < n.toInt := fun q => b (fa_lt.mpr q); rw [t0]; omega
theorem getD_rep {n j : Nat} {x : Int32} (h : j < n) : (List.replicate n x).getD j 0 = x := by
  rw [List.getD_eq_getElem?_getD, List.getElem?_replicate, if_pos h]; rfl
theorem nI_s (k : Nat) : nI k + 1 = nI (k + 1) := (nI_succ k).symm
set_option maxHeartbeats 4000000 in
theorem ct_Row_fill {r cap : Nat} {l : List Int32} {n x : Int32} {g : AH} {P' : AH → Prop} (hR : RowAt r cap l g) (hP : ∀ g', RowAt r cap (List.replicate (clampI n cap) x) g' → Off r 2 g g' → P' g') : CV 2 0 0 mX5_fill r [.int n, .int x] g (fun v g' => v = none ∧ P' g') := by
  refine ⟨hR.V, ?_⟩
  refine ct_of (by decide) (fun _ _ => Nat.le_of_ble_eq_true rfl) ?_
  dsimp only [pad, ent]
  obtain ⟨f, hr, hf⟩ := hR.R
  have hn := hR.2.1
  have hc := hR.2.2.1
  have hT2 := nI_T (n := cap) hc
  obtain ⟨N, hN⟩ : ∃ N, N = clampI n cap := ⟨_, rfl⟩
  have hNc : N ≤ cap := by rw [hN]; unfold clampI; omega
  have hTN := nI_T (n := N) (by omega)
  refine aw_P (P' := RowR r cap g (nI l.length) f) (fun g' e => by subst e; exact hr) ?_
  have L : ∀ k, k ≤ N → AW (fun _ => True) (rmd 2 0 0) mX5_fill 0 0 19 [some (.ref r), some (.int n), some (.int x), some (.int (nI k))] [] (fun g' => ∃ f', RowR r cap g (nI N) f' g' ∧ ∀ j, j < k → f' j = x) (fun v g' => v = none ∧ P' g') := by
    refine up_loop ?_ ?_
    · refine aw_ex fun f' => ?_
      refine r_iload_n (pc := 19) dX5_fill_19 rfl ?_
      refine r_aload_n (pc := 20) dX5_fill_20 rfl ?_
      refine r_getf (pc := 21) (k := 1) dX5_fill_21 hX5 eX5 (by decide) fX5_7 (fun _ q => q.1.o) rfl ?_
      refine r_icmp_ge (pc := 24) 49 dX5_fill_24 (by decide) (fun c24 => ?_) (fun c24 => ?_)
      · skip
        refine r_return (pc := 49) dX5_fill_49 rfl ⟨Nat.zero_le _, Nat.zero_le _⟩ (fun gE hg => ?_)
        have hg2 : RowR r cap g (nI (List.replicate N x).length) f' gE := by rw [List.length_replicate]; exact hg.1
        obtain ⟨a, b⟩ := hg2.at (by rw [List.length_replicate]; exact hNc) hc (fun j hj => by
          rw [List.length_replicate] at hj
          rw [hg.2 j hj, getD_rep hj])
        rw [hN] at a
        exact ⟨rfl, hP _ a b⟩
      · skip
        exact absurd (fa_le.mpr (Int.le_refl _)) c24
    · intro k hk ih
      have hTk := nI_T (n := k) (by omega)
      refine aw_ex fun f' => ?_
      refine r_iload_n (pc := 19) dX5_fill_19 rfl ?_
      refine r_aload_n (pc := 20) dX5_fill_20 rfl ?_
      refine r_getf (pc := 21) (k := 1) dX5_fill_21 hX5 eX5 (by decide) fX5_7 (fun _ q => q.1.o) rfl ?_
      refine r_icmp_ge (pc := 24) 49 dX5_fill_24 (by decide) (fun c24 => ?_) (fun c24 => ?_)
      · skip
        exact absurd c24 (fun q => by have := fa_le.mp q; omega)
      · skip
        refine r_iload_n (pc := 27) dX5_fill_27 rfl ?_
        refine r_aload_n (pc := 28) dX5_fill_28 rfl ?_
        refine r_getf (pc := 29) (k := 0) dX5_fill_29 hX5 eX5 (by decide) fX5_19 (fun _ q => q.1.o) rfl ?_
        refine r_alen (pc := 32) (v := nI cap) dX5_fill_32 (fun _ q => q.1.a) rfl ?_
        refine r_icmp_ge (pc := 33) 49 dX5_fill_33 (by decide) (fun c33 => ?_) (fun c33 => ?_)
        · skip
          exact absurd c33 (fun q => by have := fa_le.mp q; omega)
        · skip
          refine r_aload_n (pc := 36) dX5_fill_36 rfl ?_
          refine r_getf (pc := 37) (k := 0) dX5_fill_37 hX5 eX5 (by decide) fX5_19 (fun _ q => q.1.o) rfl ?_
          refine r_iload_n (pc := 40) dX5_fill_40 rfl ?_
          refine r_iload_n (pc := 41) dX5_fill_41 rfl ?_
          refine r_iast (pc := 42) (j := k) (P' := fun g' => ∃ f', RowR r cap g (nI N) f' g' ∧ ∀ j, j < k + 1 → f' j = x) dX5_fill_42 (fun _ q => q.1.a) hTk (by omega) (fun _ q => ⟨_, q.1.putA, fun j hj => by
                by_cases e : j = k
                · exact if_pos e
                · exact (if_neg e).trans (q.2 j (by omega))⟩) ?_
          skip
          refine r_iinc1 (pc := 43) dX5_fill_43 rfl (Nat.le_of_ble_eq_true rfl) rfl ?_
          dsimp only [lset]
          refine r_goto (pc := 46) 19 dX5_fill_46 (by decide) ?_
          rw [nI_s]
          exact ih
  refine r_aload_n (pc := 0) dX5_fill_0 rfl ?_
  refine r_iconst (pc := 1) (v := 0) dX5_fill_1 (by decide) ?_
  refine r_iload_n (pc := 2) dX5_fill_2 rfl ?_
  refine r_aload_n (pc := 3) dX5_fill_3 rfl ?_
  refine r_getf (pc := 4) (k := 0) dX5_fill_4 hX5 eX5 (by decide) fX5_19 (fun _ q => q.o) rfl ?_
  refine r_alen (pc := 7) (v := nI cap) dX5_fill_7 (fun _ q => q.a) rfl ?_
  refine r_mmin (pc := 8) dX5_fill_8 nX5_23 ma_s_min z_math ma_c_min ⟨(Nat.le_of_ble_eq_true rfl), (Nat.le_of_ble_eq_true rfl)⟩ (Nat.le_of_ble_eq_true rfl) ⟨Nat.zero_le _, Nat.zero_le _⟩ rfl ?_
  refine r_mmax (pc := 11) dX5_fill_11 nX5_13 ma_s_max z_math ma_c_max ⟨(Nat.le_of_ble_eq_true rfl), (Nat.le_of_ble_eq_true rfl)⟩ (Nat.le_of_ble_eq_true rfl) ⟨Nat.zero_le _, Nat.zero_le _⟩ rfl ?_
  refine r_putf (pc := 14) (k := 1) (P' := RowR r cap g (nI N) f) tyX5 dX5_fill_14 hX5 tyX5_ok nmX5 eX5 (by decide) fX5_7 rfl rfl (fun _ _ => rfl) (fun _ _ => rfl) (Nat.le_of_ble_eq_true rfl) (fun _ q => q.o) (fun _ q => by rw [clamp_eq hc, ← hN]; exact q.putN) ?_
  refine r_iconst (pc := 17) (v := 0) dX5_fill_17 (by decide) ?_
  refine r_istore_n (pc := 18) dX5_fill_18 rfl (Nat.le_of_ble_eq_true rfl) rfl ?_
  dsimp only [lset]
  exact aw_P (fun g' q => ⟨f, q, fun j hj => absurd hj (Nat.not_lt_zero j)⟩) (L 0 (Nat.zero_le _))
/-- the first n numbers of a list, as a row of at most cap takes them -/
theorem getD_take {l : List Int32} {n j : Nat} (h : j < n) : (l.take n).getD j 0 = l.getD j 0 := by
  rw [List.getD_eq_getElem?_getD, List.getD_eq_getElem?_getD, List.getElem?_take, if_pos h]
theorem min_eq {a b : Nat} (ha : a ≤ 4000) (hb : b ≤ 4000) : (if nI b < nI a then nI b else nI a) = nI (min a b) := by
  by_cases h : nI b < nI a
  · rw [if_pos h]; have := fa_lt.mp h; rw [nI_T ha, nI_T hb] at this; rw [show min a b = b by omega]
  · rw [if_neg h]; have : ¬ (nI b).toInt < (nI a).toInt := fun q => h (fa_lt.mpr q); rw [nI_T ha, nI_T hb] at this; rw [show min a b = a by omega]
theorem ix_nI {k n : Nat} (h : k < n) (hn : n ≤ 4000) : (nI k).toInt = (k : Int) := nI_T (by omega)
theorem atL_nI {l : List Int32} {k : Nat} (h : k ≤ 4000) : atL l (nI k) = l.getD k 0 := by
  unfold atL
  rw [nI_T h, if_pos (by omega)]; rfl
set_option maxHeartbeats 4000000 in
theorem ct_Row_take {r cap r2 cap2 : Nat} {l l2 : List Int32} {g : AH} {P' : AH → Prop} (hR : RowAt r cap l g) (hR2 : RowAt r2 cap2 l2 g) (hd : r + 2 ≤ r2 ∨ r2 + 2 ≤ r) (hP : ∀ g', RowAt r cap (l2.take cap) g' → Off r 2 g g' → P' g') : CV 2 0 0 mX5_take r [.ref r2] g (fun v g' => v = none ∧ P' g') := by
  refine ⟨hR.V, ?_⟩
  refine ct_of (by decide) (fun _ _ => Nat.le_of_ble_eq_true rfl) ?_
  dsimp only [pad, ent]
  obtain ⟨f, hr, hf⟩ := hR.R
  have hn := hR.2.1
  have hc := hR.2.2.1
  have hn2 := hR2.2.1
  have hc2 := hR2.2.2.1
  have hT2 := nI_T (n := cap) hc
  obtain ⟨f2, hr2, hf2⟩ := hR2.R
  obtain ⟨N, hN⟩ : ∃ N, N = min l2.length cap := ⟨_, rfl⟩
  have hTN := nI_T (n := N) (by omega)
  have k2 : ∀ {n : Int32} {f : Nat → Int32} {g' : AH}, RowR r cap g n f g' → RowAt r2 cap2 l2 g' := fun q => hR2.off (lo := r) (w := 2) ⟨q.1, fun j hj => q.2.2.2.2 j (by omega) (by omega)⟩ (by omega)
  have k3 : ∀ {n : Int32} {f : Nat → Int32} {g' : AH}, RowR r cap g n f g' → r2 < g'.1 ∧ g'.2 r2 = .inr (.inr (4, [.ref (r2 + 1), .int (nI l2.length)])) := fun q => ⟨by have := (k2 q).1; omega, (q.2.2.2.2 r2 (by omega) (by omega)).trans hr2.2.2.1⟩
  refine aw_P (P' := RowR r cap g (nI l.length) f) (fun g' e => by subst e; exact hr) ?_
  have L : ∀ k, k ≤ N → AW (fun _ => True) (rmd 2 0 0) mX5_take 0 0 18 [some (.ref r), some (.ref r2), some (.int (nI k))] [] (fun g' => ∃ f', RowR r cap g (nI N) f' g' ∧ ∀ j, j < k → f' j = l2.getD j 0) (fun v g' => v = none ∧ P' g') := by
    refine up_loop ?_ ?_
    · refine aw_ex fun f' => ?_
      refine r_iload_n (pc := 18) dX5_take_18 rfl ?_
      refine r_aload_n (pc := 19) dX5_take_19 rfl ?_
      refine r_getf (pc := 20) (k := 1) dX5_take_20 hX5 eX5 (by decide) fX5_7 (fun _ q => q.1.o) rfl ?_
      refine r_icmp_ge (pc := 23) 52 dX5_take_23 (by decide) (fun c23 => ?_) (fun c23 => ?_)
      · skip
        refine r_return (pc := 52) dX5_take_52 rfl ⟨Nat.zero_le _, Nat.zero_le _⟩ (fun gE hg => ?_)
        have hg2 : RowR r cap g (nI (l2.take cap).length) f' gE := by rw [List.length_take, Nat.min_comm, ← hN]; exact hg.1
        obtain ⟨a, b⟩ := hg2.at (by rw [List.length_take]; omega) hc (fun j hj => by
          rw [List.length_take] at hj
          rw [hg.2 j (by omega), getD_take (by omega)])
        exact ⟨rfl, hP _ a b⟩
      · skip
        exact absurd (fa_le.mpr (Int.le_refl _)) c23
    · intro k hk ih
      have hTk := nI_T (n := k) (by omega)
      refine aw_ex fun f' => ?_
      refine r_iload_n (pc := 18) dX5_take_18 rfl ?_
      refine r_aload_n (pc := 19) dX5_take_19 rfl ?_
      refine r_getf (pc := 20) (k := 1) dX5_take_20 hX5 eX5 (by decide) fX5_7 (fun _ q => q.1.o) rfl ?_
      refine r_icmp_ge (pc := 23) 52 dX5_take_23 (by decide) (fun c23 => ?_) (fun c23 => ?_)
      · skip
        exact absurd c23 (fun q => by have := fa_le.mp q; omega)
      · skip
        refine r_iload_n (pc := 26) dX5_take_26 rfl ?_
        refine r_aload_n (pc := 27) dX5_take_27 rfl ?_
        refine r_getf (pc := 28) (k := 0) dX5_take_28 hX5 eX5 (by decide) fX5_19 (fun _ q => q.1.o) rfl ?_
        refine r_alen (pc := 31) (v := nI cap) dX5_take_31 (fun _ q => q.1.a) rfl ?_
        refine r_icmp_ge (pc := 32) 52 dX5_take_32 (by decide) (fun c32 => ?_) (fun c32 => ?_)
        · skip
          exact absurd c32 (fun q => by have := fa_le.mp q; omega)
        · skip
          refine r_aload_n (pc := 35) dX5_take_35 rfl ?_
          refine r_getf (pc := 36) (k := 0) dX5_take_36 hX5 eX5 (by decide) fX5_19 (fun _ q => q.1.o) rfl ?_
          refine r_iload_n (pc := 39) dX5_take_39 rfl ?_
          refine r_aload_n (pc := 40) dX5_take_40 rfl ?_
          refine r_iload_n (pc := 41) dX5_take_41 rfl ?_
          refine r_Vi (pc := 42) (μ' := mX5_at) dX5_take_42 nX5_26 iX5_at vX5_at kX5_at rfl rfl (rr (by decide) rfl) rfl ⟨Nat.zero_le _, Nat.zero_le _⟩ (fun g' q => ct_Row_at (k2 q.1) q) ?_
          refine r_iast (pc := 45) (j := k) (P' := fun g' => ∃ f', RowR r cap g (nI N) f' g' ∧ ∀ j, j < k + 1 → f' j = l2.getD j 0) dX5_take_45 (fun _ q => q.1.a) hTk (by omega) (fun _ q => ⟨_, q.1.putA, fun j hj => by
                by_cases e : j = k
                · rw [e]; exact (if_pos rfl).trans (atL_nI (by omega))
                · exact (if_neg e).trans (q.2 j (by omega))⟩) ?_
          refine r_iinc1 (pc := 46) dX5_take_46 rfl (Nat.le_of_ble_eq_true rfl) rfl ?_
          dsimp only [lset]
          refine r_goto (pc := 49) 18 dX5_take_49 (by decide) ?_
          rw [nI_s]
          exact ih
  refine r_aload_n (pc := 0) dX5_take_0 rfl ?_
  refine r_aload_n (pc := 1) dX5_take_1 rfl ?_
  refine r_getf (pc := 2) (k := 1) dX5_take_2 hX5 eX5 (by decide) fX5_7 (fun _ q => k3 q) rfl ?_
  refine r_aload_n (pc := 5) dX5_take_5 rfl ?_
  refine r_getf (pc := 6) (k := 0) dX5_take_6 hX5 eX5 (by decide) fX5_19 (fun _ q => q.o) rfl ?_
  refine r_alen (pc := 9) (v := nI cap) dX5_take_9 (fun _ q => q.a) rfl ?_
  refine r_mmin (pc := 10) dX5_take_10 nX5_23 ma_s_min z_math ma_c_min ⟨(Nat.le_of_ble_eq_true rfl), (Nat.le_of_ble_eq_true rfl)⟩ (Nat.le_of_ble_eq_true rfl) ⟨Nat.zero_le _, Nat.zero_le _⟩ rfl ?_
  refine r_putf (pc := 13) (k := 1) (P' := RowR r cap g (nI N) f) tyX5 dX5_take_13 hX5 tyX5_ok nmX5 eX5 (by decide) fX5_7 rfl rfl (fun _ _ => rfl) (fun _ _ => rfl) (Nat.le_of_ble_eq_true rfl) (fun _ q => q.o) (fun _ q => by rw [min_eq (by omega) hc, ← hN]; exact q.putN) ?_
  refine r_iconst (pc := 16) (v := 0) dX5_take_16 (by decide) ?_
  refine r_istore_n (pc := 17) dX5_take_17 rfl (Nat.le_of_ble_eq_true rfl) rfl ?_
  dsimp only [lset]
  exact aw_P (fun g' q => ⟨f, q, fun j hj => absurd hj (Nat.not_lt_zero j)⟩) (L 0 (Nat.zero_le _))
/-- a run of n numbers of src, from i on, stands in l from j on -/
def mvL (l src : List Int32) (j i a b : Nat) : List Int32 := (List.range l.length).map fun x => if j + a ≤ x ∧ x < j + b then src.getD (i + (x - j)) 0 else l.getD x 0
theorem mvL_len {l src : List Int32} {j i a b : Nat} : (mvL l src j i a b).length = l.length := by unfold mvL; rw [List.length_map, List.length_range]
theorem mvL_at {l src : List Int32} {j i a b x : Nat} (h : x < l.length) : (mvL l src j i a b).getD x 0 = if j + a ≤ x ∧ x < j + b then src.getD (i + (x - j)) 0 else l.getD x 0 := by
  unfold mvL
  rw [List.getD_eq_getElem?_getD, List.getElem?_map, List.getElem?_range h]; rfl
theorem list_ext {l m : List Int32} (h : l.length = m.length) (h2 : ∀ x, x < l.length → l.getD x 0 = m.getD x 0) : l = m := by
  refine List.ext_getElem h fun x hx hy => ?_
  have := h2 x hx
  rw [getD_in hx, getD_in hy] at this
  exact this
theorem mvL_0 {l src : List Int32} {j i a : Nat} : mvL l src j i a a = l :=
  list_ext mvL_len fun x hx => by rw [mvL_len] at hx; rw [mvL_at hx, if_neg (by omega)]
theorem wrL_nI {l : List Int32} {k : Nat} {x : Int32} (h : k ≤ 4000) : wrL l (nI k) x = l.set k x := by
  unfold wrL
  rw [nI_T h, if_pos (by omega)]; rfl
theorem nI_add' (a b : Nat) : nI a + nI b = nI (a + b) := nI_add a b
theorem mvL_up {l src : List Int32} {j i k : Nat} (h : j + k < l.length) : (mvL l src j i 0 k).set (j + k) (src.getD (i + k) 0) = mvL l src j i 0 (k + 1) := by
  refine list_ext (by rw [List.length_set, mvL_len, mvL_len]) fun x hx => ?_
  rw [List.length_set, mvL_len] at hx
  rw [getD_set (by rw [mvL_len]; exact h), mvL_at hx, mvL_at hx]
  by_cases e : x = j + k
  · subst e; rw [if_pos rfl, if_pos (by omega), show i + (j + k - j) = i + k by omega]
  · rw [if_neg e]
    by_cases e2 : j ≤ x ∧ x < j + k
    · rw [if_pos (by omega), if_pos (by omega)]
    · rw [if_neg (by omega), if_neg (by omega)]
theorem mvL_dn {l src : List Int32} {j i k n : Nat} (h : j + k < l.length) (hk : k < n) : (mvL l src j i (k + 1) n).set (j + k) (src.getD (i + k) 0) = mvL l src j i k n := by
  refine list_ext (by rw [List.length_set, mvL_len, mvL_len]) fun x hx => ?_
  rw [List.length_set, mvL_len] at hx
  rw [getD_set (by rw [mvL_len]; exact h), mvL_at hx, mvL_at hx]
  by_cases e : x = j + k
  · subst e; rw [if_pos rfl, if_pos (by omega), show i + (j + k - j) = i + k by omega]
  · rw [if_neg e]
    by_cases e2 : j + k ≤ x ∧ x < j + n
    · rw [if_pos (by omega), if_pos (by omega)]
    · rw [if_neg (by omega), if_neg (by omega)]
set_option maxHeartbeats 4000000 in
theorem ct_Row_takeRun {r cap fr cap2 j i n : Nat} {l src : List Int32} {g : AH} {P' : AH → Prop} (hR : RowAt r cap l g) (hs : (fr = r ∧ src = l) ∨ ((fr + 2 ≤ r ∨ r + 2 ≤ fr) ∧ RowAt fr cap2 src g)) (hj : j + n ≤ l.length) (hi : i + n ≤ src.length) (hi2 : src.length ≤ 4000) (hP : ∀ g', RowAt r cap (mvL l src j i 0 n) g' → Off r 2 g g' → P' g') : CV 2 0 0 mX5_takeRun r [.int (nI j), .ref fr, .int (nI i), .int (nI n)] g (fun v g' => v = none ∧ P' g') := by
  refine ⟨hR.V, ?_⟩
  refine ct_of (by decide) (fun _ _ => Nat.le_of_ble_eq_true rfl) ?_
  dsimp only [pad, ent]
  have hn := hR.2.1
  have hc := hR.2.2.1
  have hTj := nI_T (n := j) (by omega)
  have hTi := nI_T (n := i) (by omega)
  have hTn := nI_T (n := n) (by omega)
  have hrd : ∀ (a b : Nat) (g' : AH), RowAt r cap (mvL l src j i a b) g' → Off r 2 g g' → ∃ (S : List Int32) (cap' : Nat), RowAt fr cap' S g' ∧ ∀ k, (j ≤ i ∧ a = 0 ∧ b ≤ k ∨ i < j ∧ k < a) → i + k < src.length → S.getD (i + k) 0 = src.getD (i + k) 0 := by
    intro a b g' h1 h2
    rcases hs with ⟨rfl, rfl⟩ | ⟨hd, hS⟩
    · refine ⟨_, _, h1, fun k hk hl => ?_⟩
      rw [mvL_at hl, if_neg (by omega)]
    · exact ⟨src, cap2, hS.off h2 (by omega), fun _ _ _ => rfl⟩
  have A : ∀ k, k ≤ n → j ≤ i → AW (fun _ => True) (rmd 2 0 0) mX5_takeRun 0 0 8 [some (.ref r), some (.int (nI j)), some (.ref fr), some (.int (nI i)), some (.int (nI n)), some (.int (nI k))] [] (fun g' => RowAt r cap (mvL l src j i 0 k) g' ∧ Off r 2 g g') (fun v g' => v = none ∧ P' g') := by
    intro k hk hij
    revert k
    refine up_loop ?_ ?_
    · skip
      refine r_iload (pc := 8) dX5_takeRun_8 rfl ?_
      refine r_iload (pc := 10) dX5_takeRun_10 rfl ?_
      refine r_icmp_ge (pc := 12) 37 dX5_takeRun_12 (by decide) (fun c12 => ?_) (fun c12 => ?_)
      · skip
        refine r_goto (pc := 37) 73 dX5_takeRun_37 (by decide) ?_
        refine r_return (pc := 73) dX5_takeRun_73 rfl ⟨Nat.zero_le _, Nat.zero_le _⟩ (fun gE hg => ?_)
        exact ⟨rfl, hP _ hg.1 hg.2⟩
      · skip
        exact absurd (fa_le.mpr (Int.le_refl _)) c12
    · intro k hk ih
      have hTk := nI_T (n := k) (by omega)
      refine aw_at fun gk hgk => ?_
      obtain ⟨S, cap', hS, hSv⟩ := hrd _ _ gk hgk.1 hgk.2
      have hSv2 := hSv k (Or.inl ⟨hij, rfl, Nat.le_refl _⟩) (by omega)
      refine r_iload (pc := 8) dX5_takeRun_8 rfl ?_
      refine r_iload (pc := 10) dX5_takeRun_10 rfl ?_
      refine r_icmp_ge (pc := 12) 37 dX5_takeRun_12 (by decide) (fun c12 => ?_) (fun c12 => ?_)
      · skip
        exact absurd c12 (fun q => by have := fa_le.mp q; omega)
      · skip
        refine r_aload_n (pc := 15) dX5_takeRun_15 rfl ?_
        refine r_iload_n (pc := 16) dX5_takeRun_16 rfl ?_
        refine r_iload (pc := 17) dX5_takeRun_17 rfl ?_
        refine r_iadd (pc := 19) dX5_takeRun_19 ?_
        refine r_aload_n (pc := 20) dX5_takeRun_20 rfl ?_
        refine r_iload_n (pc := 21) dX5_takeRun_21 rfl ?_
        refine r_iload (pc := 22) dX5_takeRun_22 rfl ?_
        refine r_iadd (pc := 24) dX5_takeRun_24 ?_
        refine r_Vi (pc := 25) (μ' := mX5_at) dX5_takeRun_25 nX5_26 iX5_at vX5_at kX5_at rfl rfl (rr (by decide) rfl) rfl ⟨Nat.zero_le _, Nat.zero_le _⟩ (fun g' q => ct_Row_at (cap := cap') (l := S) (P' := fun g' => g' = gk) (by rw [q]; exact hS) q) ?_
        rw [nI_add', nI_add', atL_nI (by omega), hSv2]
        refine r_Vv (pc := 28) (μ' := mX5_write) dX5_takeRun_28 nX5_30 iX5_write vX5_write kX5_write rfl rfl (rr (by decide) rfl) rfl ⟨Nat.zero_le _, Nat.zero_le _⟩ (fun g' q => ct_Row_write (cap := cap) (l := mvL l src j i 0 k) (P' := fun g' => RowAt r cap (mvL l src j i 0 (k + 1)) g' ∧ Off r 2 g g') (by rw [q]; exact hgk.1) (fun g2 a b => ⟨by rw [wrL_nI (by omega), mvL_up (by omega)] at a; exact a, hgk.2.tr (by rw [q] at b; exact b)⟩)) ?_
        refine r_iinc1 (pc := 31) dX5_takeRun_31 rfl (Nat.le_of_ble_eq_true rfl) rfl ?_
        dsimp only [lset]
        refine r_goto (pc := 34) 8 dX5_takeRun_34 (by decide) ?_
        rw [nI_s]
        exact ih
  have B : ∀ k, k ≤ n → i < j → AW (fun _ => True) (rmd 2 0 0) mX5_takeRun 0 0 46 [some (.ref r), some (.int (nI j)), some (.ref fr), some (.int (nI i)), some (.int (nI n)), some (.int (nI k - 1))] [] (fun g' => RowAt r cap (mvL l src j i k n) g' ∧ Off r 2 g g') (fun v g' => v = none ∧ P' g') := by
    intro k hk hij
    induction k with
    | zero =>
      refine r_iload (pc := 46) dX5_takeRun_46 rfl ?_
      refine r_if_lt (pc := 48) 73 dX5_takeRun_48 (by decide) (fun c48 => ?_) (fun c48 => ?_)
      · skip
        refine r_return (pc := 73) dX5_takeRun_73 rfl ⟨Nat.zero_le _, Nat.zero_le _⟩ (fun gE hg => ?_)
        exact ⟨rfl, hP _ hg.1 hg.2⟩
      · skip
        exact absurd (show nI 0 - 1 < 0 by decide) c48
    | succ k ih =>
      have hTk := nI_T (n := k) (by omega)
      rw [show nI (k + 1) - 1 = nI k from nI_pred k]
      refine aw_at fun gk hgk => ?_
      obtain ⟨S, cap', hS, hSv⟩ := hrd _ _ gk hgk.1 hgk.2
      have hSv2 := hSv k (Or.inr ⟨hij, Nat.lt_succ_self k⟩) (by omega)
      refine r_iload (pc := 46) dX5_takeRun_46 rfl ?_
      refine r_if_lt (pc := 48) 73 dX5_takeRun_48 (by decide) (fun c48 => ?_) (fun c48 => ?_)
      · skip
        exact absurd c48 (fun q => by have := i32_lt0.mp q; omega)
      · skip
        refine r_aload_n (pc := 51) dX5_takeRun_51 rfl ?_
        refine r_iload_n (pc := 52) dX5_takeRun_52 rfl ?_
        refine r_iload (pc := 53) dX5_takeRun_53 rfl ?_
        refine r_iadd (pc := 55) dX5_takeRun_55 ?_
        refine r_aload_n (pc := 56) dX5_takeRun_56 rfl ?_
        refine r_iload_n (pc := 57) dX5_takeRun_57 rfl ?_
        refine r_iload (pc := 58) dX5_takeRun_58 rfl ?_
        refine r_iadd (pc := 60) dX5_takeRun_60 ?_
        refine r_Vi (pc := 61) (μ' := mX5_at) dX5_takeRun_61 nX5_26 iX5_at vX5_at kX5_at rfl rfl (rr (by decide) rfl) rfl ⟨Nat.zero_le _, Nat.zero_le _⟩ (fun g' q => ct_Row_at (cap := cap') (l := S) (P' := fun g' => g' = gk) (by rw [q]; exact hS) q) ?_
        rw [nI_add', nI_add', atL_nI (by omega), hSv2]
        refine r_Vv (pc := 64) (μ' := mX5_write) dX5_takeRun_64 nX5_30 iX5_write vX5_write kX5_write rfl rfl (rr (by decide) rfl) rfl ⟨Nat.zero_le _, Nat.zero_le _⟩ (fun g' q => ct_Row_write (cap := cap) (l := mvL l src j i (k + 1) n) (P' := fun g' => RowAt r cap (mvL l src j i k n) g' ∧ Off r 2 g g') (by rw [q]; exact hgk.1) (fun g2 a b => ⟨by rw [wrL_nI (by omega), mvL_dn (by omega) (by omega)] at a; exact a, hgk.2.tr (by rw [q] at b; exact b)⟩)) ?_
        refine r_iincm (pc := 67) dX5_takeRun_67 rfl (Nat.le_of_ble_eq_true rfl) rfl ?_
        dsimp only [lset]
        refine r_goto (pc := 70) 46 dX5_takeRun_70 (by decide) ?_
        exact ih (by omega)
  refine aw_P (P' := fun g' => RowAt r cap l g' ∧ Off r 2 g g') (fun g' e => by subst e; exact ⟨hR, Off.rf _ _ _⟩) ?_
  refine r_iload_n (pc := 0) dX5_takeRun_0 rfl ?_
  refine r_iload_n (pc := 1) dX5_takeRun_1 rfl ?_
  refine r_icmp_lt (pc := 2) 40 dX5_takeRun_2 (by decide) (fun c2 => ?_) (fun c2 => ?_)
  · skip
    have k2 := fa_lt.mp c2
    refine r_iload (pc := 40) dX5_takeRun_40 rfl ?_
    refine r_iconst (pc := 42) (v := 1) dX5_takeRun_42 (by decide) ?_
    refine r_isub (pc := 43) dX5_takeRun_43 ?_
    refine r_istore (pc := 44) dX5_takeRun_44 (Nat.le_of_ble_eq_true rfl) rfl ?_
    dsimp only [lset]
    exact aw_P (fun g' q => ⟨by rw [mvL_0]; exact q.1, q.2⟩) (B n (Nat.le_refl _) (by omega))
  · skip
    have k2 : j ≤ i := by have : ¬ (nI i).toInt < (nI j).toInt := fun q => c2 (fa_lt.mpr q); omega
    refine r_iconst (pc := 5) (v := 0) dX5_takeRun_5 (by decide) ?_
    refine r_istore (pc := 6) dX5_takeRun_6 (Nat.le_of_ble_eq_true rfl) rfl ?_
    dsimp only [lset]
    exact aw_P (fun g' q => ⟨by rw [mvL_0]; exact q.1, q.2⟩) (A 0 (Nat.zero_le _) k2)
set_option maxHeartbeats 4000000 in
/-- a new row of cap numbers, none yet; its array is the next cell -/
theorem ct_Row_init {r cap : Nat} {g : AH} (hc : cap ≤ 4000) (hr : r + 1 = g.1) (ho : g.2 r = .inr (.inr (4, [.null, .int 0]))) : CT 2 1 cap mX5_init [.ref r, .int (nI cap)] g (fun v g' => v = none ∧ RowAt r cap [] g' ∧ g'.1 = g.1 + 1 ∧ ∀ j, j < r → g'.2 j = g.2 j) := by
  refine ct_of (by decide) (fun _ _ => Nat.le_of_ble_eq_true rfl) ?_
  dsimp only [pad, ent]
  have hT2 := nI_T (n := cap) hc
  have hm : (if (0 : Int32) < nI cap then nI cap else 0) = nI cap := by
    by_cases h : (0 : Int32) < nI cap
    · rw [if_pos h]
    · rw [if_neg h]; apply Int32.toInt_inj.mp; have : ¬ (0 : Int) < (nI cap).toInt := fun q => h (fa_lt.mpr q); rw [t0]; omega
  refine r_aload_n (pc := 0) dX5_init_0 rfl ?_
  refine r_objInit (pc := 1) dX5_init_1 nX5_1 oi_i oi_c ⟨Nat.le_of_ble_eq_true rfl, Nat.le_of_ble_eq_true rfl⟩ (Nat.le_of_ble_eq_true rfl) ?_
  refine r_aload_n (pc := 4) dX5_init_4 rfl ?_
  refine r_iconst (pc := 5) (v := 0) dX5_init_5 (by decide) ?_
  refine r_putf (pc := 6) (k := 1) (P' := fun g' => g' = hset g r (.inr (.inr (4, [.null, .int 0])))) tyX5 dX5_init_6 hX5 tyX5_ok nmX5 eX5 (by decide) fX5_7 rfl rfl (fun _ _ => rfl) (fun _ _ => rfl) (Nat.le_of_ble_eq_true rfl) (fun g' e => by subst e; exact ⟨by omega, ho⟩) (fun g' e => by rw [e]; rfl) ?_
  refine r_aload_n (pc := 9) dX5_init_9 rfl ?_
  refine r_iconst (pc := 10) (v := 0) dX5_init_10 (by decide) ?_
  refine r_iload_n (pc := 11) dX5_init_11 rfl ?_
  refine r_mmax (pc := 12) dX5_init_12 nX5_13 ma_s_max z_math ma_c_max ⟨Nat.le_of_ble_eq_true rfl, Nat.le_of_ble_eq_true rfl⟩ (Nat.le_of_ble_eq_true rfl) ⟨Nat.zero_le _, Nat.zero_le _⟩ rfl ?_
  rw [hm]
  refine r_newa (pc := 15) (n := g.1) (N := cap) (P' := fun g' => g' = hnew (hset g r (.inr (.inr (4, [.null, .int 0])))) (.inl (cap, fun _ => 0))) dX5_init_15 a_int hT2 (by omega) (Nat.le_refl _) (by show 0 + cap ≤ cap; omega) (fun g' e => by rw [e]; rfl) (fun g' e => by rw [e]) ?_
  refine r_putF (pc := 17) (k := 0) (P' := fun g' => g' = hset (hnew (hset g r (.inr (.inr (4, [.null, .int 0])))) (.inl (cap, fun _ => 0))) r (.inr (.inr (4, [.ref g.1, .int 0])))) tyX5 dX5_init_17 hX5 tyX5_ok nmX5 eX5 (by decide) fX5_19 rfl rfl rfl rfl (fun _ _ => rfl) (fun _ _ => rfl) (Nat.le_of_ble_eq_true rfl) (fun g' e => by subst e; exact ⟨by show r < g.1 + 1; omega, by show (if r = g.1 then _ else if r = r then _ else _) = _; rw [if_neg (by omega), if_pos rfl]⟩) (fun g' e => by rw [e]; rfl) ?_
  refine r_return (pc := 20) dX5_init_20 rfl ⟨Nat.le_refl _, by show 0 + cap ≤ cap; omega⟩ (fun gE hg => ?_)
  subst hg
  refine ⟨rfl, ⟨by show r + 1 < g.1 + 1; omega, Nat.zero_le _, hc, fun _ => 0, ?_, ?_, fun j hj => absurd hj (Nat.not_lt_zero j)⟩, rfl, fun j hj => ?_⟩
  · show (if r = r then _ else _) = _
    rw [if_pos rfl, hr]; rfl
  · show (if r + 1 = r then _ else if r + 1 = g.1 then _ else _) = _
    rw [if_neg (by omega), if_pos hr]
  · show (if j = r then _ else if j = g.1 then _ else if j = r then _ else _) = _
    rw [if_neg (by omega), if_neg (by omega), if_neg (by omega)]
end
section
theorem dX1_init_0 : decode cX1_init 0 = .ok (.aload_n 0, 1) := by decide +kernel
theorem dX1_init_1 : decode cX1_init 1 = .ok (.invokespecial 1, 3) := by decide +kernel
theorem dX1_init_4 : decode cX1_init 4 = .ok (.aload_n 0, 1) := by decide +kernel
theorem dX1_init_5 : decode cX1_init 5 = .ok (.new 7, 3) := by decide +kernel
theorem dX1_init_8 : decode cX1_init 8 = .ok (.dup, 1) := by decide +kernel
theorem dX1_init_9 : decode cX1_init 9 = .ok (.bipush 6, 2) := by decide +kernel
theorem dX1_init_11 : decode cX1_init 11 = .ok (.invokespecial 11, 3) := by decide +kernel
theorem dX1_init_14 : decode cX1_init 14 = .ok (.putfield 14, 3) := by decide +kernel
theorem dX1_init_17 : decode cX1_init 17 = .ok (.aload_n 0, 1) := by decide +kernel
theorem dX1_init_18 : decode cX1_init 18 = .ok (.new 7, 3) := by decide +kernel
theorem dX1_init_21 : decode cX1_init 21 = .ok (.dup, 1) := by decide +kernel
theorem dX1_init_22 : decode cX1_init 22 = .ok (.bipush 6, 2) := by decide +kernel
theorem dX1_init_24 : decode cX1_init 24 = .ok (.invokespecial 11, 3) := by decide +kernel
theorem dX1_init_27 : decode cX1_init 27 = .ok (.putfield 18, 3) := by decide +kernel
theorem dX1_init_30 : decode cX1_init 30 = .ok (.return_, 1) := by decide +kernel
theorem dX1_size_0 : decode cX1_size 0 = .ok (.aload_n 0, 1) := by decide +kernel
theorem dX1_size_1 : decode cX1_size 1 = .ok (.getfield 14, 3) := by decide +kernel
theorem dX1_size_4 : decode cX1_size 4 = .ok (.invokevirtual 21, 3) := by decide +kernel
theorem dX1_size_7 : decode cX1_size 7 = .ok (.ireturn, 1) := by decide +kernel
theorem dX1_isFull_0 : decode cX1_isFull 0 = .ok (.aload_n 0, 1) := by decide +kernel
theorem dX1_isFull_1 : decode cX1_isFull 1 = .ok (.invokevirtual 25, 3) := by decide +kernel
theorem dX1_isFull_4 : decode cX1_isFull 4 = .ok (.bipush 6, 2) := by decide +kernel
theorem dX1_isFull_6 : decode cX1_isFull 6 = .ok (.if_icmp .lt 7, 3) := by decide +kernel
theorem dX1_isFull_9 : decode cX1_isFull 9 = .ok (.iconst 1, 1) := by decide +kernel
theorem dX1_isFull_10 : decode cX1_isFull 10 = .ok (.goto 4, 3) := by decide +kernel
theorem dX1_isFull_13 : decode cX1_isFull 13 = .ok (.iconst 0, 1) := by decide +kernel
theorem dX1_isFull_14 : decode cX1_isFull 14 = .ok (.ireturn, 1) := by decide +kernel
theorem dX1_has_0 : decode cX1_has 0 = .ok (.aload_n 0, 1) := by decide +kernel
theorem dX1_has_1 : decode cX1_has 1 = .ok (.getfield 14, 3) := by decide +kernel
theorem dX1_has_4 : decode cX1_has 4 = .ok (.iload_n 1, 1) := by decide +kernel
theorem dX1_has_5 : decode cX1_has 5 = .ok (.invokevirtual 28, 3) := by decide +kernel
theorem dX1_has_8 : decode cX1_has 8 = .ok (.ireturn, 1) := by decide +kernel
theorem dX1_kindOf_0 : decode cX1_kindOf 0 = .ok (.aload_n 0, 1) := by decide +kernel
theorem dX1_kindOf_1 : decode cX1_kindOf 1 = .ok (.getfield 14, 3) := by decide +kernel
theorem dX1_kindOf_4 : decode cX1_kindOf 4 = .ok (.iload_n 1, 1) := by decide +kernel
theorem dX1_kindOf_5 : decode cX1_kindOf 5 = .ok (.invokevirtual 32, 3) := by decide +kernel
theorem dX1_kindOf_8 : decode cX1_kindOf 8 = .ok (.ireturn, 1) := by decide +kernel
theorem dX1_numberOf_0 : decode cX1_numberOf 0 = .ok (.aload_n 0, 1) := by decide +kernel
theorem dX1_numberOf_1 : decode cX1_numberOf 1 = .ok (.getfield 18, 3) := by decide +kernel
theorem dX1_numberOf_4 : decode cX1_numberOf 4 = .ok (.iload_n 1, 1) := by decide +kernel
theorem dX1_numberOf_5 : decode cX1_numberOf 5 = .ok (.invokevirtual 32, 3) := by decide +kernel
theorem dX1_numberOf_8 : decode cX1_numberOf 8 = .ok (.ireturn, 1) := by decide +kernel
theorem dX1_join_0 : decode cX1_join 0 = .ok (.aload_n 0, 1) := by decide +kernel
theorem dX1_join_1 : decode cX1_join 1 = .ok (.getfield 14, 3) := by decide +kernel
theorem dX1_join_4 : decode cX1_join 4 = .ok (.iload_n 1, 1) := by decide +kernel
theorem dX1_join_5 : decode cX1_join 5 = .ok (.bipush 10, 2) := by decide +kernel
theorem dX1_join_7 : decode cX1_join 7 = .ok (.idiv, 1) := by decide +kernel
theorem dX1_join_8 : decode cX1_join 8 = .ok (.invokevirtual 36, 3) := by decide +kernel
theorem dX1_join_11 : decode cX1_join 11 = .ok (.pop, 1) := by decide +kernel
theorem dX1_join_12 : decode cX1_join 12 = .ok (.aload_n 0, 1) := by decide +kernel
theorem dX1_join_13 : decode cX1_join 13 = .ok (.getfield 18, 3) := by decide +kernel
theorem dX1_join_16 : decode cX1_join 16 = .ok (.iload_n 1, 1) := by decide +kernel
theorem dX1_join_17 : decode cX1_join 17 = .ok (.bipush 10, 2) := by decide +kernel
theorem dX1_join_19 : decode cX1_join 19 = .ok (.irem, 1) := by decide +kernel
theorem dX1_join_20 : decode cX1_join 20 = .ok (.invokevirtual 36, 3) := by decide +kernel
theorem dX1_join_23 : decode cX1_join 23 = .ok (.pop, 1) := by decide +kernel
theorem dX1_join_24 : decode cX1_join 24 = .ok (.aload_n 0, 1) := by decide +kernel
theorem dX1_join_25 : decode cX1_join 25 = .ok (.invokevirtual 25, 3) := by decide +kernel
theorem dX1_join_28 : decode cX1_join 28 = .ok (.iconst 1, 1) := by decide +kernel
theorem dX1_join_29 : decode cX1_join 29 = .ok (.isub, 1) := by decide +kernel
theorem dX1_join_30 : decode cX1_join 30 = .ok (.ireturn, 1) := by decide +kernel
theorem dX1_turnInto_0 : decode cX1_turnInto 0 = .ok (.aload_n 0, 1) := by decide +kernel
theorem dX1_turnInto_1 : decode cX1_turnInto 1 = .ok (.iload_n 1, 1) := by decide +kernel
theorem dX1_turnInto_2 : decode cX1_turnInto 2 = .ok (.invokevirtual 39, 3) := by decide +kernel
theorem dX1_turnInto_5 : decode cX1_turnInto 5 = .ok (.istore_n 3, 1) := by decide +kernel
theorem dX1_turnInto_6 : decode cX1_turnInto 6 = .ok (.aload_n 0, 1) := by decide +kernel
theorem dX1_turnInto_7 : decode cX1_turnInto 7 = .ok (.getfield 14, 3) := by decide +kernel
theorem dX1_turnInto_10 : decode cX1_turnInto 10 = .ok (.iload_n 1, 1) := by decide +kernel
theorem dX1_turnInto_11 : decode cX1_turnInto 11 = .ok (.iload_n 2, 1) := by decide +kernel
theorem dX1_turnInto_12 : decode cX1_turnInto 12 = .ok (.bipush 10, 2) := by decide +kernel
theorem dX1_turnInto_14 : decode cX1_turnInto 14 = .ok (.idiv, 1) := by decide +kernel
theorem dX1_turnInto_15 : decode cX1_turnInto 15 = .ok (.invokevirtual 42, 3) := by decide +kernel
theorem dX1_turnInto_18 : decode cX1_turnInto 18 = .ok (.aload_n 0, 1) := by decide +kernel
theorem dX1_turnInto_19 : decode cX1_turnInto 19 = .ok (.getfield 18, 3) := by decide +kernel
theorem dX1_turnInto_22 : decode cX1_turnInto 22 = .ok (.iload_n 1, 1) := by decide +kernel
theorem dX1_turnInto_23 : decode cX1_turnInto 23 = .ok (.iload_n 2, 1) := by decide +kernel
theorem dX1_turnInto_24 : decode cX1_turnInto 24 = .ok (.bipush 10, 2) := by decide +kernel
theorem dX1_turnInto_26 : decode cX1_turnInto 26 = .ok (.irem, 1) := by decide +kernel
theorem dX1_turnInto_27 : decode cX1_turnInto 27 = .ok (.invokevirtual 42, 3) := by decide +kernel
theorem dX1_turnInto_30 : decode cX1_turnInto 30 = .ok (.iload_n 3, 1) := by decide +kernel
theorem dX1_turnInto_31 : decode cX1_turnInto 31 = .ok (.ireturn, 1) := by decide +kernel
theorem dX1_take_0 : decode cX1_take 0 = .ok (.aload_n 0, 1) := by decide +kernel
theorem dX1_take_1 : decode cX1_take 1 = .ok (.getfield 14, 3) := by decide +kernel
theorem dX1_take_4 : decode cX1_take 4 = .ok (.aload_n 1, 1) := by decide +kernel
theorem dX1_take_5 : decode cX1_take 5 = .ok (.getfield 14, 3) := by decide +kernel
theorem dX1_take_8 : decode cX1_take 8 = .ok (.invokevirtual 46, 3) := by decide +kernel
theorem dX1_take_11 : decode cX1_take 11 = .ok (.aload_n 0, 1) := by decide +kernel
theorem dX1_take_12 : decode cX1_take 12 = .ok (.getfield 18, 3) := by decide +kernel
theorem dX1_take_15 : decode cX1_take 15 = .ok (.aload_n 1, 1) := by decide +kernel
theorem dX1_take_16 : decode cX1_take 16 = .ok (.getfield 18, 3) := by decide +kernel
theorem dX1_take_19 : decode cX1_take 19 = .ok (.invokevirtual 46, 3) := by decide +kernel
theorem dX1_take_22 : decode cX1_take 22 = .ok (.return_, 1) := by decide +kernel
theorem dX3_isKind_0 : decode cX3_isKind 0 = .ok (.iload_n 0, 1) := by decide +kernel
theorem dX3_isKind_1 : decode cX3_isKind 1 = .ok (.ifCond .lt 13, 3) := by decide +kernel
theorem dX3_isKind_4 : decode cX3_isKind 4 = .ok (.iload_n 0, 1) := by decide +kernel
theorem dX3_isKind_5 : decode cX3_isKind 5 = .ok (.bipush 7, 2) := by decide +kernel
theorem dX3_isKind_7 : decode cX3_isKind 7 = .ok (.if_icmp .ge 7, 3) := by decide +kernel
theorem dX3_isKind_10 : decode cX3_isKind 10 = .ok (.iconst 1, 1) := by decide +kernel
theorem dX3_isKind_11 : decode cX3_isKind 11 = .ok (.goto 4, 3) := by decide +kernel
theorem dX3_isKind_14 : decode cX3_isKind 14 = .ok (.iconst 0, 1) := by decide +kernel
theorem dX3_isKind_15 : decode cX3_isKind 15 = .ok (.ireturn, 1) := by decide +kernel
theorem dX3_isKindAndNumber_0 : decode cX3_isKindAndNumber 0 = .ok (.iload_n 0, 1) := by decide +kernel
theorem dX3_isKindAndNumber_1 : decode cX3_isKindAndNumber 1 = .ok (.ifCond .lt 13, 3) := by decide +kernel
theorem dX3_isKindAndNumber_4 : decode cX3_isKindAndNumber 4 = .ok (.iload_n 0, 1) := by decide +kernel
theorem dX3_isKindAndNumber_5 : decode cX3_isKindAndNumber 5 = .ok (.bipush 70, 2) := by decide +kernel
theorem dX3_isKindAndNumber_7 : decode cX3_isKindAndNumber 7 = .ok (.if_icmp .ge 7, 3) := by decide +kernel
theorem dX3_isKindAndNumber_10 : decode cX3_isKindAndNumber 10 = .ok (.iconst 1, 1) := by decide +kernel
theorem dX3_isKindAndNumber_11 : decode cX3_isKindAndNumber 11 = .ok (.goto 4, 3) := by decide +kernel
theorem dX3_isKindAndNumber_14 : decode cX3_isKindAndNumber 14 = .ok (.iconst 0, 1) := by decide +kernel
theorem dX3_isKindAndNumber_15 : decode cX3_isKindAndNumber 15 = .ok (.ireturn, 1) := by decide +kernel
theorem dX3_above_0 : decode cX3_above 0 = .ok (.iload_n 0, 1) := by decide +kernel
theorem dX3_above_1 : decode cX3_above 1 = .ok (.ifCond .lt 19, 3) := by decide +kernel
theorem dX3_above_4 : decode cX3_above 4 = .ok (.iload_n 0, 1) := by decide +kernel
theorem dX3_above_5 : decode cX3_above 5 = .ok (.getstatic 9, 3) := by decide +kernel
theorem dX3_above_8 : decode cX3_above 8 = .ok (.arraylength, 1) := by decide +kernel
theorem dX3_above_9 : decode cX3_above 9 = .ok (.if_icmp .ge 11, 3) := by decide +kernel
theorem dX3_above_12 : decode cX3_above 12 = .ok (.getstatic 9, 3) := by decide +kernel
theorem dX3_above_15 : decode cX3_above 15 = .ok (.iload_n 0, 1) := by decide +kernel
theorem dX3_above_16 : decode cX3_above 16 = .ok (.iaload, 1) := by decide +kernel
theorem dX3_above_17 : decode cX3_above 17 = .ok (.goto 4, 3) := by decide +kernel
theorem dX3_above_20 : decode cX3_above 20 = .ok (.iconst (-1), 1) := by decide +kernel
theorem dX3_above_21 : decode cX3_above 21 = .ok (.ireturn, 1) := by decide +kernel
theorem dX3_isUnder_0 : decode cX3_isUnder 0 = .ok (.iload_n 0, 1) := by decide +kernel
theorem dX3_isUnder_1 : decode cX3_isUnder 1 = .ok (.istore_n 2, 1) := by decide +kernel
theorem dX3_isUnder_2 : decode cX3_isUnder 2 = .ok (.iconst 0, 1) := by decide +kernel
theorem dX3_isUnder_3 : decode cX3_isUnder 3 = .ok (.istore_n 3, 1) := by decide +kernel
theorem dX3_isUnder_4 : decode cX3_isUnder 4 = .ok (.iload_n 3, 1) := by decide +kernel
theorem dX3_isUnder_5 : decode cX3_isUnder 5 = .ok (.bipush 7, 2) := by decide +kernel
theorem dX3_isUnder_7 : decode cX3_isUnder 7 = .ok (.if_icmp .ge 25, 3) := by decide +kernel
theorem dX3_isUnder_10 : decode cX3_isUnder 10 = .ok (.iload_n 2, 1) := by decide +kernel
theorem dX3_isUnder_11 : decode cX3_isUnder 11 = .ok (.ifCond .lt 21, 3) := by decide +kernel
theorem dX3_isUnder_14 : decode cX3_isUnder 14 = .ok (.iload_n 2, 1) := by decide +kernel
theorem dX3_isUnder_15 : decode cX3_isUnder 15 = .ok (.iload_n 1, 1) := by decide +kernel
theorem dX3_isUnder_16 : decode cX3_isUnder 16 = .ok (.if_icmp .ne 5, 3) := by decide +kernel
theorem dX3_isUnder_19 : decode cX3_isUnder 19 = .ok (.iconst 1, 1) := by decide +kernel
theorem dX3_isUnder_20 : decode cX3_isUnder 20 = .ok (.ireturn, 1) := by decide +kernel
theorem dX3_isUnder_21 : decode cX3_isUnder 21 = .ok (.iload_n 2, 1) := by decide +kernel
theorem dX3_isUnder_22 : decode cX3_isUnder 22 = .ok (.invokestatic 13, 3) := by decide +kernel
theorem dX3_isUnder_25 : decode cX3_isUnder 25 = .ok (.istore_n 2, 1) := by decide +kernel
theorem dX3_isUnder_26 : decode cX3_isUnder 26 = .ok (.iinc 3 1, 3) := by decide +kernel
theorem dX3_isUnder_29 : decode cX3_isUnder 29 = .ok (.goto (-25), 3) := by decide +kernel
theorem dX3_isUnder_32 : decode cX3_isUnder 32 = .ok (.iconst 0, 1) := by decide +kernel
theorem dX3_isUnder_33 : decode cX3_isUnder 33 = .ok (.ireturn, 1) := by decide +kernel
theorem dX3_pace_0 : decode cX3_pace 0 = .ok (.iload_n 0, 1) := by decide +kernel
theorem dX3_pace_1 : decode cX3_pace 1 = .ok (.tableswitch 67 1 6 #[39, 47, 55, 41, 49, 55], 39) := by decide +kernel
theorem dX3_pace_40 : decode cX3_pace 40 = .ok (.iconst 3, 1) := by decide +kernel
theorem dX3_pace_41 : decode cX3_pace 41 = .ok (.ireturn, 1) := by decide +kernel
theorem dX3_pace_42 : decode cX3_pace 42 = .ok (.iconst 3, 1) := by decide +kernel
theorem dX3_pace_43 : decode cX3_pace 43 = .ok (.iload_n 1, 1) := by decide +kernel
theorem dX3_pace_44 : decode cX3_pace 44 = .ok (.iconst 4, 1) := by decide +kernel
theorem dX3_pace_45 : decode cX3_pace 45 = .ok (.idiv, 1) := by decide +kernel
theorem dX3_pace_46 : decode cX3_pace 46 = .ok (.iadd, 1) := by decide +kernel
theorem dX3_pace_47 : decode cX3_pace 47 = .ok (.ireturn, 1) := by decide +kernel
theorem dX3_pace_48 : decode cX3_pace 48 = .ok (.iconst 1, 1) := by decide +kernel
theorem dX3_pace_49 : decode cX3_pace 49 = .ok (.ireturn, 1) := by decide +kernel
theorem dX3_pace_50 : decode cX3_pace 50 = .ok (.iconst 1, 1) := by decide +kernel
theorem dX3_pace_51 : decode cX3_pace 51 = .ok (.iload_n 2, 1) := by decide +kernel
theorem dX3_pace_52 : decode cX3_pace 52 = .ok (.iconst 3, 1) := by decide +kernel
theorem dX3_pace_53 : decode cX3_pace 53 = .ok (.idiv, 1) := by decide +kernel
theorem dX3_pace_54 : decode cX3_pace 54 = .ok (.iadd, 1) := by decide +kernel
theorem dX3_pace_55 : decode cX3_pace 55 = .ok (.ireturn, 1) := by decide +kernel
theorem dX3_pace_56 : decode cX3_pace 56 = .ok (.iload_n 2, 1) := by decide +kernel
theorem dX3_pace_57 : decode cX3_pace 57 = .ok (.iconst 2, 1) := by decide +kernel
theorem dX3_pace_58 : decode cX3_pace 58 = .ok (.irem, 1) := by decide +kernel
theorem dX3_pace_59 : decode cX3_pace 59 = .ok (.ifCond .ne 7, 3) := by decide +kernel
theorem dX3_pace_62 : decode cX3_pace 62 = .ok (.iconst 1, 1) := by decide +kernel
theorem dX3_pace_63 : decode cX3_pace 63 = .ok (.goto 4, 3) := by decide +kernel
theorem dX3_pace_66 : decode cX3_pace 66 = .ok (.iconst 0, 1) := by decide +kernel
theorem dX3_pace_67 : decode cX3_pace 67 = .ok (.ireturn, 1) := by decide +kernel
theorem dX3_pace_68 : decode cX3_pace 68 = .ok (.iconst 2, 1) := by decide +kernel
theorem dX3_pace_69 : decode cX3_pace 69 = .ok (.ireturn, 1) := by decide +kernel
theorem dX3_load_0 : decode cX3_load 0 = .ok (.iload_n 0, 1) := by decide +kernel
theorem dX3_load_1 : decode cX3_load 1 = .ok (.tableswitch 54 2 6 #[35, 49, 54, 41, 52], 35) := by decide +kernel
theorem dX3_load_36 : decode cX3_load 36 = .ok (.iconst 3, 1) := by decide +kernel
theorem dX3_load_37 : decode cX3_load 37 = .ok (.iload_n 1, 1) := by decide +kernel
theorem dX3_load_38 : decode cX3_load 38 = .ok (.iconst 3, 1) := by decide +kernel
theorem dX3_load_39 : decode cX3_load 39 = .ok (.irem, 1) := by decide +kernel
theorem dX3_load_40 : decode cX3_load 40 = .ok (.iadd, 1) := by decide +kernel
theorem dX3_load_41 : decode cX3_load 41 = .ok (.ireturn, 1) := by decide +kernel
theorem dX3_load_42 : decode cX3_load 42 = .ok (.iconst 3, 1) := by decide +kernel
theorem dX3_load_43 : decode cX3_load 43 = .ok (.iload_n 1, 1) := by decide +kernel
theorem dX3_load_44 : decode cX3_load 44 = .ok (.iconst 3, 1) := by decide +kernel
theorem dX3_load_45 : decode cX3_load 45 = .ok (.irem, 1) := by decide +kernel
theorem dX3_load_46 : decode cX3_load 46 = .ok (.iadd, 1) := by decide +kernel
theorem dX3_load_47 : decode cX3_load 47 = .ok (.iconst 1, 1) := by decide +kernel
theorem dX3_load_48 : decode cX3_load 48 = .ok (.isub, 1) := by decide +kernel
theorem dX3_load_49 : decode cX3_load 49 = .ok (.ireturn, 1) := by decide +kernel
theorem dX3_load_50 : decode cX3_load 50 = .ok (.bipush 9, 2) := by decide +kernel
theorem dX3_load_52 : decode cX3_load 52 = .ok (.ireturn, 1) := by decide +kernel
theorem dX3_load_53 : decode cX3_load 53 = .ok (.iconst 4, 1) := by decide +kernel
theorem dX3_load_54 : decode cX3_load 54 = .ok (.ireturn, 1) := by decide +kernel
theorem dX3_load_55 : decode cX3_load 55 = .ok (.iconst 2, 1) := by decide +kernel
theorem dX3_load_56 : decode cX3_load 56 = .ok (.ireturn, 1) := by decide +kernel
theorem dX3_uses_0 : decode cX3_uses 0 = .ok (.iload_n 0, 1) := by decide +kernel
theorem dX3_uses_1 : decode cX3_uses 1 = .ok (.lookupswitch 35 #[(3, 27), (6, 29)], 27) := by decide +kernel
theorem dX3_uses_28 : decode cX3_uses 28 = .ok (.iconst 2, 1) := by decide +kernel
theorem dX3_uses_29 : decode cX3_uses 29 = .ok (.ireturn, 1) := by decide +kernel
theorem dX3_uses_30 : decode cX3_uses 30 = .ok (.iconst 2, 1) := by decide +kernel
theorem dX3_uses_31 : decode cX3_uses 31 = .ok (.iload_n 1, 1) := by decide +kernel
theorem dX3_uses_32 : decode cX3_uses 32 = .ok (.iconst 2, 1) := by decide +kernel
theorem dX3_uses_33 : decode cX3_uses 33 = .ok (.irem, 1) := by decide +kernel
theorem dX3_uses_34 : decode cX3_uses 34 = .ok (.iadd, 1) := by decide +kernel
theorem dX3_uses_35 : decode cX3_uses 35 = .ok (.ireturn, 1) := by decide +kernel
theorem dX3_uses_36 : decode cX3_uses 36 = .ok (.iconst 1, 1) := by decide +kernel
theorem dX3_uses_37 : decode cX3_uses 37 = .ok (.ireturn, 1) := by decide +kernel
theorem dX3_minutesFor_0 : decode cX3_minutesFor 0 = .ok (.iload_n 0, 1) := by decide +kernel
theorem dX3_minutesFor_1 : decode cX3_minutesFor 1 = .ok (.iload_n 1, 1) := by decide +kernel
theorem dX3_minutesFor_2 : decode cX3_minutesFor 2 = .ok (.invokestatic 17, 3) := by decide +kernel
theorem dX3_minutesFor_5 : decode cX3_minutesFor 5 = .ok (.istore_n 3, 1) := by decide +kernel
theorem dX3_minutesFor_6 : decode cX3_minutesFor 6 = .ok (.iload_n 2, 1) := by decide +kernel
theorem dX3_minutesFor_7 : decode cX3_minutesFor 7 = .ok (.ifCond .eq 17, 3) := by decide +kernel
theorem dX3_minutesFor_10 : decode cX3_minutesFor 10 = .ok (.iload_n 3, 1) := by decide +kernel
theorem dX3_minutesFor_11 : decode cX3_minutesFor 11 = .ok (.ifCond .le 13, 3) := by decide +kernel
theorem dX3_minutesFor_14 : decode cX3_minutesFor 14 = .ok (.iload_n 2, 1) := by decide +kernel
theorem dX3_minutesFor_15 : decode cX3_minutesFor 15 = .ok (.iload_n 3, 1) := by decide +kernel
theorem dX3_minutesFor_16 : decode cX3_minutesFor 16 = .ok (.irem, 1) := by decide +kernel
theorem dX3_minutesFor_17 : decode cX3_minutesFor 17 = .ok (.ifCond .ne 7, 3) := by decide +kernel
theorem dX3_minutesFor_20 : decode cX3_minutesFor 20 = .ok (.iconst 1, 1) := by decide +kernel
theorem dX3_minutesFor_21 : decode cX3_minutesFor 21 = .ok (.goto 4, 3) := by decide +kernel
theorem dX3_minutesFor_24 : decode cX3_minutesFor 24 = .ok (.iconst 0, 1) := by decide +kernel
theorem dX3_minutesFor_25 : decode cX3_minutesFor 25 = .ok (.istore 4, 2) := by decide +kernel
theorem dX3_minutesFor_27 : decode cX3_minutesFor 27 = .ok (.iload_n 0, 1) := by decide +kernel
theorem dX3_minutesFor_28 : decode cX3_minutesFor 28 = .ok (.iload_n 1, 1) := by decide +kernel
theorem dX3_minutesFor_29 : decode cX3_minutesFor 29 = .ok (.iload_n 2, 1) := by decide +kernel
theorem dX3_minutesFor_30 : decode cX3_minutesFor 30 = .ok (.invokestatic 21, 3) := by decide +kernel
theorem dX3_minutesFor_33 : decode cX3_minutesFor 33 = .ok (.iload 4, 2) := by decide +kernel
theorem dX3_minutesFor_35 : decode cX3_minutesFor 35 = .ok (.ifCond .eq 7, 3) := by decide +kernel
theorem dX3_minutesFor_38 : decode cX3_minutesFor 38 = .ok (.iconst 1, 1) := by decide +kernel
theorem dX3_minutesFor_39 : decode cX3_minutesFor 39 = .ok (.goto 4, 3) := by decide +kernel
theorem dX3_minutesFor_42 : decode cX3_minutesFor 42 = .ok (.iconst 0, 1) := by decide +kernel
theorem dX3_minutesFor_43 : decode cX3_minutesFor 43 = .ok (.iadd, 1) := by decide +kernel
theorem dX3_minutesFor_44 : decode cX3_minutesFor 44 = .ok (.ireturn, 1) := by decide +kernel
theorem dX3_leastBy_0 : decode cX3_leastBy 0 = .ok (.iconst 0, 1) := by decide +kernel
theorem dX3_leastBy_1 : decode cX3_leastBy 1 = .ok (.istore_n 3, 1) := by decide +kernel
theorem dX3_leastBy_2 : decode cX3_leastBy 2 = .ok (.iload_n 3, 1) := by decide +kernel
theorem dX3_leastBy_3 : decode cX3_leastBy 3 = .ok (.bipush 7, 2) := by decide +kernel
theorem dX3_leastBy_5 : decode cX3_leastBy 5 = .ok (.if_icmp .ge 21, 3) := by decide +kernel
theorem dX3_leastBy_8 : decode cX3_leastBy 8 = .ok (.aload_n 0, 1) := by decide +kernel
theorem dX3_leastBy_9 : decode cX3_leastBy 9 = .ok (.iload_n 1, 1) := by decide +kernel
theorem dX3_leastBy_10 : decode cX3_leastBy 10 = .ok (.iload_n 3, 1) := by decide +kernel
theorem dX3_leastBy_11 : decode cX3_leastBy 11 = .ok (.iload_n 2, 1) := by decide +kernel
theorem dX3_leastBy_12 : decode cX3_leastBy 12 = .ok (.invokestatic 25, 3) := by decide +kernel
theorem dX3_leastBy_15 : decode cX3_leastBy 15 = .ok (.ifCond .eq 5, 3) := by decide +kernel
theorem dX3_leastBy_18 : decode cX3_leastBy 18 = .ok (.iload_n 3, 1) := by decide +kernel
theorem dX3_leastBy_19 : decode cX3_leastBy 19 = .ok (.ireturn, 1) := by decide +kernel
theorem dX3_leastBy_20 : decode cX3_leastBy 20 = .ok (.iinc 3 1, 3) := by decide +kernel
theorem dX3_leastBy_23 : decode cX3_leastBy 23 = .ok (.goto (-21), 3) := by decide +kernel
theorem dX3_leastBy_26 : decode cX3_leastBy 26 = .ok (.iconst (-1), 1) := by decide +kernel
theorem dX3_leastBy_27 : decode cX3_leastBy 27 = .ok (.ireturn, 1) := by decide +kernel
theorem dX3_doesAt_0 : decode cX3_doesAt 0 = .ok (.iload_n 1, 1) := by decide +kernel
theorem dX3_doesAt_1 : decode cX3_doesAt 1 = .ok (.istore 4, 2) := by decide +kernel
theorem dX3_doesAt_3 : decode cX3_doesAt 3 = .ok (.iconst 0, 1) := by decide +kernel
theorem dX3_doesAt_4 : decode cX3_doesAt 4 = .ok (.istore 5, 2) := by decide +kernel
theorem dX3_doesAt_6 : decode cX3_doesAt 6 = .ok (.iload 5, 2) := by decide +kernel
theorem dX3_doesAt_8 : decode cX3_doesAt 8 = .ok (.aload_n 0, 1) := by decide +kernel
theorem dX3_doesAt_9 : decode cX3_doesAt 9 = .ok (.invokevirtual 29, 3) := by decide +kernel
theorem dX3_doesAt_12 : decode cX3_doesAt 12 = .ok (.if_icmp .ge 34, 3) := by decide +kernel
theorem dX3_doesAt_15 : decode cX3_doesAt 15 = .ok (.iload 4, 2) := by decide +kernel
theorem dX3_doesAt_17 : decode cX3_doesAt 17 = .ok (.iload_n 2, 1) := by decide +kernel
theorem dX3_doesAt_18 : decode cX3_doesAt 18 = .ok (.iload_n 3, 1) := by decide +kernel
theorem dX3_doesAt_19 : decode cX3_doesAt 19 = .ok (.iload 5, 2) := by decide +kernel
theorem dX3_doesAt_21 : decode cX3_doesAt 21 = .ok (.invokestatic 35, 3) := by decide +kernel
theorem dX3_doesAt_24 : decode cX3_doesAt 24 = .ok (.iadd, 1) := by decide +kernel
theorem dX3_doesAt_25 : decode cX3_doesAt 25 = .ok (.istore 4, 2) := by decide +kernel
theorem dX3_doesAt_27 : decode cX3_doesAt 27 = .ok (.aload_n 0, 1) := by decide +kernel
theorem dX3_doesAt_28 : decode cX3_doesAt 28 = .ok (.iload 5, 2) := by decide +kernel
theorem dX3_doesAt_30 : decode cX3_doesAt 30 = .ok (.invokevirtual 38, 3) := by decide +kernel
theorem dX3_doesAt_33 : decode cX3_doesAt 33 = .ok (.iload 4, 2) := by decide +kernel
theorem dX3_doesAt_35 : decode cX3_doesAt 35 = .ok (.if_icmp .eq 5, 3) := by decide +kernel
theorem dX3_doesAt_38 : decode cX3_doesAt 38 = .ok (.iconst 0, 1) := by decide +kernel
theorem dX3_doesAt_39 : decode cX3_doesAt 39 = .ok (.ireturn, 1) := by decide +kernel
theorem dX3_doesAt_40 : decode cX3_doesAt 40 = .ok (.iinc 5 1, 3) := by decide +kernel
theorem dX3_doesAt_43 : decode cX3_doesAt 43 = .ok (.goto (-37), 3) := by decide +kernel
theorem dX3_doesAt_46 : decode cX3_doesAt 46 = .ok (.iconst 1, 1) := by decide +kernel
theorem dX3_doesAt_47 : decode cX3_doesAt 47 = .ok (.ireturn, 1) := by decide +kernel
theorem dX6_init_0 : decode cX6_init 0 = .ok (.aload_n 0, 1) := by decide +kernel
theorem dX6_init_1 : decode cX6_init 1 = .ok (.invokespecial 1, 3) := by decide +kernel
theorem dX6_init_4 : decode cX6_init 4 = .ok (.aload_n 0, 1) := by decide +kernel
theorem dX6_init_5 : decode cX6_init 5 = .ok (.new 7, 3) := by decide +kernel
theorem dX6_init_8 : decode cX6_init 8 = .ok (.dup, 1) := by decide +kernel
theorem dX6_init_9 : decode cX6_init 9 = .ok (.bipush 40, 2) := by decide +kernel
theorem dX6_init_11 : decode cX6_init 11 = .ok (.invokespecial 11, 3) := by decide +kernel
theorem dX6_init_14 : decode cX6_init 14 = .ok (.putfield 14, 3) := by decide +kernel
theorem dX6_init_17 : decode cX6_init 17 = .ok (.aload_n 0, 1) := by decide +kernel
theorem dX6_init_18 : decode cX6_init 18 = .ok (.iconst 0, 1) := by decide +kernel
theorem dX6_init_19 : decode cX6_init 19 = .ok (.putfield 18, 3) := by decide +kernel
theorem dX6_init_22 : decode cX6_init 22 = .ok (.return_, 1) := by decide +kernel
theorem dX6_isWidth_0 : decode cX6_isWidth 0 = .ok (.iload_n 0, 1) := by decide +kernel
theorem dX6_isWidth_1 : decode cX6_isWidth 1 = .ok (.ifCond .eq 21, 3) := by decide +kernel
theorem dX6_isWidth_4 : decode cX6_isWidth 4 = .ok (.iload_n 0, 1) := by decide +kernel
theorem dX6_isWidth_5 : decode cX6_isWidth 5 = .ok (.bipush 8, 2) := by decide +kernel
theorem dX6_isWidth_7 : decode cX6_isWidth 7 = .ok (.if_icmp .eq 15, 3) := by decide +kernel
theorem dX6_isWidth_10 : decode cX6_isWidth 10 = .ok (.iload_n 0, 1) := by decide +kernel
theorem dX6_isWidth_11 : decode cX6_isWidth 11 = .ok (.bipush 16, 2) := by decide +kernel
theorem dX6_isWidth_13 : decode cX6_isWidth 13 = .ok (.if_icmp .eq 9, 3) := by decide +kernel
theorem dX6_isWidth_16 : decode cX6_isWidth 16 = .ok (.iload_n 0, 1) := by decide +kernel
theorem dX6_isWidth_17 : decode cX6_isWidth 17 = .ok (.bipush 32, 2) := by decide +kernel
theorem dX6_isWidth_19 : decode cX6_isWidth 19 = .ok (.if_icmp .ne 7, 3) := by decide +kernel
theorem dX6_isWidth_22 : decode cX6_isWidth 22 = .ok (.iconst 1, 1) := by decide +kernel
theorem dX6_isWidth_23 : decode cX6_isWidth 23 = .ok (.goto 4, 3) := by decide +kernel
theorem dX6_isWidth_26 : decode cX6_isWidth 26 = .ok (.iconst 0, 1) := by decide +kernel
theorem dX6_isWidth_27 : decode cX6_isWidth 27 = .ok (.ireturn, 1) := by decide +kernel
theorem dX6_isMissing_0 : decode cX6_isMissing 0 = .ok (.aload_n 0, 1) := by decide +kernel
theorem dX6_isMissing_1 : decode cX6_isMissing 1 = .ok (.getfield 18, 3) := by decide +kernel
theorem dX6_isMissing_4 : decode cX6_isMissing 4 = .ok (.ifCond .ne 7, 3) := by decide +kernel
theorem dX6_isMissing_7 : decode cX6_isMissing 7 = .ok (.iconst 1, 1) := by decide +kernel
theorem dX6_isMissing_8 : decode cX6_isMissing 8 = .ok (.goto 4, 3) := by decide +kernel
theorem dX6_isMissing_11 : decode cX6_isMissing 11 = .ok (.iconst 0, 1) := by decide +kernel
theorem dX6_isMissing_12 : decode cX6_isMissing 12 = .ok (.ireturn, 1) := by decide +kernel
theorem dX6_bits_0 : decode cX6_bits 0 = .ok (.aload_n 0, 1) := by decide +kernel
theorem dX6_bits_1 : decode cX6_bits 1 = .ok (.getfield 18, 3) := by decide +kernel
theorem dX6_bits_4 : decode cX6_bits 4 = .ok (.ireturn, 1) := by decide +kernel
theorem dX6_remove_0 : decode cX6_remove 0 = .ok (.aload_n 0, 1) := by decide +kernel
theorem dX6_remove_1 : decode cX6_remove 1 = .ok (.iconst 0, 1) := by decide +kernel
theorem dX6_remove_2 : decode cX6_remove 2 = .ok (.putfield 18, 3) := by decide +kernel
theorem dX6_remove_5 : decode cX6_remove 5 = .ok (.aload_n 0, 1) := by decide +kernel
theorem dX6_remove_6 : decode cX6_remove 6 = .ok (.getfield 14, 3) := by decide +kernel
theorem dX6_remove_9 : decode cX6_remove 9 = .ok (.invokevirtual 22, 3) := by decide +kernel
theorem dX6_remove_12 : decode cX6_remove 12 = .ok (.return_, 1) := by decide +kernel
theorem dX6_renew_0 : decode cX6_renew 0 = .ok (.aload_n 0, 1) := by decide +kernel
theorem dX6_renew_1 : decode cX6_renew 1 = .ok (.iload_n 1, 1) := by decide +kernel
theorem dX6_renew_2 : decode cX6_renew 2 = .ok (.putfield 18, 3) := by decide +kernel
theorem dX6_renew_5 : decode cX6_renew 5 = .ok (.aload_n 0, 1) := by decide +kernel
theorem dX6_renew_6 : decode cX6_renew 6 = .ok (.getfield 14, 3) := by decide +kernel
theorem dX6_renew_9 : decode cX6_renew 9 = .ok (.iload_n 2, 1) := by decide +kernel
theorem dX6_renew_10 : decode cX6_renew 10 = .ok (.iconst 0, 1) := by decide +kernel
theorem dX6_renew_11 : decode cX6_renew 11 = .ok (.invokevirtual 25, 3) := by decide +kernel
theorem dX6_renew_14 : decode cX6_renew 14 = .ok (.return_, 1) := by decide +kernel
theorem dX6_write_0 : decode cX6_write 0 = .ok (.aload_n 0, 1) := by decide +kernel
theorem dX6_write_1 : decode cX6_write 1 = .ok (.getfield 14, 3) := by decide +kernel
theorem dX6_write_4 : decode cX6_write 4 = .ok (.iload_n 1, 1) := by decide +kernel
theorem dX6_write_5 : decode cX6_write 5 = .ok (.aload_n 0, 1) := by decide +kernel
theorem dX6_write_6 : decode cX6_write 6 = .ok (.getfield 18, 3) := by decide +kernel
theorem dX6_write_9 : decode cX6_write 9 = .ok (.bipush 8, 2) := by decide +kernel
theorem dX6_write_11 : decode cX6_write 11 = .ok (.if_icmp .ne 8, 3) := by decide +kernel
theorem dX6_write_14 : decode cX6_write 14 = .ok (.iload_n 2, 1) := by decide +kernel
theorem dX6_write_15 : decode cX6_write 15 = .ok (.i2b, 1) := by decide +kernel
theorem dX6_write_16 : decode cX6_write 16 = .ok (.goto 18, 3) := by decide +kernel
theorem dX6_write_19 : decode cX6_write 19 = .ok (.aload_n 0, 1) := by decide +kernel
theorem dX6_write_20 : decode cX6_write 20 = .ok (.getfield 18, 3) := by decide +kernel
theorem dX6_write_23 : decode cX6_write 23 = .ok (.bipush 16, 2) := by decide +kernel
theorem dX6_write_25 : decode cX6_write 25 = .ok (.if_icmp .ne 8, 3) := by decide +kernel
theorem dX6_write_28 : decode cX6_write 28 = .ok (.iload_n 2, 1) := by decide +kernel
theorem dX6_write_29 : decode cX6_write 29 = .ok (.i2s, 1) := by decide +kernel
theorem dX6_write_30 : decode cX6_write 30 = .ok (.goto 4, 3) := by decide +kernel
theorem dX6_write_33 : decode cX6_write 33 = .ok (.iload_n 2, 1) := by decide +kernel
theorem dX6_write_34 : decode cX6_write 34 = .ok (.invokevirtual 29, 3) := by decide +kernel
theorem dX6_write_37 : decode cX6_write 37 = .ok (.return_, 1) := by decide +kernel
end
section
/-! KINDS (OneGoCeiling$Kinds): tables of the kinds -/
section RowsE
variable {XS : XT → Prop} {R : Room} {μ : MI} {kc ks pc : Nat} {ls : List (Option Value)} {st : List Value} {P P' : AH → Prop} {Q : Option Value → AH → Prop}
theorem r_stA_len {idx : Nat} (hf : decode μ.2.1 pc = .ok (.getstatic idx, 3)) (hf2 : decode μ.2.1 (pc + 3) = .ok (.arraylength, 1)) (hlink : Cond.fieldLink μ.1.cls idx "OneGoCeiling$Kinds" "ABOVE" "[I" ∈ lw_g) (kk : AW XS R μ kc ks (pc + 4) ls (.int 7 :: st) P Q) : AW XS R μ kc ks pc ls st P Q := by
  intro p l e s m args below meth c D b base X Z hX hc hz h H locs lsA hP hH hS hL
  obtain ⟨t, h1, h2⟩ := hc.2.2.2.2.2.2.2.2.2.2.1
  refine va_gets hc.1 hc.2.1 h1 hS hc.2.2.2.2.1 (hc.2.2.2.2.2.2.2.1 _ hlink) (fun _ q => q) hf ?_
  exact va_tlen hc.1 hc.2.1 h2 hS rfl hf2 (kk p l e s m args below meth c D b base X Z hX hc hz h H locs lsA hP hH hS hL)
theorem r_stA_ld {idx j : Nat} {k : Fin 4} {x : Int32} (hf : decode μ.2.1 pc = .ok (.getstatic idx, 3)) (hf2 : decode μ.2.1 (pc + 3) = .ok (.iload_n k, 1)) (hf3 : decode μ.2.1 (pc + 3 + 1) = .ok (.iaload, 1)) (hlink : Cond.fieldLink μ.1.cls idx "OneGoCeiling$Kinds" "ABOVE" "[I" ∈ lw_g) (hl : lget ls k = some (.int x)) (hx : x.toInt = (j : Int)) (hj : j < 7) (kk : AW XS R μ kc ks (pc + 5) ls (.int (lAB.getD j 0) :: st) P Q) : AW XS R μ kc ks pc ls st P Q := by
  intro p l e s m args below meth c D b base X Z hX hc hz h H locs lsA hP hH hS hL
  obtain ⟨t, h1, h2⟩ := hc.2.2.2.2.2.2.2.2.2.2.1
  refine va_gets hc.1 hc.2.1 h1 hS hc.2.2.2.2.1 (hc.2.2.2.2.2.2.2.1 _ hlink) (fun _ q => q) hf ?_
  refine lv_iload_n hc.1 hc.2.1 hf2 rfl (lget_ok hL hl) ?_
  exact va_ti hc.1 hc.2.1 h2 hS (ix_in hx hj) (by rw [ix_cl hx]; rfl) hf3 (kk p l e s m args below meth c D b base X Z hX hc hz h H locs lsA hP hH hS hL)
theorem r_stB_len {idx : Nat} (hf : decode μ.2.1 pc = .ok (.getstatic idx, 3)) (hf2 : decode μ.2.1 (pc + 3) = .ok (.arraylength, 1)) (hlink : Cond.fieldLink μ.1.cls idx "OneGoCeiling$Voices" "BODIES" "[I" ∈ lw_g) (kk : AW XS R μ kc ks (pc + 4) ls (.int 28 :: st) P Q) : AW XS R μ kc ks pc ls st P Q := by
  intro p l e s m args below meth c D b base X Z hX hc hz h H locs lsA hP hH hS hL
  obtain ⟨t, h1, h2⟩ := hc.2.2.2.2.2.2.2.2.2.2.2.1
  refine va_gets hc.1 hc.2.1 h1 hS hc.2.2.2.2.1 (hc.2.2.2.2.2.2.2.1 _ hlink) (fun _ q => q) hf ?_
  exact va_tlen hc.1 hc.2.1 h2 hS rfl hf2 (kk p l e s m args below meth c D b base X Z hX hc hz h H locs lsA hP hH hS hL)
theorem r_stB_ld {idx j : Nat} {k : Fin 4} {x : Int32} (hf : decode μ.2.1 pc = .ok (.getstatic idx, 3)) (hf2 : decode μ.2.1 (pc + 3) = .ok (.iload_n k, 1)) (hf3 : decode μ.2.1 (pc + 3 + 1) = .ok (.iaload, 1)) (hlink : Cond.fieldLink μ.1.cls idx "OneGoCeiling$Voices" "BODIES" "[I" ∈ lw_g) (hl : lget ls k = some (.int x)) (hx : x.toInt = (j : Int)) (hj : j < 28) (kk : AW XS R μ kc ks (pc + 5) ls (.int (lBO.getD j 0) :: st) P Q) : AW XS R μ kc ks pc ls st P Q := by
  intro p l e s m args below meth c D b base X Z hX hc hz h H locs lsA hP hH hS hL
  obtain ⟨t, h1, h2⟩ := hc.2.2.2.2.2.2.2.2.2.2.2.1
  refine va_gets hc.1 hc.2.1 h1 hS hc.2.2.2.2.1 (hc.2.2.2.2.2.2.2.1 _ hlink) (fun _ q => q) hf ?_
  refine lv_iload_n hc.1 hc.2.1 hf2 rfl (lget_ok hL hl) ?_
  exact va_ti hc.1 hc.2.1 h2 hS (ix_in hx hj) (by rw [ix_cl hx]; rfl) hf3 (kk p l e s m args below meth c D b base X Z hX hc hz h H locs lsA hP hH hS hL)
end RowsE
def aboveI (k : Int32) : Int32 := if 0 ≤ k.toInt ∧ k.toInt < 7 then lAB.getD k.toInt.toNat 0 else -1
def paceI (kd m k : Int32) : Int32 := if kd = 1 then 3 else if kd = 2 then 1 else if kd = 3 then (if k % 2 = 0 then 1 else 0) else if kd = 4 then 3 + m / 4 else if kd = 5 then 1 + k / 3 else if kd = 6 then (if k % 2 = 0 then 1 else 0) else 2
def loadI (kd m : Int32) : Int32 := if kd = 2 then 3 + m % 3 else if kd = 3 then 9 else if kd = 4 then 2 else if kd = 5 then 3 + m % 3 - 1 else if kd = 6 then 4 else 2
def usesI (kd m : Int32) : Int32 := if kd = 3 then 2 else if kd = 6 then 2 + m % 2 else 1
def newI (kd m k : Int32) : Int32 := if ¬ k = 0 ∧ ¬ loadI kd m ≤ 0 ∧ k % loadI kd m = 0 then 1 else 0
def mfI (kd m k : Int32) : Int32 := paceI kd m k + newI kd m k
def undI : Nat → Int32 → Int32 → Bool
  | 0, _, _ => false
  | n + 1, k, o => if k < 0 then false else if k = o then true else undI n (aboveI k) o
def dseq (kd m mi : Int32) : Nat → Int32
  | 0 => mi
  | k + 1 => dseq kd m mi k + mfI kd m (nI k)
def doesB (l : List Int32) (mi kd m : Int32) : Bool := (List.range l.length).all fun k => decide (l.getD k 0 = dseq kd m mi (k + 1))
def lbI (l : List Int32) (mi m : Int32) : Int32 := match (List.range 7).find? (fun kd => doesB l mi (nI kd) m) with
  | some kd => nI kd
  | none => -1
set_option maxHeartbeats 4000000 in
theorem ct_Kinds_above {k : Int32} (g : AH) : CT 1 0 0 mX3_above [.int k] g (fun v g' => v = some (.int (aboveI k)) ∧ g' = g) := by
  refine ct_of (by decide) (fun _ _ => Nat.le_of_ble_eq_true rfl) ?_
  dsimp only [pad, ent]
  refine r_iload_n (pc := 0) dX3_above_0 rfl ?_
  refine r_if_lt (pc := 1) 20 dX3_above_1 (by decide) (fun c1 => ?_) (fun c1 => ?_)
  · skip
    have k1 := i32_lt0.mp c1
    refine r_iconst (pc := 20) (v := (-1)) dX3_above_20 (by decide) ?_
    refine r_ireturn (pc := 21) (ty := .int) dX3_above_21 rfl rfl ⟨Nat.zero_le _, Nat.zero_le _⟩ (fun gE hg => ?_)
    refine ⟨?_, hg⟩
    unfold aboveI
    first
    | (rw [if_pos (by omega)]; done)
    | (rw [if_neg (by omega)]; done)
  · skip
    have k1 := ge0 c1
    refine r_iload_n (pc := 4) dX3_above_4 rfl ?_
    refine r_stA_len (pc := 5) dX3_above_5 dX3_above_8 fX3_9 ?_
    refine r_icmp_ge (pc := 9) 20 dX3_above_9 (by decide) (fun c9 => ?_) (fun c9 => ?_)
    · skip
      have k9 : (7 : Int) ≤ k.toInt := fa_le.mp c9
      refine r_iconst (pc := 20) (v := (-1)) dX3_above_20 (by decide) ?_
      refine r_ireturn (pc := 21) (ty := .int) dX3_above_21 rfl rfl ⟨Nat.zero_le _, Nat.zero_le _⟩ (fun gE hg => ?_)
      refine ⟨?_, hg⟩
      unfold aboveI
      first
      | (rw [if_pos (by omega)]; done)
      | (rw [if_neg (by omega)]; done)
    · skip
      have k9 : ¬ (7 : Int) ≤ k.toInt := fun q => c9 (fa_le.mpr q)
      refine r_stA_ld (pc := 12) (j := k.toInt.toNat) dX3_above_12 dX3_above_15 dX3_above_16 fX3_9 rfl (ix_hi c1) (by omega) ?_
      refine r_goto (pc := 17) 21 dX3_above_17 (by decide) ?_
      refine r_ireturn (pc := 21) (ty := .int) dX3_above_21 rfl rfl ⟨Nat.zero_le _, Nat.zero_le _⟩ (fun gE hg => ?_)
      refine ⟨?_, hg⟩
      unfold aboveI
      first
      | (rw [if_pos (by omega)]; done)
      | (rw [if_neg (by omega)]; done)
set_option maxHeartbeats 4000000 in
theorem ct_Kinds_isKind {k : Int32} (g : AH) : CT 1 0 0 mX3_isKind [.int k] g (fun v g' => v = some (.int (b2i (decide (0 ≤ k.toInt ∧ k.toInt < 7)))) ∧ g' = g) := by
  refine ct_of (by decide) (fun _ _ => Nat.le_of_ble_eq_true rfl) ?_
  dsimp only [pad, ent]
  refine r_iload_n (pc := 0) dX3_isKind_0 rfl ?_
  refine r_if_lt (pc := 1) 14 dX3_isKind_1 (by decide) (fun c1 => ?_) (fun c1 => ?_)
  · skip
    have k1 := i32_lt0.mp c1
    refine r_iconst (pc := 14) (v := 0) dX3_isKind_14 (by decide) ?_
    refine r_ireturn (pc := 15) (ty := .boolean) dX3_isKind_15 rfl rfl ⟨Nat.zero_le _, Nat.zero_le _⟩ (fun gE hg => ?_)
    refine ⟨?_, hg⟩
    first
    | (rw [decide_eq_true (by omega)]; rfl)
    | (rw [decide_eq_false (by omega)]; rfl)
  · skip
    have k1 := ge0 c1
    refine r_iload_n (pc := 4) dX3_isKind_4 rfl ?_
    refine r_bipush (pc := 5) (v := 7) dX3_isKind_5 (by decide) ?_
    refine r_icmp_ge (pc := 7) 14 dX3_isKind_7 (by decide) (fun c7 => ?_) (fun c7 => ?_)
    · skip
      have k9 : (7 : Int) ≤ k.toInt := fa_le.mp c7
      refine r_iconst (pc := 14) (v := 0) dX3_isKind_14 (by decide) ?_
      refine r_ireturn (pc := 15) (ty := .boolean) dX3_isKind_15 rfl rfl ⟨Nat.zero_le _, Nat.zero_le _⟩ (fun gE hg => ?_)
      refine ⟨?_, hg⟩
      first
      | (rw [decide_eq_true (by omega)]; rfl)
      | (rw [decide_eq_false (by omega)]; rfl)
    · skip
      have k9 : ¬ (7 : Int) ≤ k.toInt := fun q => c7 (fa_le.mpr q)
      refine r_iconst (pc := 10) (v := 1) dX3_isKind_10 (by decide) ?_
      refine r_goto (pc := 11) 15 dX3_isKind_11 (by decide) ?_
      refine r_ireturn (pc := 15) (ty := .boolean) dX3_isKind_15 rfl rfl ⟨Nat.zero_le _, Nat.zero_le _⟩ (fun gE hg => ?_)
      refine ⟨?_, hg⟩
      first
      | (rw [decide_eq_true (by omega)]; rfl)
      | (rw [decide_eq_false (by omega)]; rfl)
set_option maxHeartbeats 4000000 in
theorem ct_Kinds_isKM {k : Int32} (g : AH) : CT 1 0 0 mX3_isKindAndNumber [.int k] g (fun v g' => v = some (.int (b2i (decide (0 ≤ k.toInt ∧ k.toInt < 70)))) ∧ g' = g) := by
  refine ct_of (by decide) (fun _ _ => Nat.le_of_ble_eq_true rfl) ?_
  dsimp only [pad, ent]
  refine r_iload_n (pc := 0) dX3_isKindAndNumber_0 rfl ?_
  refine r_if_lt (pc := 1) 14 dX3_isKindAndNumber_1 (by decide) (fun c1 => ?_) (fun c1 => ?_)
  · skip
    have k1 := i32_lt0.mp c1
    refine r_iconst (pc := 14) (v := 0) dX3_isKindAndNumber_14 (by decide) ?_
    refine r_ireturn (pc := 15) (ty := .boolean) dX3_isKindAndNumber_15 rfl rfl ⟨Nat.zero_le _, Nat.zero_le _⟩ (fun gE hg => ?_)
    refine ⟨?_, hg⟩
    first
    | (rw [decide_eq_true (by omega)]; rfl)
    | (rw [decide_eq_false (by omega)]; rfl)
  · skip
    have k1 := ge0 c1
    refine r_iload_n (pc := 4) dX3_isKindAndNumber_4 rfl ?_
    refine r_bipush (pc := 5) (v := 70) dX3_isKindAndNumber_5 (by decide) ?_
    refine r_icmp_ge (pc := 7) 14 dX3_isKindAndNumber_7 (by decide) (fun c7 => ?_) (fun c7 => ?_)
    · skip
      have k9 : (70 : Int) ≤ k.toInt := fa_le.mp c7
      refine r_iconst (pc := 14) (v := 0) dX3_isKindAndNumber_14 (by decide) ?_
      refine r_ireturn (pc := 15) (ty := .boolean) dX3_isKindAndNumber_15 rfl rfl ⟨Nat.zero_le _, Nat.zero_le _⟩ (fun gE hg => ?_)
      refine ⟨?_, hg⟩
      first
      | (rw [decide_eq_true (by omega)]; rfl)
      | (rw [decide_eq_false (by omega)]; rfl)
    · skip
      have k9 : ¬ (70 : Int) ≤ k.toInt := fun q => c7 (fa_le.mpr q)
      refine r_iconst (pc := 10) (v := 1) dX3_isKindAndNumber_10 (by decide) ?_
      refine r_goto (pc := 11) 15 dX3_isKindAndNumber_11 (by decide) ?_
      refine r_ireturn (pc := 15) (ty := .boolean) dX3_isKindAndNumber_15 rfl rfl ⟨Nat.zero_le _, Nat.zero_le _⟩ (fun gE hg => ?_)
      refine ⟨?_, hg⟩
      first
      | (rw [decide_eq_true (by omega)]; rfl)
      | (rw [decide_eq_false (by omega)]; rfl)
set_option maxHeartbeats 4000000 in
theorem ct_Kinds_isUnder {k o : Int32} (g : AH) : CT 2 0 0 mX3_isUnder [.int k, .int o] g (fun v g' => v = some (.int (b2i (undI 7 k o))) ∧ g' = g) := by
  refine ct_of (by decide) (fun _ _ => Nat.le_of_ble_eq_true rfl) ?_
  dsimp only [pad, ent]
  have L : ∀ (n : Nat) (x : Int32), n ≤ 7 → AW (fun _ => True) (rmd 2 0 0) mX3_isUnder 0 0 4 [some (.int k), some (.int o), some (.int x), some (.int (nI (7 - n)))] [] (fun g' => g' = g) (fun v g' => v = some (.int (b2i (undI n x o))) ∧ g' = g) := by
    intro n
    induction n with
    | zero =>
      intro x hn
      refine r_iload_n (pc := 4) dX3_isUnder_4 rfl ?_
      refine r_bipush (pc := 5) (v := 7) dX3_isUnder_5 (by decide) ?_
      refine r_icmp_ge (pc := 7) 32 dX3_isUnder_7 (by decide) (fun c7 => ?_) (fun c7 => ?_)
      · skip
        refine r_iconst (pc := 32) (v := 0) dX3_isUnder_32 (by decide) ?_
        refine r_ireturn (pc := 33) (ty := .boolean) dX3_isUnder_33 rfl rfl ⟨Nat.zero_le _, Nat.zero_le _⟩ (fun gE hg => ?_)
        exact ⟨rfl, hg⟩
      · skip
        exact absurd (show (7 : Int32) ≤ nI (7 - 0) by decide) c7
    | succ n ih =>
      intro x hn
      have hT : (nI (7 - (n + 1))).toInt = ((7 - (n + 1) : Nat) : Int) := nI_T (by omega)
      refine r_iload_n (pc := 4) dX3_isUnder_4 rfl ?_
      refine r_bipush (pc := 5) (v := 7) dX3_isUnder_5 (by decide) ?_
      refine r_icmp_ge (pc := 7) 32 dX3_isUnder_7 (by decide) (fun c7 => ?_) (fun c7 => ?_)
      · skip
        exact absurd (fa_le.mp c7) (by rw [hT, show (7 : Int32).toInt = 7 from rfl]; omega)
      · skip
        refine r_iload_n (pc := 10) dX3_isUnder_10 rfl ?_
        refine r_if_lt (pc := 11) 32 dX3_isUnder_11 (by decide) (fun c11 => ?_) (fun c11 => ?_)
        · skip
          have k11 : undI (n + 1) x o = false := by unfold undI; rw [if_pos c11]
          refine r_iconst (pc := 32) (v := 0) dX3_isUnder_32 (by decide) ?_
          refine r_ireturn (pc := 33) (ty := .boolean) dX3_isUnder_33 rfl rfl ⟨Nat.zero_le _, Nat.zero_le _⟩ (fun gE hg => ?_)
          rw [k11]
          exact ⟨rfl, hg⟩
        · skip
          have k11 : undI (n + 1) x o = if x = o then true else undI n (aboveI x) o := by rw [undI, if_neg c11]
          refine r_iload_n (pc := 14) dX3_isUnder_14 rfl ?_
          refine r_iload_n (pc := 15) dX3_isUnder_15 rfl ?_
          refine r_icmp_ne (pc := 16) 21 dX3_isUnder_16 (by decide) (fun c16 => ?_) (fun c16 => ?_)
          · skip
            rw [if_neg c16] at k11
            refine r_iload_n (pc := 21) dX3_isUnder_21 rfl ?_
            refine r_Sp (pc := 22) (μ' := mX3_above) dX3_isUnder_22 nX3_13 sX3_above kX3_above rfl rfl (rr (by decide) rfl) rfl ⟨Nat.zero_le _, Nat.zero_le _⟩ (fun h => ct_Kinds_above h) ?_
            refine r_istore_n (pc := 25) dX3_isUnder_25 rfl (Nat.le_of_ble_eq_true rfl) rfl ?_
            dsimp only [lset]
            refine r_iinc1 (pc := 26) dX3_isUnder_26 rfl (Nat.le_of_ble_eq_true rfl) rfl ?_
            dsimp only [lset]
            refine r_goto (pc := 29) 4 dX3_isUnder_29 (by decide) ?_
            rw [nI_s, show 7 - (n + 1) + 1 = 7 - n by omega, k11]
            exact ih (aboveI x) (by omega)
          · skip
            rw [if_pos c16] at k11
            refine r_iconst (pc := 19) (v := 1) dX3_isUnder_19 (by decide) ?_
            refine r_ireturn (pc := 20) (ty := .boolean) dX3_isUnder_20 rfl rfl ⟨Nat.zero_le _, Nat.zero_le _⟩ (fun gE hg => ?_)
            rw [k11]
            exact ⟨rfl, hg⟩
  refine r_iload_n (pc := 0) dX3_isUnder_0 rfl ?_
  refine r_istore_n (pc := 1) dX3_isUnder_1 rfl (Nat.le_of_ble_eq_true rfl) rfl ?_
  dsimp only [lset]
  refine r_iconst (pc := 2) (v := 0) dX3_isUnder_2 (by decide) ?_
  refine r_istore_n (pc := 3) dX3_isUnder_3 rfl (Nat.le_of_ble_eq_true rfl) rfl ?_
  dsimp only [lset]
  exact L 7 k (Nat.le_refl _)
set_option maxHeartbeats 4000000 in
theorem ct_Kinds_pace {kd m k : Int32} (g : AH) : CT 1 0 0 mX3_pace [.int kd, .int m, .int k] g (fun v g' => v = some (.int (paceI kd m k)) ∧ g' = g) := by
  refine ct_of (by decide) (fun _ _ => Nat.le_of_ble_eq_true rfl) ?_
  dsimp only [pad, ent]
  unfold paceI
  refine r_iload_n (pc := 0) dX3_pace_0 rfl ?_
  by_cases s1_0 : kd = 1
  · skip
    refine r_tableAt (pc := 1) 40 0 dX3_pace_1 (by rw [s1_0]; decide) (by decide) rfl (by decide) ?_
    simp only [s1_0, if_true]
    refine r_iconst (pc := 40) (v := 3) dX3_pace_40 (by decide) ?_
    refine r_ireturn (pc := 41) (ty := .int) dX3_pace_41 rfl rfl ⟨Nat.zero_le _, Nat.zero_le _⟩ (fun gE hg => ?_)
    exact ⟨rfl, hg⟩
  by_cases s1_1 : kd = 2
  · skip
    refine r_tableAt (pc := 1) 48 1 dX3_pace_1 (by rw [s1_1]; decide) (by decide) rfl (by decide) ?_
    simp only [s1_1, if_true, show ¬ (2 : Int32) = 1 by decide, if_false]
    refine r_iconst (pc := 48) (v := 1) dX3_pace_48 (by decide) ?_
    refine r_ireturn (pc := 49) (ty := .int) dX3_pace_49 rfl rfl ⟨Nat.zero_le _, Nat.zero_le _⟩ (fun gE hg => ?_)
    exact ⟨rfl, hg⟩
  by_cases s1_2 : kd = 3
  · skip
    refine r_tableAt (pc := 1) 56 2 dX3_pace_1 (by rw [s1_2]; decide) (by decide) rfl (by decide) ?_
    simp only [s1_2, if_true, show ¬ (3 : Int32) = 1 by decide, show ¬ (3 : Int32) = 2 by decide, if_false]
    refine r_iload_n (pc := 56) dX3_pace_56 rfl ?_
    refine r_iconst (pc := 57) (v := 2) dX3_pace_57 (by decide) ?_
    refine r_irem' (pc := 58) dX3_pace_58 (by decide) ?_
    refine r_if_ne (pc := 59) 66 dX3_pace_59 (by decide) (fun c59 => ?_) (fun c59 => ?_)
    · skip
      try rw [if_neg c59]
      refine r_iconst (pc := 66) (v := 0) dX3_pace_66 (by decide) ?_
      refine r_ireturn (pc := 67) (ty := .int) dX3_pace_67 rfl rfl ⟨Nat.zero_le _, Nat.zero_le _⟩ (fun gE hg => ?_)
      exact ⟨rfl, hg⟩
    · skip
      try rw [if_pos c59]
      refine r_iconst (pc := 62) (v := 1) dX3_pace_62 (by decide) ?_
      refine r_goto (pc := 63) 67 dX3_pace_63 (by decide) ?_
      refine r_ireturn (pc := 67) (ty := .int) dX3_pace_67 rfl rfl ⟨Nat.zero_le _, Nat.zero_le _⟩ (fun gE hg => ?_)
      exact ⟨rfl, hg⟩
  by_cases s1_3 : kd = 4
  · skip
    refine r_tableAt (pc := 1) 42 3 dX3_pace_1 (by rw [s1_3]; decide) (by decide) rfl (by decide) ?_
    simp only [s1_3, if_true, show ¬ (4 : Int32) = 1 by decide, show ¬ (4 : Int32) = 2 by decide, show ¬ (4 : Int32) = 3 by decide, if_false]
    refine r_iconst (pc := 42) (v := 3) dX3_pace_42 (by decide) ?_
    refine r_iload_n (pc := 43) dX3_pace_43 rfl ?_
    refine r_iconst (pc := 44) (v := 4) dX3_pace_44 (by decide) ?_
    refine r_idiv (pc := 45) dX3_pace_45 (by decide) ?_
    refine r_iadd (pc := 46) dX3_pace_46 ?_
    refine r_ireturn (pc := 47) (ty := .int) dX3_pace_47 rfl rfl ⟨Nat.zero_le _, Nat.zero_le _⟩ (fun gE hg => ?_)
    exact ⟨rfl, hg⟩
  by_cases s1_4 : kd = 5
  · skip
    refine r_tableAt (pc := 1) 50 4 dX3_pace_1 (by rw [s1_4]; decide) (by decide) rfl (by decide) ?_
    simp only [s1_4, if_true, show ¬ (5 : Int32) = 1 by decide, show ¬ (5 : Int32) = 2 by decide, show ¬ (5 : Int32) = 3 by decide, show ¬ (5 : Int32) = 4 by decide, if_false]
    refine r_iconst (pc := 50) (v := 1) dX3_pace_50 (by decide) ?_
    refine r_iload_n (pc := 51) dX3_pace_51 rfl ?_
    refine r_iconst (pc := 52) (v := 3) dX3_pace_52 (by decide) ?_
    refine r_idiv (pc := 53) dX3_pace_53 (by decide) ?_
    refine r_iadd (pc := 54) dX3_pace_54 ?_
    refine r_ireturn (pc := 55) (ty := .int) dX3_pace_55 rfl rfl ⟨Nat.zero_le _, Nat.zero_le _⟩ (fun gE hg => ?_)
    exact ⟨rfl, hg⟩
  by_cases s1_5 : kd = 6
  · skip
    refine r_tableAt (pc := 1) 56 5 dX3_pace_1 (by rw [s1_5]; decide) (by decide) rfl (by decide) ?_
    simp only [s1_5, if_true, show ¬ (6 : Int32) = 1 by decide, show ¬ (6 : Int32) = 2 by decide, show ¬ (6 : Int32) = 3 by decide, show ¬ (6 : Int32) = 4 by decide, show ¬ (6 : Int32) = 5 by decide, if_false]
    refine r_iload_n (pc := 56) dX3_pace_56 rfl ?_
    refine r_iconst (pc := 57) (v := 2) dX3_pace_57 (by decide) ?_
    refine r_irem' (pc := 58) dX3_pace_58 (by decide) ?_
    refine r_if_ne (pc := 59) 66 dX3_pace_59 (by decide) (fun c59 => ?_) (fun c59 => ?_)
    · skip
      try rw [if_neg c59]
      refine r_iconst (pc := 66) (v := 0) dX3_pace_66 (by decide) ?_
      refine r_ireturn (pc := 67) (ty := .int) dX3_pace_67 rfl rfl ⟨Nat.zero_le _, Nat.zero_le _⟩ (fun gE hg => ?_)
      exact ⟨rfl, hg⟩
    · skip
      try rw [if_pos c59]
      refine r_iconst (pc := 62) (v := 1) dX3_pace_62 (by decide) ?_
      refine r_goto (pc := 63) 67 dX3_pace_63 (by decide) ?_
      refine r_ireturn (pc := 67) (ty := .int) dX3_pace_67 rfl rfl ⟨Nat.zero_le _, Nat.zero_le _⟩ (fun gE hg => ?_)
      exact ⟨rfl, hg⟩
  have t1_0 : ¬ (kd).toInt = 1 := fun q => s1_0 (Int32.toInt_inj.mp q)
  have t1_1 : ¬ (kd).toInt = 2 := fun q => s1_1 (Int32.toInt_inj.mp q)
  have t1_2 : ¬ (kd).toInt = 3 := fun q => s1_2 (Int32.toInt_inj.mp q)
  have t1_3 : ¬ (kd).toInt = 4 := fun q => s1_3 (Int32.toInt_inj.mp q)
  have t1_4 : ¬ (kd).toInt = 5 := fun q => s1_4 (Int32.toInt_inj.mp q)
  have t1_5 : ¬ (kd).toInt = 6 := fun q => s1_5 (Int32.toInt_inj.mp q)
  refine r_tableOut (pc := 1) 68 dX3_pace_1 (by omega) (by decide) ?_
  simp only [s1_0, s1_1, s1_2, s1_3, s1_4, s1_5, if_false]
  refine r_iconst (pc := 68) (v := 2) dX3_pace_68 (by decide) ?_
  refine r_ireturn (pc := 69) (ty := .int) dX3_pace_69 rfl rfl ⟨Nat.zero_le _, Nat.zero_le _⟩ (fun gE hg => ?_)
  exact ⟨rfl, hg⟩
set_option maxHeartbeats 4000000 in
theorem ct_Kinds_load {kd m : Int32} (g : AH) : CT 1 0 0 mX3_load [.int kd, .int m] g (fun v g' => v = some (.int (loadI kd m)) ∧ g' = g) := by
  refine ct_of (by decide) (fun _ _ => Nat.le_of_ble_eq_true rfl) ?_
  dsimp only [pad, ent]
  unfold loadI
  refine r_iload_n (pc := 0) dX3_load_0 rfl ?_
  by_cases s1_0 : kd = 2
  · skip
    refine r_tableAt (pc := 1) 36 0 dX3_load_1 (by rw [s1_0]; decide) (by decide) rfl (by decide) ?_
    simp only [s1_0, if_true]
    refine r_iconst (pc := 36) (v := 3) dX3_load_36 (by decide) ?_
    refine r_iload_n (pc := 37) dX3_load_37 rfl ?_
    refine r_iconst (pc := 38) (v := 3) dX3_load_38 (by decide) ?_
    refine r_irem' (pc := 39) dX3_load_39 (by decide) ?_
    refine r_iadd (pc := 40) dX3_load_40 ?_
    refine r_ireturn (pc := 41) (ty := .int) dX3_load_41 rfl rfl ⟨Nat.zero_le _, Nat.zero_le _⟩ (fun gE hg => ?_)
    exact ⟨rfl, hg⟩
  by_cases s1_1 : kd = 3
  · skip
    refine r_tableAt (pc := 1) 50 1 dX3_load_1 (by rw [s1_1]; decide) (by decide) rfl (by decide) ?_
    simp only [s1_1, if_true, show ¬ (3 : Int32) = 2 by decide, if_false]
    refine r_bipush (pc := 50) (v := 9) dX3_load_50 (by decide) ?_
    refine r_ireturn (pc := 52) (ty := .int) dX3_load_52 rfl rfl ⟨Nat.zero_le _, Nat.zero_le _⟩ (fun gE hg => ?_)
    exact ⟨rfl, hg⟩
  by_cases s1_2 : kd = 4
  · skip
    refine r_tableAt (pc := 1) 55 2 dX3_load_1 (by rw [s1_2]; decide) (by decide) rfl (by decide) ?_
    simp only [s1_2, if_true, show ¬ (4 : Int32) = 2 by decide, show ¬ (4 : Int32) = 3 by decide, if_false]
    refine r_iconst (pc := 55) (v := 2) dX3_load_55 (by decide) ?_
    refine r_ireturn (pc := 56) (ty := .int) dX3_load_56 rfl rfl ⟨Nat.zero_le _, Nat.zero_le _⟩ (fun gE hg => ?_)
    exact ⟨rfl, hg⟩
  by_cases s1_3 : kd = 5
  · skip
    refine r_tableAt (pc := 1) 42 3 dX3_load_1 (by rw [s1_3]; decide) (by decide) rfl (by decide) ?_
    simp only [s1_3, if_true, show ¬ (5 : Int32) = 2 by decide, show ¬ (5 : Int32) = 3 by decide, show ¬ (5 : Int32) = 4 by decide, if_false]
    refine r_iconst (pc := 42) (v := 3) dX3_load_42 (by decide) ?_
    refine r_iload_n (pc := 43) dX3_load_43 rfl ?_
    refine r_iconst (pc := 44) (v := 3) dX3_load_44 (by decide) ?_
    refine r_irem' (pc := 45) dX3_load_45 (by decide) ?_
    refine r_iadd (pc := 46) dX3_load_46 ?_
    refine r_iconst (pc := 47) (v := 1) dX3_load_47 (by decide) ?_
    refine r_isub (pc := 48) dX3_load_48 ?_
    refine r_ireturn (pc := 49) (ty := .int) dX3_load_49 rfl rfl ⟨Nat.zero_le _, Nat.zero_le _⟩ (fun gE hg => ?_)
    exact ⟨rfl, hg⟩
  by_cases s1_4 : kd = 6
  · skip
    refine r_tableAt (pc := 1) 53 4 dX3_load_1 (by rw [s1_4]; decide) (by decide) rfl (by decide) ?_
    simp only [s1_4, if_true, show ¬ (6 : Int32) = 2 by decide, show ¬ (6 : Int32) = 3 by decide, show ¬ (6 : Int32) = 4 by decide, show ¬ (6 : Int32) = 5 by decide, if_false]
    refine r_iconst (pc := 53) (v := 4) dX3_load_53 (by decide) ?_
    refine r_ireturn (pc := 54) (ty := .int) dX3_load_54 rfl rfl ⟨Nat.zero_le _, Nat.zero_le _⟩ (fun gE hg => ?_)
    exact ⟨rfl, hg⟩
  have t1_0 : ¬ (kd).toInt = 2 := fun q => s1_0 (Int32.toInt_inj.mp q)
  have t1_1 : ¬ (kd).toInt = 3 := fun q => s1_1 (Int32.toInt_inj.mp q)
  have t1_2 : ¬ (kd).toInt = 4 := fun q => s1_2 (Int32.toInt_inj.mp q)
  have t1_3 : ¬ (kd).toInt = 5 := fun q => s1_3 (Int32.toInt_inj.mp q)
  have t1_4 : ¬ (kd).toInt = 6 := fun q => s1_4 (Int32.toInt_inj.mp q)
  refine r_tableOut (pc := 1) 55 dX3_load_1 (by omega) (by decide) ?_
  simp only [s1_0, s1_1, s1_2, s1_3, s1_4, if_false]
  refine r_iconst (pc := 55) (v := 2) dX3_load_55 (by decide) ?_
  refine r_ireturn (pc := 56) (ty := .int) dX3_load_56 rfl rfl ⟨Nat.zero_le _, Nat.zero_le _⟩ (fun gE hg => ?_)
  exact ⟨rfl, hg⟩
set_option maxHeartbeats 4000000 in
theorem ct_Kinds_uses {kd m : Int32} (g : AH) : CT 1 0 0 mX3_uses [.int kd, .int m] g (fun v g' => v = some (.int (usesI kd m)) ∧ g' = g) := by
  refine ct_of (by decide) (fun _ _ => Nat.le_of_ble_eq_true rfl) ?_
  dsimp only [pad, ent]
  unfold usesI
  refine r_iload_n (pc := 0) dX3_uses_0 rfl ?_
  by_cases s1_0 : kd = 3
  · skip
    refine r_lookup (pc := 1) (off := 27) 28 dX3_uses_1 (by decide) (by rw [s1_0]; decide) (by decide) ?_
    simp only [s1_0, if_true]
    refine r_iconst (pc := 28) (v := 2) dX3_uses_28 (by decide) ?_
    refine r_ireturn (pc := 29) (ty := .int) dX3_uses_29 rfl rfl ⟨Nat.zero_le _, Nat.zero_le _⟩ (fun gE hg => ?_)
    exact ⟨rfl, hg⟩
  by_cases s1_1 : kd = 6
  · skip
    refine r_lookup (pc := 1) (off := 29) 30 dX3_uses_1 (by decide) (by rw [s1_1]; decide) (by decide) ?_
    simp only [s1_1, if_true, show ¬ (6 : Int32) = 3 by decide, if_false]
    refine r_iconst (pc := 30) (v := 2) dX3_uses_30 (by decide) ?_
    refine r_iload_n (pc := 31) dX3_uses_31 rfl ?_
    refine r_iconst (pc := 32) (v := 2) dX3_uses_32 (by decide) ?_
    refine r_irem' (pc := 33) dX3_uses_33 (by decide) ?_
    refine r_iadd (pc := 34) dX3_uses_34 ?_
    refine r_ireturn (pc := 35) (ty := .int) dX3_uses_35 rfl rfl ⟨Nat.zero_le _, Nat.zero_le _⟩ (fun gE hg => ?_)
    exact ⟨rfl, hg⟩
  have t1_0 : ¬ (kd).toInt = 3 := fun q => s1_0 (Int32.toInt_inj.mp q)
  have t1_1 : ¬ (kd).toInt = 6 := fun q => s1_1 (Int32.toInt_inj.mp q)
  refine r_lookup (pc := 1) (off := 35) 36 dX3_uses_1 (by decide) (by simp [Op.lookupswitch.offset, t1_0, t1_1] <;> omega) (by decide) ?_
  simp only [s1_0, s1_1, if_false]
  refine r_iconst (pc := 36) (v := 1) dX3_uses_36 (by decide) ?_
  refine r_ireturn (pc := 37) (ty := .int) dX3_uses_37 rfl rfl ⟨Nat.zero_le _, Nat.zero_le _⟩ (fun gE hg => ?_)
  exact ⟨rfl, hg⟩
set_option maxHeartbeats 4000000 in
theorem ct_Kinds_minutesFor {kd m k : Int32} (g : AH) : CT 2 0 0 mX3_minutesFor [.int kd, .int m, .int k] g (fun v g' => v = some (.int (mfI kd m k)) ∧ g' = g) := by
  refine ct_of (by decide) (fun _ _ => Nat.le_of_ble_eq_true rfl) ?_
  dsimp only [pad, ent]
  unfold mfI newI
  refine r_iload_n (pc := 0) dX3_minutesFor_0 rfl ?_
  refine r_iload_n (pc := 1) dX3_minutesFor_1 rfl ?_
  refine r_Sp (pc := 2) (μ' := mX3_load) dX3_minutesFor_2 nX3_17 sX3_load kX3_load rfl rfl (rr (by decide) rfl) rfl ⟨Nat.zero_le _, Nat.zero_le _⟩ (fun h => ct_Kinds_load h) ?_
  refine r_istore_n (pc := 5) dX3_minutesFor_5 rfl (Nat.le_of_ble_eq_true rfl) rfl ?_
  dsimp only [lset]
  refine r_iload_n (pc := 6) dX3_minutesFor_6 rfl ?_
  refine r_if_eq (pc := 7) 24 dX3_minutesFor_7 (by decide) (fun c7 => ?_) (fun c7 => ?_)
  · skip
    rw [if_neg (fun q => q.1 c7)]
    refine r_iconst (pc := 24) (v := 0) dX3_minutesFor_24 (by decide) ?_
    refine r_istore (pc := 25) dX3_minutesFor_25 (Nat.le_of_ble_eq_true rfl) rfl ?_
    dsimp only [lset]
    refine r_iload_n (pc := 27) dX3_minutesFor_27 rfl ?_
    refine r_iload_n (pc := 28) dX3_minutesFor_28 rfl ?_
    refine r_iload_n (pc := 29) dX3_minutesFor_29 rfl ?_
    refine r_Sp (pc := 30) (μ' := mX3_pace) dX3_minutesFor_30 nX3_21 sX3_pace kX3_pace rfl rfl (rr (by decide) rfl) rfl ⟨Nat.zero_le _, Nat.zero_le _⟩ (fun h => ct_Kinds_pace h) ?_
    refine r_iload (pc := 33) dX3_minutesFor_33 rfl ?_
    refine r_if_eq (pc := 35) 42 dX3_minutesFor_35 (by decide) (fun c35 => ?_) (fun c35 => ?_)
    · skip
      first
      | exact absurd c35 (by decide)
      | skip
        refine r_iconst (pc := 42) (v := 0) dX3_minutesFor_42 (by decide) ?_
        refine r_iadd (pc := 43) dX3_minutesFor_43 ?_
        refine r_ireturn (pc := 44) (ty := .int) dX3_minutesFor_44 rfl rfl ⟨Nat.zero_le _, Nat.zero_le _⟩ (fun gE hg => ?_)
        exact ⟨rfl, hg⟩
    · skip
      first
      | exact absurd (show (0 : Int32) = 0 from rfl) c35
      | skip
        refine r_iconst (pc := 38) (v := 1) dX3_minutesFor_38 (by decide) ?_
        refine r_goto (pc := 39) 43 dX3_minutesFor_39 (by decide) ?_
        refine r_iadd (pc := 43) dX3_minutesFor_43 ?_
        refine r_ireturn (pc := 44) (ty := .int) dX3_minutesFor_44 rfl rfl ⟨Nat.zero_le _, Nat.zero_le _⟩ (fun gE hg => ?_)
        exact ⟨rfl, hg⟩
  · skip
    refine r_iload_n (pc := 10) dX3_minutesFor_10 rfl ?_
    refine r_if_le (pc := 11) 24 dX3_minutesFor_11 (by decide) (fun c11 => ?_) (fun c11 => ?_)
    · skip
      rw [if_neg (fun q => q.2.1 c11)]
      refine r_iconst (pc := 24) (v := 0) dX3_minutesFor_24 (by decide) ?_
      refine r_istore (pc := 25) dX3_minutesFor_25 (Nat.le_of_ble_eq_true rfl) rfl ?_
      dsimp only [lset]
      refine r_iload_n (pc := 27) dX3_minutesFor_27 rfl ?_
      refine r_iload_n (pc := 28) dX3_minutesFor_28 rfl ?_
      refine r_iload_n (pc := 29) dX3_minutesFor_29 rfl ?_
      refine r_Sp (pc := 30) (μ' := mX3_pace) dX3_minutesFor_30 nX3_21 sX3_pace kX3_pace rfl rfl (rr (by decide) rfl) rfl ⟨Nat.zero_le _, Nat.zero_le _⟩ (fun h => ct_Kinds_pace h) ?_
      refine r_iload (pc := 33) dX3_minutesFor_33 rfl ?_
      refine r_if_eq (pc := 35) 42 dX3_minutesFor_35 (by decide) (fun c35 => ?_) (fun c35 => ?_)
      · skip
        first
        | exact absurd c35 (by decide)
        | skip
          refine r_iconst (pc := 42) (v := 0) dX3_minutesFor_42 (by decide) ?_
          refine r_iadd (pc := 43) dX3_minutesFor_43 ?_
          refine r_ireturn (pc := 44) (ty := .int) dX3_minutesFor_44 rfl rfl ⟨Nat.zero_le _, Nat.zero_le _⟩ (fun gE hg => ?_)
          exact ⟨rfl, hg⟩
      · skip
        first
        | exact absurd (show (0 : Int32) = 0 from rfl) c35
        | skip
          refine r_iconst (pc := 38) (v := 1) dX3_minutesFor_38 (by decide) ?_
          refine r_goto (pc := 39) 43 dX3_minutesFor_39 (by decide) ?_
          refine r_iadd (pc := 43) dX3_minutesFor_43 ?_
          refine r_ireturn (pc := 44) (ty := .int) dX3_minutesFor_44 rfl rfl ⟨Nat.zero_le _, Nat.zero_le _⟩ (fun gE hg => ?_)
          exact ⟨rfl, hg⟩
    · skip
      refine r_iload_n (pc := 14) dX3_minutesFor_14 rfl ?_
      refine r_iload_n (pc := 15) dX3_minutesFor_15 rfl ?_
      refine r_irem' (pc := 16) dX3_minutesFor_16 (fun q => c11 (by rw [q]; decide)) ?_
      refine r_if_ne (pc := 17) 24 dX3_minutesFor_17 (by decide) (fun c17 => ?_) (fun c17 => ?_)
      · skip
        rw [if_neg (fun q => c17 q.2.2)]
        refine r_iconst (pc := 24) (v := 0) dX3_minutesFor_24 (by decide) ?_
        refine r_istore (pc := 25) dX3_minutesFor_25 (Nat.le_of_ble_eq_true rfl) rfl ?_
        dsimp only [lset]
        refine r_iload_n (pc := 27) dX3_minutesFor_27 rfl ?_
        refine r_iload_n (pc := 28) dX3_minutesFor_28 rfl ?_
        refine r_iload_n (pc := 29) dX3_minutesFor_29 rfl ?_
        refine r_Sp (pc := 30) (μ' := mX3_pace) dX3_minutesFor_30 nX3_21 sX3_pace kX3_pace rfl rfl (rr (by decide) rfl) rfl ⟨Nat.zero_le _, Nat.zero_le _⟩ (fun h => ct_Kinds_pace h) ?_
        refine r_iload (pc := 33) dX3_minutesFor_33 rfl ?_
        refine r_if_eq (pc := 35) 42 dX3_minutesFor_35 (by decide) (fun c35 => ?_) (fun c35 => ?_)
        · skip
          first
          | exact absurd c35 (by decide)
          | skip
            refine r_iconst (pc := 42) (v := 0) dX3_minutesFor_42 (by decide) ?_
            refine r_iadd (pc := 43) dX3_minutesFor_43 ?_
            refine r_ireturn (pc := 44) (ty := .int) dX3_minutesFor_44 rfl rfl ⟨Nat.zero_le _, Nat.zero_le _⟩ (fun gE hg => ?_)
            exact ⟨rfl, hg⟩
        · skip
          first
          | exact absurd (show (0 : Int32) = 0 from rfl) c35
          | skip
            refine r_iconst (pc := 38) (v := 1) dX3_minutesFor_38 (by decide) ?_
            refine r_goto (pc := 39) 43 dX3_minutesFor_39 (by decide) ?_
            refine r_iadd (pc := 43) dX3_minutesFor_43 ?_
            refine r_ireturn (pc := 44) (ty := .int) dX3_minutesFor_44 rfl rfl ⟨Nat.zero_le _, Nat.zero_le _⟩ (fun gE hg => ?_)
            exact ⟨rfl, hg⟩
      · skip
        rw [if_pos ⟨c7, c11, c17⟩]
        refine r_iconst (pc := 20) (v := 1) dX3_minutesFor_20 (by decide) ?_
        refine r_goto (pc := 21) 25 dX3_minutesFor_21 (by decide) ?_
        refine r_istore (pc := 25) dX3_minutesFor_25 (Nat.le_of_ble_eq_true rfl) rfl ?_
        dsimp only [lset]
        refine r_iload_n (pc := 27) dX3_minutesFor_27 rfl ?_
        refine r_iload_n (pc := 28) dX3_minutesFor_28 rfl ?_
        refine r_iload_n (pc := 29) dX3_minutesFor_29 rfl ?_
        refine r_Sp (pc := 30) (μ' := mX3_pace) dX3_minutesFor_30 nX3_21 sX3_pace kX3_pace rfl rfl (rr (by decide) rfl) rfl ⟨Nat.zero_le _, Nat.zero_le _⟩ (fun h => ct_Kinds_pace h) ?_
        refine r_iload (pc := 33) dX3_minutesFor_33 rfl ?_
        refine r_if_eq (pc := 35) 42 dX3_minutesFor_35 (by decide) (fun c35 => ?_) (fun c35 => ?_)
        · skip
          first
          | exact absurd c35 (by decide)
          | skip
            refine r_iconst (pc := 42) (v := 0) dX3_minutesFor_42 (by decide) ?_
            refine r_iadd (pc := 43) dX3_minutesFor_43 ?_
            refine r_ireturn (pc := 44) (ty := .int) dX3_minutesFor_44 rfl rfl ⟨Nat.zero_le _, Nat.zero_le _⟩ (fun gE hg => ?_)
            exact ⟨rfl, hg⟩
        · skip
          first
          | exact absurd (show (0 : Int32) = 0 from rfl) c35
          | skip
            refine r_iconst (pc := 38) (v := 1) dX3_minutesFor_38 (by decide) ?_
            refine r_goto (pc := 39) 43 dX3_minutesFor_39 (by decide) ?_
            refine r_iadd (pc := 43) dX3_minutesFor_43 ?_
            refine r_ireturn (pc := 44) (ty := .int) dX3_minutesFor_44 rfl rfl ⟨Nat.zero_le _, Nat.zero_le _⟩ (fun gE hg => ?_)
            exact ⟨rfl, hg⟩
theorem dseq_s {kd m mi : Int32} {k : Nat} : dseq kd m mi (k + 1) = dseq kd m mi k + mfI kd m (nI k) := rfl
theorem all_false {n k : Nat} {p : Nat → Bool} (hk : k < n) (h : p k = false) : (List.range n).all p = false := by
  apply Bool.eq_false_iff.mpr
  intro q
  rw [List.all_eq_true.mp q k (List.mem_range.mpr hk)] at h
  cases h
theorem all_true {n : Nat} {p : Nat → Bool} (h : ∀ k, k < n → p k = true) : (List.range n).all p = true := List.all_eq_true.mpr fun k hk => h k (List.mem_range.mp hk)
set_option maxHeartbeats 4000000 in
theorem ct_Kinds_doesAt {r cap : Nat} {l : List Int32} {mi kd m : Int32} {g : AH} (hR : RowAt r cap l g) : CT 3 0 0 mX3_doesAt [.ref r, .int mi, .int kd, .int m] g (fun v g' => v = some (.int (b2i (doesB l mi kd m))) ∧ g' = g) := by
  refine ct_of (by decide) (fun _ _ => Nat.le_of_ble_eq_true rfl) ?_
  dsimp only [pad, ent]
  have hl := hR.2.1
  have hc := hR.2.2.1
  have hT := nI_T (n := l.length) (by omega)
  have hR2 : ∀ g', g' = g → RowAt r cap l g' := fun g' e => by rw [e]; exact hR
  have L : ∀ k, k ≤ l.length → (∀ j, j < k → l.getD j 0 = dseq kd m mi (j + 1)) → AW (fun _ => True) (rmd 3 0 0) mX3_doesAt 0 0 6 [some (.ref r), some (.int mi), some (.int kd), some (.int m), some (.int (dseq kd m mi k)), some (.int (nI k))] [] (fun g' => g' = g) (fun v g' => v = some (.int (b2i (doesB l mi kd m))) ∧ g' = g) := by
    refine up_loop ?_ ?_
    · intro hj
      have hB : doesB l mi kd m = true := all_true fun k hk => decide_eq_true (hj k hk)
      rw [hB]
      refine r_iload (pc := 6) dX3_doesAt_6 rfl ?_
      refine r_aload_n (pc := 8) dX3_doesAt_8 rfl ?_
      refine r_Vi (pc := 9) (μ' := mX5_length) dX3_doesAt_9 nX3_29 iX5_length vX5_length kX5_length rfl rfl (rr (by decide) rfl) rfl ⟨Nat.zero_le _, Nat.zero_le _⟩ (fun g' q => ct_Row_length (hR2 g' q) q) ?_
      refine r_icmp_ge (pc := 12) 46 dX3_doesAt_12 (by decide) (fun c12 => ?_) (fun c12 => ?_)
      · skip
        refine r_iconst (pc := 46) (v := 1) dX3_doesAt_46 (by decide) ?_
        refine r_ireturn (pc := 47) (ty := .boolean) dX3_doesAt_47 rfl rfl ⟨Nat.zero_le _, Nat.zero_le _⟩ (fun gE hg => ?_)
        exact ⟨rfl, hg⟩
      · skip
        exact absurd (fa_le.mpr (Int.le_refl _)) c12
    · intro k hk ih hj
      have hTk := nI_T (n := k) (by omega)
      refine r_iload (pc := 6) dX3_doesAt_6 rfl ?_
      refine r_aload_n (pc := 8) dX3_doesAt_8 rfl ?_
      refine r_Vi (pc := 9) (μ' := mX5_length) dX3_doesAt_9 nX3_29 iX5_length vX5_length kX5_length rfl rfl (rr (by decide) rfl) rfl ⟨Nat.zero_le _, Nat.zero_le _⟩ (fun g' q => ct_Row_length (hR2 g' q) q) ?_
      refine r_icmp_ge (pc := 12) 46 dX3_doesAt_12 (by decide) (fun c12 => ?_) (fun c12 => ?_)
      · skip
        exact absurd c12 (fun q => by have := fa_le.mp q; omega)
      · skip
        refine r_iload (pc := 15) dX3_doesAt_15 rfl ?_
        refine r_iload_n (pc := 17) dX3_doesAt_17 rfl ?_
        refine r_iload_n (pc := 18) dX3_doesAt_18 rfl ?_
        refine r_iload (pc := 19) dX3_doesAt_19 rfl ?_
        refine r_Sp (pc := 21) (μ' := mX3_minutesFor) dX3_doesAt_21 nX3_35 sX3_minutesFor kX3_minutesFor rfl rfl (rr (by decide) rfl) rfl ⟨Nat.zero_le _, Nat.zero_le _⟩ (fun h => ct_Kinds_minutesFor h) ?_
        refine r_iadd (pc := 24) dX3_doesAt_24 ?_
        rw [show dseq kd m mi k + mfI kd m (nI k) = dseq kd m mi (k + 1) from rfl]
        refine r_istore (pc := 25) dX3_doesAt_25 (Nat.le_of_ble_eq_true rfl) rfl ?_
        dsimp only [lset]
        refine r_aload_n (pc := 27) dX3_doesAt_27 rfl ?_
        refine r_iload (pc := 28) dX3_doesAt_28 rfl ?_
        refine r_Vi (pc := 30) (μ' := mX5_at) dX3_doesAt_30 nX3_38 iX5_at vX5_at kX5_at rfl rfl (rr (by decide) rfl) rfl ⟨Nat.zero_le _, Nat.zero_le _⟩ (fun g' q => ct_Row_at (hR2 g' q) q) ?_
        rw [atL_nI (show k ≤ 4000 by omega)]
        refine r_iload (pc := 33) dX3_doesAt_33 rfl ?_
        refine r_icmp_eq (pc := 35) 40 dX3_doesAt_35 (by decide) (fun c35 => ?_) (fun c35 => ?_)
        · skip
          refine r_iinc1 (pc := 40) dX3_doesAt_40 rfl (Nat.le_of_ble_eq_true rfl) rfl ?_
          dsimp only [lset]
          refine r_goto (pc := 43) 6 dX3_doesAt_43 (by decide) ?_
          rw [nI_s]
          exact ih (fun j hj2 => by
            by_cases e : j = k
            · rw [e]; exact c35
            · exact hj j (by omega))
        · skip
          have hB : doesB l mi kd m = false := all_false hk (decide_eq_false c35)
          refine r_iconst (pc := 38) (v := 0) dX3_doesAt_38 (by decide) ?_
          refine r_ireturn (pc := 39) (ty := .boolean) dX3_doesAt_39 rfl rfl ⟨Nat.zero_le _, Nat.zero_le _⟩ (fun gE hg => ?_)
          rw [hB]
          exact ⟨rfl, hg⟩
  refine r_iload_n (pc := 0) dX3_doesAt_0 rfl ?_
  refine r_istore (pc := 1) dX3_doesAt_1 (Nat.le_of_ble_eq_true rfl) rfl ?_
  dsimp only [lset]
  refine r_iconst (pc := 3) (v := 0) dX3_doesAt_3 (by decide) ?_
  refine r_istore (pc := 4) dX3_doesAt_4 (Nat.le_of_ble_eq_true rfl) rfl ?_
  dsimp only [lset]
  exact L 0 (Nat.zero_le _) (fun j hj => absurd hj (Nat.not_lt_zero j))
set_option maxHeartbeats 4000000 in
theorem ct_Kinds_leastBy {r cap : Nat} {l : List Int32} {mi m : Int32} {g : AH} (hR : RowAt r cap l g) : CT 4 0 0 mX3_leastBy [.ref r, .int mi, .int m] g (fun v g' => v = some (.int (lbI l mi m)) ∧ g' = g) := by
  refine ct_of (by decide) (fun _ _ => Nat.le_of_ble_eq_true rfl) ?_
  dsimp only [pad, ent]
  have L : ∀ k, k ≤ 7 → (∀ j, j < k → doesB l mi (nI j) m = false) → AW (fun _ => True) (rmd 4 0 0) mX3_leastBy 0 0 2 [some (.ref r), some (.int mi), some (.int m), some (.int (nI k))] [] (fun g' => g' = g) (fun v g' => v = some (.int (lbI l mi m)) ∧ g' = g) := by
    refine up_loop ?_ ?_
    · intro hj
      have hB : lbI l mi m = -1 := by
        unfold lbI
        rw [List.find?_eq_none.mpr (fun x hx => by rw [hj x (List.mem_range.mp hx)]; decide)]
      rw [hB]
      refine r_iload_n (pc := 2) dX3_leastBy_2 rfl ?_
      refine r_bipush (pc := 3) (v := 7) dX3_leastBy_3 (by decide) ?_
      refine r_icmp_ge (pc := 5) 26 dX3_leastBy_5 (by decide) (fun c5 => ?_) (fun c5 => ?_)
      · skip
        refine r_iconst (pc := 26) (v := (-1)) dX3_leastBy_26 (by decide) ?_
        refine r_ireturn (pc := 27) (ty := .int) dX3_leastBy_27 rfl rfl ⟨Nat.zero_le _, Nat.zero_le _⟩ (fun gE hg => ?_)
        exact ⟨rfl, hg⟩
      · skip
        exact absurd (show (7 : Int32) ≤ nI 7 by decide) c5
    · intro k hk ih hj
      have hTk := nI_T (n := k) (by omega)
      refine r_iload_n (pc := 2) dX3_leastBy_2 rfl ?_
      refine r_bipush (pc := 3) (v := 7) dX3_leastBy_3 (by decide) ?_
      refine r_icmp_ge (pc := 5) 26 dX3_leastBy_5 (by decide) (fun c5 => ?_) (fun c5 => ?_)
      · skip
        exact absurd (fa_le.mp c5) (by rw [hTk, show (7 : Int32).toInt = 7 from rfl]; omega)
      · skip
        refine r_aload_n (pc := 8) dX3_leastBy_8 rfl ?_
        refine r_iload_n (pc := 9) dX3_leastBy_9 rfl ?_
        refine r_iload_n (pc := 10) dX3_leastBy_10 rfl ?_
        refine r_iload_n (pc := 11) dX3_leastBy_11 rfl ?_
        refine r_Si (pc := 12) (μ' := mX3_doesAt) dX3_leastBy_12 nX3_25 sX3_doesAt kX3_doesAt rfl rfl (rr (by decide) rfl) rfl ⟨Nat.zero_le _, Nat.zero_le _⟩ (fun g' q => (ct_Kinds_doesAt (g := g') (l := l) (cap := cap) (by rw [q]; exact hR)).mono (fun v g2 a => ⟨a.1, a.2.trans q⟩)) ?_
        refine r_if_eq (pc := 15) 20 dX3_leastBy_15 (by decide) (fun c15 => ?_) (fun c15 => ?_)
        · skip
          have c16 : doesB l mi (nI k) m = false := by
            cases h : doesB l mi (nI k) m with
            | true => rw [h] at c15; exact absurd c15 (by decide)
            | false => rfl
          refine r_iinc1 (pc := 20) dX3_leastBy_20 rfl (Nat.le_of_ble_eq_true rfl) rfl ?_
          dsimp only [lset]
          refine r_goto (pc := 23) 2 dX3_leastBy_23 (by decide) ?_
          rw [nI_s]
          exact ih (fun j hj2 => by
            by_cases e : j = k
            · rw [e]; exact c16
            · exact hj j (by omega))
        · skip
          have c16 : doesB l mi (nI k) m = true := by
            cases h : doesB l mi (nI k) m with
            | false => rw [h] at c15; exact absurd (show b2i false = 0 from rfl) c15
            | true => rfl
          refine r_iload_n (pc := 18) dX3_leastBy_18 rfl ?_
          refine r_ireturn (pc := 19) (ty := .int) dX3_leastBy_19 rfl rfl ⟨Nat.zero_le _, Nat.zero_le _⟩ (fun gE hg => ?_)
          refine ⟨?_, hg⟩
          have hB : lbI l mi m = nI k := by
            unfold lbI
            have hs : (List.range 7).find? (fun kd => doesB l mi (nI kd) m) = some k := List.find?_range_eq_some.mpr ⟨c16, List.mem_range.mpr hk, fun j hj2 => by rw [hj j hj2]; rfl⟩
            rw [hs]
          rw [hB]
  refine r_iconst (pc := 0) (v := 0) dX3_leastBy_0 (by decide) ?_
  refine r_istore_n (pc := 1) dX3_leastBy_1 rfl (Nat.le_of_ble_eq_true rfl) rfl ?_
  dsimp only [lset]
  exact L 0 (Nat.zero_le _) (fun j hj => absurd hj (Nat.not_lt_zero j))
end
section
/-! HANDS (OneGoCeiling$Crew) and SHEETS (OneGoCeiling$Sheet) -/
def CrewAt (c : Nat) (ks ms : List Int32) (g : AH) : Prop := c < g.1 ∧ g.2 c = .inr (.inr (1, [.ref (c + 1), .ref (c + 3)])) ∧ RowAt (c + 1) 6 ks g ∧ RowAt (c + 3) 6 ms g
theorem CrewAt.o {c : Nat} {ks ms : List Int32} {g : AH} (q : CrewAt c ks ms g) : c < g.1 ∧ g.2 c = .inr (.inr (1, [.ref (c + 1), .ref (c + 3)])) := ⟨q.1, q.2.1⟩
theorem CrewAt.V {c : Nat} {ks ms : List Int32} {g : AH} (q : CrewAt c ks ms g) : ∃ (fs : List Value) (T : u_T) (N : Nat), c < g.1 ∧ g.2 c = .inr (.inr (1, fs)) ∧ vwCl[1]? = some (RX1, T, N) := ⟨_, _, _, q.1, q.2.1, rfl⟩
theorem CrewAt.off {c : Nat} {ks ms : List Int32} {h g : AH} (q : CrewAt c ks ms h) {lo w : Nat} (o : Off lo w h g) (hd : c + 5 ≤ lo ∨ lo + w ≤ c) : CrewAt c ks ms g :=
  ⟨by rw [o.1]; exact q.1, by rw [o.2 c (by omega)]; exact q.2.1, q.2.2.1.off o (by omega), q.2.2.2.off o (by omega)⟩
theorem CrewAt.setK {c : Nat} {ks ms ks' : List Int32} {h g : AH} (q : CrewAt c ks ms h) (hR : RowAt (c + 1) 6 ks' g) (o : Off (c + 1) 2 h g) : CrewAt c ks' ms g :=
  ⟨by rw [o.1]; exact q.1, by rw [o.2 c (by omega)]; exact q.2.1, hR, q.2.2.2.off o (by omega)⟩
theorem CrewAt.setM {c : Nat} {ks ms ms' : List Int32} {h g : AH} (q : CrewAt c ks ms h) (hR : RowAt (c + 3) 6 ms' g) (o : Off (c + 3) 2 h g) : CrewAt c ks ms' g :=
  ⟨by rw [o.1]; exact q.1, by rw [o.2 c (by omega)]; exact q.2.1, q.2.2.1.off o (by omega), hR⟩
set_option maxHeartbeats 4000000 in
theorem ct_Crew_size {c : Nat} {ks ms : List Int32} {g : AH} {P' : AH → Prop} (hR : CrewAt c ks ms g) (hP : P' g) : CV 2 0 0 mX1_size c [] g (fun v g' => v = some (.int (nI ks.length)) ∧ P' g') := by
  refine ⟨hR.V, ?_⟩
  refine ct_of (by decide) (fun _ _ => Nat.le_of_ble_eq_true rfl) ?_
  dsimp only [pad, ent]
  refine aw_P (P' := fun g' => CrewAt c ks ms g' ∧ g' = g) (fun g' e => by subst e; exact ⟨hR, rfl⟩) ?_
  refine r_aload_n (pc := 0) dX1_size_0 rfl ?_
  refine r_getf (pc := 1) (k := 0) dX1_size_1 hX1 eX1 (by decide) fX1_14 (fun _ q => q.1.o) rfl ?_
  refine r_Vi (pc := 4) (μ' := mX5_length) dX1_size_4 nX1_21 iX5_length vX5_length kX5_length rfl rfl (rr (by decide) rfl) rfl ⟨Nat.zero_le _, Nat.zero_le _⟩ (fun g' q => ct_Row_length q.1.2.2.1 q) ?_
  refine r_ireturn (pc := 7) (ty := .int) dX1_size_7 rfl rfl ⟨Nat.zero_le _, Nat.zero_le _⟩ (fun gE hg => ?_)
  exact ⟨rfl, by rw [hg.2]; exact hP⟩
theorem nI_lt6 {n : Nat} (h : n ≤ 4000) : nI n < 6 ↔ n < 6 := by rw [fa_lt, nI_T h, show (6 : Int32).toInt = 6 from rfl]; omega
set_option maxHeartbeats 4000000 in
theorem ct_Crew_isFull {c : Nat} {ks ms : List Int32} {g : AH} {P' : AH → Prop} (hR : CrewAt c ks ms g) (hP : P' g) : CV 3 0 0 mX1_isFull c [] g (fun v g' => v = some (.int (b2i (decide (ks.length = 6)))) ∧ P' g') := by
  refine ⟨hR.V, ?_⟩
  refine ct_of (by decide) (fun _ _ => Nat.le_of_ble_eq_true rfl) ?_
  dsimp only [pad, ent]
  have hl := hR.2.2.1.2.1
  refine aw_P (P' := fun g' => CrewAt c ks ms g' ∧ g' = g) (fun g' e => by subst e; exact ⟨hR, rfl⟩) ?_
  refine r_aload_n (pc := 0) dX1_isFull_0 rfl ?_
  refine r_Vi (pc := 1) (μ' := mX1_size) dX1_isFull_1 nX1_25 iX1_size vX1_size kX1_size rfl rfl (rr (by decide) rfl) rfl ⟨Nat.zero_le _, Nat.zero_le _⟩ (fun g' q => ct_Crew_size q.1 q) ?_
  refine r_bipush (pc := 4) (v := 6) dX1_isFull_4 (by decide) ?_
  refine r_icmp_lt (pc := 6) 13 dX1_isFull_6 (by decide) (fun c6 => ?_) (fun c6 => ?_)
  · skip
    have k6 := (nI_lt6 (by omega)).mp c6
    refine r_iconst (pc := 13) (v := 0) dX1_isFull_13 (by decide) ?_
    refine r_ireturn (pc := 14) (ty := .boolean) dX1_isFull_14 rfl rfl ⟨Nat.zero_le _, Nat.zero_le _⟩ (fun gE hg => ?_)
    refine ⟨?_, by rw [hg.2]; exact hP⟩
    first
    | (rw [decide_eq_true (by omega)]; rfl)
    | (rw [decide_eq_false (by omega)]; rfl)
  · skip
    have k6 : ¬ ks.length < 6 := fun q => c6 ((nI_lt6 (by omega)).mpr q)
    refine r_iconst (pc := 9) (v := 1) dX1_isFull_9 (by decide) ?_
    refine r_goto (pc := 10) 14 dX1_isFull_10 (by decide) ?_
    refine r_ireturn (pc := 14) (ty := .boolean) dX1_isFull_14 rfl rfl ⟨Nat.zero_le _, Nat.zero_le _⟩ (fun gE hg => ?_)
    refine ⟨?_, by rw [hg.2]; exact hP⟩
    first
    | (rw [decide_eq_true (by omega)]; rfl)
    | (rw [decide_eq_false (by omega)]; rfl)
set_option maxHeartbeats 4000000 in
theorem ct_Crew_has {c : Nat} {ks ms : List Int32} {i : Int32} {g : AH} {P' : AH → Prop} (hR : CrewAt c ks ms g) (hP : P' g) : CV 2 0 0 mX1_has c [.int i] g (fun v g' => v = some (.int (b2i (hasL ks i))) ∧ P' g') := by
  refine ⟨hR.V, ?_⟩
  refine ct_of (by decide) (fun _ _ => Nat.le_of_ble_eq_true rfl) ?_
  dsimp only [pad, ent]
  refine aw_P (P' := fun g' => CrewAt c ks ms g' ∧ g' = g) (fun g' e => by subst e; exact ⟨hR, rfl⟩) ?_
  refine r_aload_n (pc := 0) dX1_has_0 rfl ?_
  refine r_getf (pc := 1) (k := 0) dX1_has_1 hX1 eX1 (by decide) fX1_14 (fun _ q => q.1.o) rfl ?_
  refine r_iload_n (pc := 4) dX1_has_4 rfl ?_
  refine r_Vi (pc := 5) (μ' := mX5_has) dX1_has_5 nX1_28 iX5_has vX5_has kX5_has rfl rfl (rr (by decide) rfl) rfl ⟨Nat.zero_le _, Nat.zero_le _⟩ (fun g' q => ct_Row_has q.1.2.2.1 q) ?_
  refine r_ireturn (pc := 8) (ty := .boolean) dX1_has_8 rfl (by cases hasL ks i <;> rfl) ⟨Nat.zero_le _, Nat.zero_le _⟩ (fun gE hg => ?_)
  exact ⟨rfl, by rw [hg.2]; exact hP⟩
set_option maxHeartbeats 4000000 in
theorem ct_Crew_kindOf {c : Nat} {ks ms : List Int32} {i : Int32} {g : AH} {P' : AH → Prop} (hR : CrewAt c ks ms g) (hP : P' g) : CV 2 0 0 mX1_kindOf c [.int i] g (fun v g' => v = some (.int (atL ks i)) ∧ P' g') := by
  refine ⟨hR.V, ?_⟩
  refine ct_of (by decide) (fun _ _ => Nat.le_of_ble_eq_true rfl) ?_
  dsimp only [pad, ent]
  refine aw_P (P' := fun g' => CrewAt c ks ms g' ∧ g' = g) (fun g' e => by subst e; exact ⟨hR, rfl⟩) ?_
  refine r_aload_n (pc := 0) dX1_kindOf_0 rfl ?_
  refine r_getf (pc := 1) (k := 0) dX1_kindOf_1 hX1 eX1 (by decide) fX1_14 (fun _ q => q.1.o) rfl ?_
  refine r_iload_n (pc := 4) dX1_kindOf_4 rfl ?_
  refine r_Vi (pc := 5) (μ' := mX5_at) dX1_kindOf_5 nX1_32 iX5_at vX5_at kX5_at rfl rfl (rr (by decide) rfl) rfl ⟨Nat.zero_le _, Nat.zero_le _⟩ (fun g' q => ct_Row_at q.1.2.2.1 q) ?_
  refine r_ireturn (pc := 8) (ty := .int) dX1_kindOf_8 rfl rfl ⟨Nat.zero_le _, Nat.zero_le _⟩ (fun gE hg => ?_)
  exact ⟨rfl, by rw [hg.2]; exact hP⟩
set_option maxHeartbeats 4000000 in
theorem ct_Crew_numberOf {c : Nat} {ks ms : List Int32} {i : Int32} {g : AH} {P' : AH → Prop} (hR : CrewAt c ks ms g) (hP : P' g) : CV 2 0 0 mX1_numberOf c [.int i] g (fun v g' => v = some (.int (atL ms i)) ∧ P' g') := by
  refine ⟨hR.V, ?_⟩
  refine ct_of (by decide) (fun _ _ => Nat.le_of_ble_eq_true rfl) ?_
  dsimp only [pad, ent]
  refine aw_P (P' := fun g' => CrewAt c ks ms g' ∧ g' = g) (fun g' e => by subst e; exact ⟨hR, rfl⟩) ?_
  refine r_aload_n (pc := 0) dX1_numberOf_0 rfl ?_
  refine r_getf (pc := 1) (k := 1) dX1_numberOf_1 hX1 eX1 (by decide) fX1_18 (fun _ q => q.1.o) rfl ?_
  refine r_iload_n (pc := 4) dX1_numberOf_4 rfl ?_
  refine r_Vi (pc := 5) (μ' := mX5_at) dX1_numberOf_5 nX1_32 iX5_at vX5_at kX5_at rfl rfl (rr (by decide) rfl) rfl ⟨Nat.zero_le _, Nat.zero_le _⟩ (fun g' q => ct_Row_at q.1.2.2.2 q) ?_
  refine r_ireturn (pc := 8) (ty := .int) dX1_numberOf_8 rfl rfl ⟨Nat.zero_le _, Nat.zero_le _⟩ (fun gE hg => ?_)
  exact ⟨rfl, by rw [hg.2]; exact hP⟩
set_option maxHeartbeats 4000000 in
theorem ct_Crew_join {c : Nat} {ks ms : List Int32} {km : Int32} {g : AH} {P' : AH → Prop} (hR : CrewAt c ks ms g) (hP : ∀ g', CrewAt c (addL 6 ks (km / 10)) (addL 6 ms (km % 10)) g' → Off c 5 g g' → P' g') : CV 3 0 0 mX1_join c [.int km] g (fun v g' => v = some (.int (nI (addL 6 ks (km / 10)).length - 1)) ∧ P' g') := by
  refine ⟨hR.V, ?_⟩
  refine ct_of (by decide) (fun _ _ => Nat.le_of_ble_eq_true rfl) ?_
  dsimp only [pad, ent]
  refine aw_P (P' := fun g' => CrewAt c ks ms g' ∧ Off c 5 g g') (fun g' e => by subst e; exact ⟨hR, Off.rf _ _ _⟩) ?_
  refine r_aload_n (pc := 0) dX1_join_0 rfl ?_
  refine r_getf (pc := 1) (k := 0) dX1_join_1 hX1 eX1 (by decide) fX1_14 (fun _ q => q.1.o) rfl ?_
  refine r_iload_n (pc := 4) dX1_join_4 rfl ?_
  refine r_bipush (pc := 5) (v := 10) dX1_join_5 (by decide) ?_
  refine r_idiv (pc := 7) dX1_join_7 (by decide) ?_
  refine r_Vi (pc := 8) (μ' := mX5_add) dX1_join_8 nX1_36 iX5_add vX5_add kX5_add rfl rfl (rr (by decide) rfl) rfl ⟨Nat.zero_le _, Nat.zero_le _⟩ (fun g' q => ct_Row_add (P' := fun g' => CrewAt c (addL 6 ks (km / 10)) ms g' ∧ Off c 5 g g') q.1.2.2.1 (fun g2 a b => ⟨q.1.setK a b, q.2.tr (b.wide (by omega) (by omega))⟩)) ?_
  refine r_pop (pc := 11) dX1_join_11 rfl ?_
  refine r_aload_n (pc := 12) dX1_join_12 rfl ?_
  refine r_getf (pc := 13) (k := 1) dX1_join_13 hX1 eX1 (by decide) fX1_18 (fun _ q => q.1.o) rfl ?_
  refine r_iload_n (pc := 16) dX1_join_16 rfl ?_
  refine r_bipush (pc := 17) (v := 10) dX1_join_17 (by decide) ?_
  refine r_irem' (pc := 19) dX1_join_19 (by decide) ?_
  refine r_Vi (pc := 20) (μ' := mX5_add) dX1_join_20 nX1_36 iX5_add vX5_add kX5_add rfl rfl (rr (by decide) rfl) rfl ⟨Nat.zero_le _, Nat.zero_le _⟩ (fun g' q => ct_Row_add (P' := fun g' => CrewAt c (addL 6 ks (km / 10)) (addL 6 ms (km % 10)) g' ∧ Off c 5 g g') q.1.2.2.2 (fun g2 a b => ⟨q.1.setM a b, q.2.tr (b.wide (by omega) (by omega))⟩)) ?_
  refine r_pop (pc := 23) dX1_join_23 rfl ?_
  refine r_aload_n (pc := 24) dX1_join_24 rfl ?_
  refine r_Vi (pc := 25) (μ' := mX1_size) dX1_join_25 nX1_25 iX1_size vX1_size kX1_size rfl rfl (rr (by decide) rfl) rfl ⟨Nat.zero_le _, Nat.zero_le _⟩ (fun g' q => ct_Crew_size q.1 q) ?_
  refine r_iconst (pc := 28) (v := 1) dX1_join_28 (by decide) ?_
  refine r_isub (pc := 29) dX1_join_29 ?_
  refine r_ireturn (pc := 30) (ty := .int) dX1_join_30 rfl rfl ⟨Nat.zero_le _, Nat.zero_le _⟩ (fun gE hg => ?_)
  exact ⟨rfl, hP _ hg.1 hg.2⟩
set_option maxHeartbeats 4000000 in
theorem ct_Crew_turnInto {c : Nat} {ks ms : List Int32} {i km : Int32} {g : AH} {P' : AH → Prop} (hR : CrewAt c ks ms g) (hP : ∀ g', CrewAt c (wrL ks i (km / 10)) (wrL ms i (km % 10)) g' → Off c 5 g g' → P' g') : CV 3 0 0 mX1_turnInto c [.int i, .int km] g (fun v g' => v = some (.int (atL ks i)) ∧ P' g') := by
  refine ⟨hR.V, ?_⟩
  refine ct_of (by decide) (fun _ _ => Nat.le_of_ble_eq_true rfl) ?_
  dsimp only [pad, ent]
  refine aw_P (P' := fun g' => CrewAt c ks ms g' ∧ Off c 5 g g') (fun g' e => by subst e; exact ⟨hR, Off.rf _ _ _⟩) ?_
  refine r_aload_n (pc := 0) dX1_turnInto_0 rfl ?_
  refine r_iload_n (pc := 1) dX1_turnInto_1 rfl ?_
  refine r_Vi (pc := 2) (μ' := mX1_kindOf) dX1_turnInto_2 nX1_39 iX1_kindOf vX1_kindOf kX1_kindOf rfl rfl (rr (by decide) rfl) rfl ⟨Nat.zero_le _, Nat.zero_le _⟩ (fun g' q => ct_Crew_kindOf q.1 q) ?_
  refine r_istore_n (pc := 5) dX1_turnInto_5 rfl (Nat.le_of_ble_eq_true rfl) rfl ?_
  dsimp only [lset]
  refine r_aload_n (pc := 6) dX1_turnInto_6 rfl ?_
  refine r_getf (pc := 7) (k := 0) dX1_turnInto_7 hX1 eX1 (by decide) fX1_14 (fun _ q => q.1.o) rfl ?_
  refine r_iload_n (pc := 10) dX1_turnInto_10 rfl ?_
  refine r_iload_n (pc := 11) dX1_turnInto_11 rfl ?_
  refine r_bipush (pc := 12) (v := 10) dX1_turnInto_12 (by decide) ?_
  refine r_idiv (pc := 14) dX1_turnInto_14 (by decide) ?_
  refine r_Vv (pc := 15) (μ' := mX5_write) dX1_turnInto_15 nX1_42 iX5_write vX5_write kX5_write rfl rfl (rr (by decide) rfl) rfl ⟨Nat.zero_le _, Nat.zero_le _⟩ (fun g' q => ct_Row_write (P' := fun g' => CrewAt c (wrL ks i (km / 10)) ms g' ∧ Off c 5 g g') q.1.2.2.1 (fun g2 a b => ⟨q.1.setK a b, q.2.tr (b.wide (by omega) (by omega))⟩)) ?_
  refine r_aload_n (pc := 18) dX1_turnInto_18 rfl ?_
  refine r_getf (pc := 19) (k := 1) dX1_turnInto_19 hX1 eX1 (by decide) fX1_18 (fun _ q => q.1.o) rfl ?_
  refine r_iload_n (pc := 22) dX1_turnInto_22 rfl ?_
  refine r_iload_n (pc := 23) dX1_turnInto_23 rfl ?_
  refine r_bipush (pc := 24) (v := 10) dX1_turnInto_24 (by decide) ?_
  refine r_irem' (pc := 26) dX1_turnInto_26 (by decide) ?_
  refine r_Vv (pc := 27) (μ' := mX5_write) dX1_turnInto_27 nX1_42 iX5_write vX5_write kX5_write rfl rfl (rr (by decide) rfl) rfl ⟨Nat.zero_le _, Nat.zero_le _⟩ (fun g' q => ct_Row_write (P' := fun g' => CrewAt c (wrL ks i (km / 10)) (wrL ms i (km % 10)) g' ∧ Off c 5 g g') q.1.2.2.2 (fun g2 a b => ⟨q.1.setM a b, q.2.tr (b.wide (by omega) (by omega))⟩)) ?_
  refine r_iload_n (pc := 30) dX1_turnInto_30 rfl ?_
  refine r_ireturn (pc := 31) (ty := .int) dX1_turnInto_31 rfl rfl ⟨Nat.zero_le _, Nat.zero_le _⟩ (fun gE hg => ?_)
  exact ⟨rfl, hP _ hg.1 hg.2⟩
theorem take_all {l : List Int32} {n : Nat} (h : l.length ≤ n) : l.take n = l := List.take_of_length_le h
set_option maxHeartbeats 4000000 in
theorem ct_Crew_take {c c2 : Nat} {ks ms ks2 ms2 : List Int32} {g : AH} {P' : AH → Prop} (hR : CrewAt c ks ms g) (hR2 : CrewAt c2 ks2 ms2 g) (hd : c + 5 ≤ c2 ∨ c2 + 5 ≤ c) (hP : ∀ g', CrewAt c ks2 ms2 g' → Off c 5 g g' → P' g') : CV 3 0 0 mX1_take c [.ref c2] g (fun v g' => v = none ∧ P' g') := by
  refine ⟨hR.V, ?_⟩
  refine ct_of (by decide) (fun _ _ => Nat.le_of_ble_eq_true rfl) ?_
  dsimp only [pad, ent]
  have hl1 := hR2.2.2.1.2.1
  have hl2 := hR2.2.2.2.2.1
  refine aw_P (P' := fun g' => CrewAt c ks ms g' ∧ Off c 5 g g') (fun g' e => by subst e; exact ⟨hR, Off.rf _ _ _⟩) ?_
  refine r_aload_n (pc := 0) dX1_take_0 rfl ?_
  refine r_getf (pc := 1) (k := 0) dX1_take_1 hX1 eX1 (by decide) fX1_14 (fun _ q => q.1.o) rfl ?_
  refine r_aload_n (pc := 4) dX1_take_4 rfl ?_
  refine r_getf (pc := 5) (k := 0) dX1_take_5 hX1 eX1 (by decide) fX1_14 (fun _ q => (hR2.off q.2 (by omega)).o) rfl ?_
  refine r_Vv (pc := 8) (μ' := mX5_take) dX1_take_8 nX1_46 iX5_take vX5_take kX5_take rfl rfl (rr (by decide) rfl) rfl ⟨Nat.zero_le _, Nat.zero_le _⟩ (fun g' q => ct_Row_take (P' := fun g' => CrewAt c ks2 ms g' ∧ Off c 5 g g') q.1.2.2.1 (hR2.off q.2 (by omega)).2.2.1 (by omega) (fun g2 a b => by rw [take_all hl1] at a; exact ⟨q.1.setK a b, q.2.tr (b.wide (by omega) (by omega))⟩)) ?_
  refine r_aload_n (pc := 11) dX1_take_11 rfl ?_
  refine r_getf (pc := 12) (k := 1) dX1_take_12 hX1 eX1 (by decide) fX1_18 (fun _ q => q.1.o) rfl ?_
  refine r_aload_n (pc := 15) dX1_take_15 rfl ?_
  refine r_getf (pc := 16) (k := 1) dX1_take_16 hX1 eX1 (by decide) fX1_18 (fun _ q => (hR2.off q.2 (by omega)).o) rfl ?_
  refine r_Vv (pc := 19) (μ' := mX5_take) dX1_take_19 nX1_46 iX5_take vX5_take kX5_take rfl rfl (rr (by decide) rfl) rfl ⟨Nat.zero_le _, Nat.zero_le _⟩ (fun g' q => ct_Row_take (P' := fun g' => CrewAt c ks2 ms2 g' ∧ Off c 5 g g') q.1.2.2.2 (hR2.off q.2 (by omega)).2.2.2 (by omega) (fun g2 a b => by rw [take_all hl2] at a; exact ⟨q.1.setM a b, q.2.tr (b.wide (by omega) (by omega))⟩)) ?_
  refine r_return (pc := 22) dX1_take_22 rfl ⟨Nat.zero_le _, Nat.zero_le _⟩ (fun gE hg => ?_)
  exact ⟨rfl, hP _ hg.1 hg.2⟩
-- ===== sheets =====
def SheetAt (s : Nat) (bits : Int32) (l : List Int32) (g : AH) : Prop := s < g.1 ∧ g.2 s = .inr (.inr (5, [.ref (s + 1), .int bits])) ∧ RowAt (s + 1) 40 l g
theorem SheetAt.o {s : Nat} {bits : Int32} {l : List Int32} {g : AH} (q : SheetAt s bits l g) : s < g.1 ∧ g.2 s = .inr (.inr (5, [.ref (s + 1), .int bits])) := ⟨q.1, q.2.1⟩
theorem SheetAt.V {s : Nat} {bits : Int32} {l : List Int32} {g : AH} (q : SheetAt s bits l g) : ∃ (fs : List Value) (T : u_T) (N : Nat), s < g.1 ∧ g.2 s = .inr (.inr (5, fs)) ∧ vwCl[5]? = some (RX6, T, N) := ⟨_, _, _, q.1, q.2.1, rfl⟩
theorem SheetAt.off {s : Nat} {bits : Int32} {l : List Int32} {h g : AH} (q : SheetAt s bits l h) {lo w : Nat} (o : Off lo w h g) (hd : s + 3 ≤ lo ∨ lo + w ≤ s) : SheetAt s bits l g :=
  ⟨by rw [o.1]; exact q.1, by rw [o.2 s (by omega)]; exact q.2.1, q.2.2.off o (by omega)⟩
theorem SheetAt.setL {s : Nat} {bits : Int32} {l l' : List Int32} {h g : AH} (q : SheetAt s bits l h) (hR : RowAt (s + 1) 40 l' g) (o : Off (s + 1) 2 h g) : SheetAt s bits l' g :=
  ⟨by rw [o.1]; exact q.1, by rw [o.2 s (by omega)]; exact q.2.1, hR⟩
theorem Off.set {h g : AH} {lo w i : Nat} {x : AE} (o : Off lo w h g) (h1 : lo ≤ i) (h2 : i < lo + w) : Off lo w h (hset g i x) := ⟨o.1, fun j hj => by rw [hset_ne _ _ (by omega)]; exact o.2 j hj⟩
theorem Off.one {g : AH} {i : Nat} {x : AE} : Off i 1 g (hset g i x) := ⟨rfl, fun j hj => hset_ne _ _ (by omega)⟩
theorem SheetAt.putB {s : Nat} {bits bits' : Int32} {l : List Int32} {g : AH} (q : SheetAt s bits l g) : SheetAt s bits' l (hset g s (.inr (.inr (5, [.ref (s + 1), .int bits'])))) :=
  ⟨q.1, hset_same _ _ _, q.2.2.off Off.one (by omega)⟩
set_option maxHeartbeats 4000000 in
theorem ct_Sheet_isWidth {k : Int32} (g : AH) : CT 1 0 0 mX6_isWidth [.int k] g (fun v g' => v = some (.int (b2i (decide (k = 0 ∨ k = 8 ∨ k = 16 ∨ k = 32)))) ∧ g' = g) := by
  refine ct_of (by decide) (fun _ _ => Nat.le_of_ble_eq_true rfl) ?_
  dsimp only [pad, ent]
  refine r_iload_n (pc := 0) dX6_isWidth_0 rfl ?_
  refine r_if_eq (pc := 1) 22 dX6_isWidth_1 (by decide) (fun c1 => ?_) (fun c1 => ?_)
  · skip
    refine r_iconst (pc := 22) (v := 1) dX6_isWidth_22 (by decide) ?_
    refine r_goto (pc := 23) 27 dX6_isWidth_23 (by decide) ?_
    refine r_ireturn (pc := 27) (ty := .boolean) dX6_isWidth_27 rfl rfl ⟨Nat.zero_le _, Nat.zero_le _⟩ (fun gE hg => ?_)
    refine ⟨?_, hg⟩
    first
    | (rw [decide_eq_true (by simp only [*, true_or, or_true])]; rfl)
    | (rw [decide_eq_false (by simp only [*, or_self, not_false_eq_true])]; rfl)
  · skip
    refine r_iload_n (pc := 4) dX6_isWidth_4 rfl ?_
    refine r_bipush (pc := 5) (v := 8) dX6_isWidth_5 (by decide) ?_
    refine r_icmp_eq (pc := 7) 22 dX6_isWidth_7 (by decide) (fun c7 => ?_) (fun c7 => ?_)
    · skip
      refine r_iconst (pc := 22) (v := 1) dX6_isWidth_22 (by decide) ?_
      refine r_goto (pc := 23) 27 dX6_isWidth_23 (by decide) ?_
      refine r_ireturn (pc := 27) (ty := .boolean) dX6_isWidth_27 rfl rfl ⟨Nat.zero_le _, Nat.zero_le _⟩ (fun gE hg => ?_)
      refine ⟨?_, hg⟩
      first
      | (rw [decide_eq_true (by simp only [*, true_or, or_true])]; rfl)
      | (rw [decide_eq_false (by simp only [*, or_self, not_false_eq_true])]; rfl)
    · skip
      refine r_iload_n (pc := 10) dX6_isWidth_10 rfl ?_
      refine r_bipush (pc := 11) (v := 16) dX6_isWidth_11 (by decide) ?_
      refine r_icmp_eq (pc := 13) 22 dX6_isWidth_13 (by decide) (fun c13 => ?_) (fun c13 => ?_)
      · skip
        refine r_iconst (pc := 22) (v := 1) dX6_isWidth_22 (by decide) ?_
        refine r_goto (pc := 23) 27 dX6_isWidth_23 (by decide) ?_
        refine r_ireturn (pc := 27) (ty := .boolean) dX6_isWidth_27 rfl rfl ⟨Nat.zero_le _, Nat.zero_le _⟩ (fun gE hg => ?_)
        refine ⟨?_, hg⟩
        first
        | (rw [decide_eq_true (by simp only [*, true_or, or_true])]; rfl)
        | (rw [decide_eq_false (by simp only [*, or_self, not_false_eq_true])]; rfl)
      · skip
        refine r_iload_n (pc := 16) dX6_isWidth_16 rfl ?_
        refine r_bipush (pc := 17) (v := 32) dX6_isWidth_17 (by decide) ?_
        refine r_icmp_ne (pc := 19) 26 dX6_isWidth_19 (by decide) (fun c19 => ?_) (fun c19 => ?_)
        · skip
          refine r_iconst (pc := 26) (v := 0) dX6_isWidth_26 (by decide) ?_
          refine r_ireturn (pc := 27) (ty := .boolean) dX6_isWidth_27 rfl rfl ⟨Nat.zero_le _, Nat.zero_le _⟩ (fun gE hg => ?_)
          refine ⟨?_, hg⟩
          first
          | (rw [decide_eq_true (by simp only [*, true_or, or_true])]; rfl)
          | (rw [decide_eq_false (by simp only [*, or_self, not_false_eq_true])]; rfl)
        · skip
          refine r_iconst (pc := 22) (v := 1) dX6_isWidth_22 (by decide) ?_
          refine r_goto (pc := 23) 27 dX6_isWidth_23 (by decide) ?_
          refine r_ireturn (pc := 27) (ty := .boolean) dX6_isWidth_27 rfl rfl ⟨Nat.zero_le _, Nat.zero_le _⟩ (fun gE hg => ?_)
          refine ⟨?_, hg⟩
          first
          | (rw [decide_eq_true (by simp only [*, true_or, or_true])]; rfl)
          | (rw [decide_eq_false (by simp only [*, or_self, not_false_eq_true])]; rfl)
set_option maxHeartbeats 4000000 in
theorem ct_Sheet_isMissing {s : Nat} {bits : Int32} {l : List Int32} {g : AH} {P' : AH → Prop} (hR : SheetAt s bits l g) (hP : P' g) : CV 1 0 0 mX6_isMissing s [] g (fun v g' => v = some (.int (b2i (decide (bits = 0)))) ∧ P' g') := by
  refine ⟨hR.V, ?_⟩
  refine ct_of (by decide) (fun _ _ => Nat.le_of_ble_eq_true rfl) ?_
  dsimp only [pad, ent]
  refine aw_P (P' := fun g' => SheetAt s bits l g' ∧ g' = g) (fun g' e => by subst e; exact ⟨hR, rfl⟩) ?_
  refine r_aload_n (pc := 0) dX6_isMissing_0 rfl ?_
  refine r_getf (pc := 1) (k := 1) dX6_isMissing_1 hX6 eX6 (by decide) fX6_18 (fun _ q => q.1.o) rfl ?_
  refine r_if_ne (pc := 4) 11 dX6_isMissing_4 (by decide) (fun c4 => ?_) (fun c4 => ?_)
  · skip
    refine r_iconst (pc := 11) (v := 0) dX6_isMissing_11 (by decide) ?_
    refine r_ireturn (pc := 12) (ty := .boolean) dX6_isMissing_12 rfl rfl ⟨Nat.zero_le _, Nat.zero_le _⟩ (fun gE hg => ?_)
    refine ⟨?_, by rw [hg.2]; exact hP⟩
    first
    | (rw [decide_eq_true c4]; rfl)
    | (rw [decide_eq_false c4]; rfl)
  · skip
    refine r_iconst (pc := 7) (v := 1) dX6_isMissing_7 (by decide) ?_
    refine r_goto (pc := 8) 12 dX6_isMissing_8 (by decide) ?_
    refine r_ireturn (pc := 12) (ty := .boolean) dX6_isMissing_12 rfl rfl ⟨Nat.zero_le _, Nat.zero_le _⟩ (fun gE hg => ?_)
    refine ⟨?_, by rw [hg.2]; exact hP⟩
    first
    | (rw [decide_eq_true c4]; rfl)
    | (rw [decide_eq_false c4]; rfl)
set_option maxHeartbeats 4000000 in
theorem ct_Sheet_bits {s : Nat} {bits : Int32} {l : List Int32} {g : AH} {P' : AH → Prop} (hR : SheetAt s bits l g) (hP : P' g) : CV 1 0 0 mX6_bits s [] g (fun v g' => v = some (.int bits) ∧ P' g') := by
  refine ⟨hR.V, ?_⟩
  refine ct_of (by decide) (fun _ _ => Nat.le_of_ble_eq_true rfl) ?_
  dsimp only [pad, ent]
  refine aw_P (P' := fun g' => SheetAt s bits l g' ∧ g' = g) (fun g' e => by subst e; exact ⟨hR, rfl⟩) ?_
  refine r_aload_n (pc := 0) dX6_bits_0 rfl ?_
  refine r_getf (pc := 1) (k := 1) dX6_bits_1 hX6 eX6 (by decide) fX6_18 (fun _ q => q.1.o) rfl ?_
  refine r_ireturn (pc := 4) (ty := .int) dX6_bits_4 rfl rfl ⟨Nat.zero_le _, Nat.zero_le _⟩ (fun gE hg => ?_)
  exact ⟨rfl, by rw [hg.2]; exact hP⟩
set_option maxHeartbeats 4000000 in
theorem ct_Sheet_remove {s : Nat} {bits : Int32} {l : List Int32} {g : AH} {P' : AH → Prop} (hR : SheetAt s bits l g) (hP : ∀ g', SheetAt s 0 [] g' → Off s 3 g g' → P' g') : CV 2 0 0 mX6_remove s [] g (fun v g' => v = none ∧ P' g') := by
  refine ⟨hR.V, ?_⟩
  refine ct_of (by decide) (fun _ _ => Nat.le_of_ble_eq_true rfl) ?_
  dsimp only [pad, ent]
  refine aw_P (P' := fun g' => SheetAt s bits l g' ∧ Off s 3 g g') (fun g' e => by subst e; exact ⟨hR, Off.rf _ _ _⟩) ?_
  refine r_aload_n (pc := 0) dX6_remove_0 rfl ?_
  refine r_iconst (pc := 1) (v := 0) dX6_remove_1 (by decide) ?_
  refine r_putf (pc := 2) (k := 1) (P' := fun g' => SheetAt s 0 l g' ∧ Off s 3 g g') tyX6 dX6_remove_2 hX6 tyX6_ok nmX6 eX6 (by decide) fX6_18 rfl rfl (fun _ _ => rfl) (fun _ _ => rfl) (Nat.le_of_ble_eq_true rfl) (fun _ q => q.1.o) (fun _ q => ⟨q.1.putB, q.2.set (by omega) (by omega)⟩) ?_
  refine r_aload_n (pc := 5) dX6_remove_5 rfl ?_
  refine r_getf (pc := 6) (k := 0) dX6_remove_6 hX6 eX6 (by decide) fX6_14 (fun _ q => q.1.o) rfl ?_
  refine r_Vv (pc := 9) (μ' := mX5_clear) dX6_remove_9 nX6_22 iX5_clear vX5_clear kX5_clear rfl rfl (rr (by decide) rfl) rfl ⟨Nat.zero_le _, Nat.zero_le _⟩ (fun g' q => ct_Row_clear (P' := fun g' => SheetAt s 0 [] g' ∧ Off s 3 g g') q.1.2.2 (fun g2 a b => ⟨q.1.setL a b, q.2.tr (b.wide (by omega) (by omega))⟩)) ?_
  refine r_return (pc := 12) dX6_remove_12 rfl ⟨Nat.zero_le _, Nat.zero_le _⟩ (fun gE hg => ?_)
  exact ⟨rfl, hP _ hg.1 hg.2⟩
set_option maxHeartbeats 4000000 in
theorem ct_Sheet_renew {s : Nat} {bits nb n : Int32} {l : List Int32} {g : AH} {P' : AH → Prop} (hR : SheetAt s bits l g) (hP : ∀ g', SheetAt s nb (List.replicate (clampI n 40) 0) g' → Off s 3 g g' → P' g') : CV 3 0 0 mX6_renew s [.int nb, .int n] g (fun v g' => v = none ∧ P' g') := by
  refine ⟨hR.V, ?_⟩
  refine ct_of (by decide) (fun _ _ => Nat.le_of_ble_eq_true rfl) ?_
  dsimp only [pad, ent]
  refine aw_P (P' := fun g' => SheetAt s bits l g' ∧ Off s 3 g g') (fun g' e => by subst e; exact ⟨hR, Off.rf _ _ _⟩) ?_
  refine r_aload_n (pc := 0) dX6_renew_0 rfl ?_
  refine r_iload_n (pc := 1) dX6_renew_1 rfl ?_
  refine r_putf (pc := 2) (k := 1) (P' := fun g' => SheetAt s nb l g' ∧ Off s 3 g g') tyX6 dX6_renew_2 hX6 tyX6_ok nmX6 eX6 (by decide) fX6_18 rfl rfl (fun _ _ => rfl) (fun _ _ => rfl) (Nat.le_of_ble_eq_true rfl) (fun _ q => q.1.o) (fun _ q => ⟨q.1.putB, q.2.set (by omega) (by omega)⟩) ?_
  refine r_aload_n (pc := 5) dX6_renew_5 rfl ?_
  refine r_getf (pc := 6) (k := 0) dX6_renew_6 hX6 eX6 (by decide) fX6_14 (fun _ q => q.1.o) rfl ?_
  refine r_iload_n (pc := 9) dX6_renew_9 rfl ?_
  refine r_iconst (pc := 10) (v := 0) dX6_renew_10 (by decide) ?_
  refine r_Vv (pc := 11) (μ' := mX5_fill) dX6_renew_11 nX6_25 iX5_fill vX5_fill kX5_fill rfl rfl (rr (by decide) rfl) rfl ⟨Nat.zero_le _, Nat.zero_le _⟩ (fun g' q => ct_Row_fill (P' := fun g' => SheetAt s nb (List.replicate (clampI n 40) 0) g' ∧ Off s 3 g g') q.1.2.2 (fun g2 a b => ⟨q.1.setL a b, q.2.tr (b.wide (by omega) (by omega))⟩)) ?_
  refine r_return (pc := 14) dX6_renew_14 rfl ⟨Nat.zero_le _, Nat.zero_le _⟩ (fun gE hg => ?_)
  exact ⟨rfl, hP _ hg.1 hg.2⟩
def narI (bits v : Int32) : Int32 := if bits = 8 then v.toInt8.toInt32 else if bits = 16 then v.toInt16.toInt32 else v
set_option maxHeartbeats 4000000 in
theorem ct_Sheet_write {s : Nat} {bits i x : Int32} {l : List Int32} {g : AH} {P' : AH → Prop} (hR : SheetAt s bits l g) (hP : ∀ g', SheetAt s bits (wrL l i (narI bits x)) g' → Off s 3 g g' → P' g') : CV 2 0 0 mX6_write s [.int i, .int x] g (fun v g' => v = none ∧ P' g') := by
  refine ⟨hR.V, ?_⟩
  refine ct_of (by decide) (fun _ _ => Nat.le_of_ble_eq_true rfl) ?_
  dsimp only [pad, ent]
  unfold narI at hP
  refine aw_P (P' := fun g' => SheetAt s bits l g' ∧ Off s 3 g g') (fun g' e => by subst e; exact ⟨hR, Off.rf _ _ _⟩) ?_
  refine r_aload_n (pc := 0) dX6_write_0 rfl ?_
  refine r_getf (pc := 1) (k := 0) dX6_write_1 hX6 eX6 (by decide) fX6_14 (fun _ q => q.1.o) rfl ?_
  refine r_iload_n (pc := 4) dX6_write_4 rfl ?_
  refine r_aload_n (pc := 5) dX6_write_5 rfl ?_
  refine r_getf (pc := 6) (k := 1) dX6_write_6 hX6 eX6 (by decide) fX6_18 (fun _ q => q.1.o) rfl ?_
  refine r_bipush (pc := 9) (v := 8) dX6_write_9 (by decide) ?_
  refine r_icmp_ne (pc := 11) 19 dX6_write_11 (by decide) (fun c11 => ?_) (fun c11 => ?_)
  · skip
    rw [if_neg c11] at hP
    refine r_aload_n (pc := 19) dX6_write_19 rfl ?_
    refine r_getf (pc := 20) (k := 1) dX6_write_20 hX6 eX6 (by decide) fX6_18 (fun _ q => q.1.o) rfl ?_
    refine r_bipush (pc := 23) (v := 16) dX6_write_23 (by decide) ?_
    refine r_icmp_ne (pc := 25) 33 dX6_write_25 (by decide) (fun c25 => ?_) (fun c25 => ?_)
    · skip
      rw [if_neg c25] at hP
      refine r_iload_n (pc := 33) dX6_write_33 rfl ?_
      refine r_Vv (pc := 34) (μ' := mX5_write) dX6_write_34 nX6_29 iX5_write vX5_write kX5_write rfl rfl (rr (by decide) rfl) rfl ⟨Nat.zero_le _, Nat.zero_le _⟩ (fun g' q => ct_Row_write q.1.2.2 (fun g2 a b => hP g2 (q.1.setL a b) (q.2.tr (b.wide (by omega) (by omega))))) ?_
      refine r_return (pc := 37) dX6_write_37 rfl ⟨Nat.zero_le _, Nat.zero_le _⟩ (fun gE hg => ?_)
      exact ⟨rfl, hg⟩
    · skip
      rw [if_pos c25] at hP
      refine r_iload_n (pc := 28) dX6_write_28 rfl ?_
      refine r_i2s (pc := 29) dX6_write_29 ?_
      refine r_goto (pc := 30) 34 dX6_write_30 (by decide) ?_
      refine r_Vv (pc := 34) (μ' := mX5_write) dX6_write_34 nX6_29 iX5_write vX5_write kX5_write rfl rfl (rr (by decide) rfl) rfl ⟨Nat.zero_le _, Nat.zero_le _⟩ (fun g' q => ct_Row_write q.1.2.2 (fun g2 a b => hP g2 (q.1.setL a b) (q.2.tr (b.wide (by omega) (by omega))))) ?_
      refine r_return (pc := 37) dX6_write_37 rfl ⟨Nat.zero_le _, Nat.zero_le _⟩ (fun gE hg => ?_)
      exact ⟨rfl, hg⟩
  · skip
    rw [if_pos c11] at hP
    refine r_iload_n (pc := 14) dX6_write_14 rfl ?_
    refine r_i2b (pc := 15) dX6_write_15 ?_
    refine r_goto (pc := 16) 34 dX6_write_16 (by decide) ?_
    refine r_Vv (pc := 34) (μ' := mX5_write) dX6_write_34 nX6_29 iX5_write vX5_write kX5_write rfl rfl (rr (by decide) rfl) rfl ⟨Nat.zero_le _, Nat.zero_le _⟩ (fun g' q => ct_Row_write q.1.2.2 (fun g2 a b => hP g2 (q.1.setL a b) (q.2.tr (b.wide (by omega) (by omega))))) ?_
    refine r_return (pc := 37) dX6_write_37 rfl ⟨Nat.zero_le _, Nat.zero_le _⟩ (fun gE hg => ?_)
    exact ⟨rfl, hg⟩
end
section
theorem dX0_init_0 : decode cX0_init 0 = .ok (.aload_n 0, 1) := by decide +kernel
theorem dX0_init_1 : decode cX0_init 1 = .ok (.invokespecial 1, 3) := by decide +kernel
theorem dX0_init_4 : decode cX0_init 4 = .ok (.aload_n 0, 1) := by decide +kernel
theorem dX0_init_5 : decode cX0_init 5 = .ok (.new 7, 3) := by decide +kernel
theorem dX0_init_8 : decode cX0_init 8 = .ok (.dup, 1) := by decide +kernel
theorem dX0_init_9 : decode cX0_init 9 = .ok (.bipush 36, 2) := by decide +kernel
theorem dX0_init_11 : decode cX0_init 11 = .ok (.invokespecial 11, 3) := by decide +kernel
theorem dX0_init_14 : decode cX0_init 14 = .ok (.putfield 14, 3) := by decide +kernel
theorem dX0_init_17 : decode cX0_init 17 = .ok (.aload_n 0, 1) := by decide +kernel
theorem dX0_init_18 : decode cX0_init 18 = .ok (.new 7, 3) := by decide +kernel
theorem dX0_init_21 : decode cX0_init 21 = .ok (.dup, 1) := by decide +kernel
theorem dX0_init_22 : decode cX0_init 22 = .ok (.bipush 36, 2) := by decide +kernel
theorem dX0_init_24 : decode cX0_init 24 = .ok (.invokespecial 11, 3) := by decide +kernel
theorem dX0_init_27 : decode cX0_init 27 = .ok (.putfield 18, 3) := by decide +kernel
theorem dX0_init_30 : decode cX0_init 30 = .ok (.aload_n 0, 1) := by decide +kernel
theorem dX0_init_31 : decode cX0_init 31 = .ok (.iconst 4, 1) := by decide +kernel
theorem dX0_init_32 : decode cX0_init 32 = .ok (.putfield 21, 3) := by decide +kernel
theorem dX0_init_35 : decode cX0_init 35 = .ok (.aload_n 0, 1) := by decide +kernel
theorem dX0_init_36 : decode cX0_init 36 = .ok (.iconst 4, 1) := by decide +kernel
theorem dX0_init_37 : decode cX0_init 37 = .ok (.putfield 25, 3) := by decide +kernel
theorem dX0_init_40 : decode cX0_init 40 = .ok (.aload_n 0, 1) := by decide +kernel
theorem dX0_init_41 : decode cX0_init 41 = .ok (.iconst 0, 1) := by decide +kernel
theorem dX0_init_42 : decode cX0_init 42 = .ok (.putfield 28, 3) := by decide +kernel
theorem dX0_init_45 : decode cX0_init 45 = .ok (.aload_n 0, 1) := by decide +kernel
theorem dX0_init_46 : decode cX0_init 46 = .ok (.iconst 3, 1) := by decide +kernel
theorem dX0_init_47 : decode cX0_init 47 = .ok (.putfield 31, 3) := by decide +kernel
theorem dX0_init_50 : decode cX0_init 50 = .ok (.aload_n 0, 1) := by decide +kernel
theorem dX0_init_51 : decode cX0_init 51 = .ok (.bipush 20, 2) := by decide +kernel
theorem dX0_init_53 : decode cX0_init 53 = .ok (.putfield 34, 3) := by decide +kernel
theorem dX0_init_56 : decode cX0_init 56 = .ok (.aload_n 0, 1) := by decide +kernel
theorem dX0_init_57 : decode cX0_init 57 = .ok (.iconst 0, 1) := by decide +kernel
theorem dX0_init_58 : decode cX0_init 58 = .ok (.putfield 37, 3) := by decide +kernel
theorem dX0_init_61 : decode cX0_init 61 = .ok (.aload_n 0, 1) := by decide +kernel
theorem dX0_init_62 : decode cX0_init 62 = .ok (.bipush 20, 2) := by decide +kernel
theorem dX0_init_64 : decode cX0_init 64 = .ok (.putfield 40, 3) := by decide +kernel
theorem dX0_init_67 : decode cX0_init 67 = .ok (.aload_n 0, 1) := by decide +kernel
theorem dX0_init_68 : decode cX0_init 68 = .ok (.iconst 0, 1) := by decide +kernel
theorem dX0_init_69 : decode cX0_init 69 = .ok (.putfield 43, 3) := by decide +kernel
theorem dX0_init_72 : decode cX0_init 72 = .ok (.aload_n 0, 1) := by decide +kernel
theorem dX0_init_73 : decode cX0_init 73 = .ok (.getfield 14, 3) := by decide +kernel
theorem dX0_init_76 : decode cX0_init 76 = .ok (.aload_n 0, 1) := by decide +kernel
theorem dX0_init_77 : decode cX0_init 77 = .ok (.getfield 21, 3) := by decide +kernel
theorem dX0_init_80 : decode cX0_init 80 = .ok (.aload_n 0, 1) := by decide +kernel
theorem dX0_init_81 : decode cX0_init 81 = .ok (.getfield 25, 3) := by decide +kernel
theorem dX0_init_84 : decode cX0_init 84 = .ok (.imul, 1) := by decide +kernel
theorem dX0_init_85 : decode cX0_init 85 = .ok (.iconst (-1), 1) := by decide +kernel
theorem dX0_init_86 : decode cX0_init 86 = .ok (.invokevirtual 46, 3) := by decide +kernel
theorem dX0_init_89 : decode cX0_init 89 = .ok (.aload_n 0, 1) := by decide +kernel
theorem dX0_init_90 : decode cX0_init 90 = .ok (.getfield 18, 3) := by decide +kernel
theorem dX0_init_93 : decode cX0_init 93 = .ok (.aload_n 0, 1) := by decide +kernel
theorem dX0_init_94 : decode cX0_init 94 = .ok (.getfield 21, 3) := by decide +kernel
theorem dX0_init_97 : decode cX0_init 97 = .ok (.aload_n 0, 1) := by decide +kernel
theorem dX0_init_98 : decode cX0_init 98 = .ok (.getfield 25, 3) := by decide +kernel
theorem dX0_init_101 : decode cX0_init 101 = .ok (.imul, 1) := by decide +kernel
theorem dX0_init_102 : decode cX0_init 102 = .ok (.iconst 0, 1) := by decide +kernel
theorem dX0_init_103 : decode cX0_init 103 = .ok (.invokevirtual 46, 3) := by decide +kernel
theorem dX0_init_106 : decode cX0_init 106 = .ok (.return_, 1) := by decide +kernel
theorem dX0_build_0 : decode cX0_build 0 = .ok (.aload_n 0, 1) := by decide +kernel
theorem dX0_build_1 : decode cX0_build 1 = .ok (.iload_n 1, 1) := by decide +kernel
theorem dX0_build_2 : decode cX0_build 2 = .ok (.putfield 21, 3) := by decide +kernel
theorem dX0_build_5 : decode cX0_build 5 = .ok (.aload_n 0, 1) := by decide +kernel
theorem dX0_build_6 : decode cX0_build 6 = .ok (.iload_n 2, 1) := by decide +kernel
theorem dX0_build_7 : decode cX0_build 7 = .ok (.putfield 25, 3) := by decide +kernel
theorem dX0_build_10 : decode cX0_build 10 = .ok (.aload_n 0, 1) := by decide +kernel
theorem dX0_build_11 : decode cX0_build 11 = .ok (.getfield 14, 3) := by decide +kernel
theorem dX0_build_14 : decode cX0_build 14 = .ok (.aload_n 0, 1) := by decide +kernel
theorem dX0_build_15 : decode cX0_build 15 = .ok (.getfield 21, 3) := by decide +kernel
theorem dX0_build_18 : decode cX0_build 18 = .ok (.aload_n 0, 1) := by decide +kernel
theorem dX0_build_19 : decode cX0_build 19 = .ok (.getfield 25, 3) := by decide +kernel
theorem dX0_build_22 : decode cX0_build 22 = .ok (.imul, 1) := by decide +kernel
theorem dX0_build_23 : decode cX0_build 23 = .ok (.iconst (-1), 1) := by decide +kernel
theorem dX0_build_24 : decode cX0_build 24 = .ok (.invokevirtual 46, 3) := by decide +kernel
theorem dX0_build_27 : decode cX0_build 27 = .ok (.aload_n 0, 1) := by decide +kernel
theorem dX0_build_28 : decode cX0_build 28 = .ok (.getfield 18, 3) := by decide +kernel
theorem dX0_build_31 : decode cX0_build 31 = .ok (.aload_n 0, 1) := by decide +kernel
theorem dX0_build_32 : decode cX0_build 32 = .ok (.getfield 21, 3) := by decide +kernel
theorem dX0_build_35 : decode cX0_build 35 = .ok (.aload_n 0, 1) := by decide +kernel
theorem dX0_build_36 : decode cX0_build 36 = .ok (.getfield 25, 3) := by decide +kernel
theorem dX0_build_39 : decode cX0_build 39 = .ok (.imul, 1) := by decide +kernel
theorem dX0_build_40 : decode cX0_build 40 = .ok (.iconst 0, 1) := by decide +kernel
theorem dX0_build_41 : decode cX0_build 41 = .ok (.invokevirtual 46, 3) := by decide +kernel
theorem dX0_build_44 : decode cX0_build 44 = .ok (.return_, 1) := by decide +kernel
theorem dX0_rows_0 : decode cX0_rows 0 = .ok (.aload_n 0, 1) := by decide +kernel
theorem dX0_rows_1 : decode cX0_rows 1 = .ok (.getfield 21, 3) := by decide +kernel
theorem dX0_rows_4 : decode cX0_rows 4 = .ok (.ireturn, 1) := by decide +kernel
theorem dX0_strips_0 : decode cX0_strips 0 = .ok (.aload_n 0, 1) := by decide +kernel
theorem dX0_strips_1 : decode cX0_strips 1 = .ok (.getfield 25, 3) := by decide +kernel
theorem dX0_strips_4 : decode cX0_strips 4 = .ok (.ireturn, 1) := by decide +kernel
theorem dX0_cells_0 : decode cX0_cells 0 = .ok (.aload_n 0, 1) := by decide +kernel
theorem dX0_cells_1 : decode cX0_cells 1 = .ok (.getfield 14, 3) := by decide +kernel
theorem dX0_cells_4 : decode cX0_cells 4 = .ok (.invokevirtual 50, 3) := by decide +kernel
theorem dX0_cells_7 : decode cX0_cells 7 = .ok (.ireturn, 1) := by decide +kernel
theorem dX0_minute_0 : decode cX0_minute 0 = .ok (.aload_n 0, 1) := by decide +kernel
theorem dX0_minute_1 : decode cX0_minute 1 = .ok (.getfield 28, 3) := by decide +kernel
theorem dX0_minute_4 : decode cX0_minute 4 = .ok (.ireturn, 1) := by decide +kernel
theorem dX0_heat_0 : decode cX0_heat 0 = .ok (.aload_n 0, 1) := by decide +kernel
theorem dX0_heat_1 : decode cX0_heat 1 = .ok (.getfield 31, 3) := by decide +kernel
theorem dX0_heat_4 : decode cX0_heat 4 = .ok (.ireturn, 1) := by decide +kernel
theorem dX0_left_0 : decode cX0_left 0 = .ok (.aload_n 0, 1) := by decide +kernel
theorem dX0_left_1 : decode cX0_left 1 = .ok (.getfield 34, 3) := by decide +kernel
theorem dX0_left_4 : decode cX0_left 4 = .ok (.ireturn, 1) := by decide +kernel
theorem dX0_canWhite_0 : decode cX0_canWhite 0 = .ok (.aload_n 0, 1) := by decide +kernel
theorem dX0_canWhite_1 : decode cX0_canWhite 1 = .ok (.getfield 37, 3) := by decide +kernel
theorem dX0_canWhite_4 : decode cX0_canWhite 4 = .ok (.ireturn, 1) := by decide +kernel
theorem dX0_canSize_0 : decode cX0_canSize 0 = .ok (.aload_n 0, 1) := by decide +kernel
theorem dX0_canSize_1 : decode cX0_canSize 1 = .ok (.getfield 40, 3) := by decide +kernel
theorem dX0_canSize_4 : decode cX0_canSize 4 = .ok (.ireturn, 1) := by decide +kernel
theorem dX0_cansBegun_0 : decode cX0_cansBegun 0 = .ok (.aload_n 0, 1) := by decide +kernel
theorem dX0_cansBegun_1 : decode cX0_cansBegun 1 = .ok (.getfield 43, 3) := by decide +kernel
theorem dX0_cansBegun_4 : decode cX0_cansBegun 4 = .ok (.ireturn, 1) := by decide +kernel
theorem dX0_isCell_0 : decode cX0_isCell 0 = .ok (.aload_n 0, 1) := by decide +kernel
theorem dX0_isCell_1 : decode cX0_isCell 1 = .ok (.getfield 14, 3) := by decide +kernel
theorem dX0_isCell_4 : decode cX0_isCell 4 = .ok (.iload_n 1, 1) := by decide +kernel
theorem dX0_isCell_5 : decode cX0_isCell 5 = .ok (.invokevirtual 54, 3) := by decide +kernel
theorem dX0_isCell_8 : decode cX0_isCell 8 = .ok (.ireturn, 1) := by decide +kernel
theorem dX0_isStrip_0 : decode cX0_isStrip 0 = .ok (.iload_n 1, 1) := by decide +kernel
theorem dX0_isStrip_1 : decode cX0_isStrip 1 = .ok (.ifCond .lt 15, 3) := by decide +kernel
theorem dX0_isStrip_4 : decode cX0_isStrip 4 = .ok (.iload_n 1, 1) := by decide +kernel
theorem dX0_isStrip_5 : decode cX0_isStrip 5 = .ok (.aload_n 0, 1) := by decide +kernel
theorem dX0_isStrip_6 : decode cX0_isStrip 6 = .ok (.getfield 25, 3) := by decide +kernel
theorem dX0_isStrip_9 : decode cX0_isStrip 9 = .ok (.if_icmp .ge 7, 3) := by decide +kernel
theorem dX0_isStrip_12 : decode cX0_isStrip 12 = .ok (.iconst 1, 1) := by decide +kernel
theorem dX0_isStrip_13 : decode cX0_isStrip 13 = .ok (.goto 4, 3) := by decide +kernel
theorem dX0_isStrip_16 : decode cX0_isStrip 16 = .ok (.iconst 0, 1) := by decide +kernel
theorem dX0_isStrip_17 : decode cX0_isStrip 17 = .ok (.ireturn, 1) := by decide +kernel
theorem dX0_rowOf_0 : decode cX0_rowOf 0 = .ok (.aload_n 0, 1) := by decide +kernel
theorem dX0_rowOf_1 : decode cX0_rowOf 1 = .ok (.getfield 25, 3) := by decide +kernel
theorem dX0_rowOf_4 : decode cX0_rowOf 4 = .ok (.ifCond .le 12, 3) := by decide +kernel
theorem dX0_rowOf_7 : decode cX0_rowOf 7 = .ok (.iload_n 1, 1) := by decide +kernel
theorem dX0_rowOf_8 : decode cX0_rowOf 8 = .ok (.aload_n 0, 1) := by decide +kernel
theorem dX0_rowOf_9 : decode cX0_rowOf 9 = .ok (.getfield 25, 3) := by decide +kernel
theorem dX0_rowOf_12 : decode cX0_rowOf 12 = .ok (.idiv, 1) := by decide +kernel
theorem dX0_rowOf_13 : decode cX0_rowOf 13 = .ok (.goto 4, 3) := by decide +kernel
theorem dX0_rowOf_16 : decode cX0_rowOf 16 = .ok (.iconst 0, 1) := by decide +kernel
theorem dX0_rowOf_17 : decode cX0_rowOf 17 = .ok (.ireturn, 1) := by decide +kernel
theorem dX0_stripOf_0 : decode cX0_stripOf 0 = .ok (.aload_n 0, 1) := by decide +kernel
theorem dX0_stripOf_1 : decode cX0_stripOf 1 = .ok (.getfield 25, 3) := by decide +kernel
theorem dX0_stripOf_4 : decode cX0_stripOf 4 = .ok (.ifCond .le 12, 3) := by decide +kernel
theorem dX0_stripOf_7 : decode cX0_stripOf 7 = .ok (.iload_n 1, 1) := by decide +kernel
theorem dX0_stripOf_8 : decode cX0_stripOf 8 = .ok (.aload_n 0, 1) := by decide +kernel
theorem dX0_stripOf_9 : decode cX0_stripOf 9 = .ok (.getfield 25, 3) := by decide +kernel
theorem dX0_stripOf_12 : decode cX0_stripOf 12 = .ok (.irem, 1) := by decide +kernel
theorem dX0_stripOf_13 : decode cX0_stripOf 13 = .ok (.goto 4, 3) := by decide +kernel
theorem dX0_stripOf_16 : decode cX0_stripOf 16 = .ok (.iconst 0, 1) := by decide +kernel
theorem dX0_stripOf_17 : decode cX0_stripOf 17 = .ok (.ireturn, 1) := by decide +kernel
theorem dX0_whenAt_0 : decode cX0_whenAt 0 = .ok (.aload_n 0, 1) := by decide +kernel
theorem dX0_whenAt_1 : decode cX0_whenAt 1 = .ok (.iload_n 2, 1) := by decide +kernel
theorem dX0_whenAt_2 : decode cX0_whenAt 2 = .ok (.invokevirtual 58, 3) := by decide +kernel
theorem dX0_whenAt_5 : decode cX0_whenAt 5 = .ok (.ifCond .eq 21, 3) := by decide +kernel
theorem dX0_whenAt_8 : decode cX0_whenAt 8 = .ok (.aload_n 0, 1) := by decide +kernel
theorem dX0_whenAt_9 : decode cX0_whenAt 9 = .ok (.getfield 14, 3) := by decide +kernel
theorem dX0_whenAt_12 : decode cX0_whenAt 12 = .ok (.iload_n 1, 1) := by decide +kernel
theorem dX0_whenAt_13 : decode cX0_whenAt 13 = .ok (.aload_n 0, 1) := by decide +kernel
theorem dX0_whenAt_14 : decode cX0_whenAt 14 = .ok (.getfield 25, 3) := by decide +kernel
theorem dX0_whenAt_17 : decode cX0_whenAt 17 = .ok (.imul, 1) := by decide +kernel
theorem dX0_whenAt_18 : decode cX0_whenAt 18 = .ok (.iload_n 2, 1) := by decide +kernel
theorem dX0_whenAt_19 : decode cX0_whenAt 19 = .ok (.iadd, 1) := by decide +kernel
theorem dX0_whenAt_20 : decode cX0_whenAt 20 = .ok (.invokevirtual 61, 3) := by decide +kernel
theorem dX0_whenAt_23 : decode cX0_whenAt 23 = .ok (.goto 4, 3) := by decide +kernel
theorem dX0_whenAt_26 : decode cX0_whenAt 26 = .ok (.iconst (-1), 1) := by decide +kernel
theorem dX0_whenAt_27 : decode cX0_whenAt 27 = .ok (.ireturn, 1) := by decide +kernel
theorem dX0_whiteAt_0 : decode cX0_whiteAt 0 = .ok (.aload_n 0, 1) := by decide +kernel
theorem dX0_whiteAt_1 : decode cX0_whiteAt 1 = .ok (.iload_n 2, 1) := by decide +kernel
theorem dX0_whiteAt_2 : decode cX0_whiteAt 2 = .ok (.invokevirtual 58, 3) := by decide +kernel
theorem dX0_whiteAt_5 : decode cX0_whiteAt 5 = .ok (.ifCond .eq 21, 3) := by decide +kernel
theorem dX0_whiteAt_8 : decode cX0_whiteAt 8 = .ok (.aload_n 0, 1) := by decide +kernel
theorem dX0_whiteAt_9 : decode cX0_whiteAt 9 = .ok (.getfield 18, 3) := by decide +kernel
theorem dX0_whiteAt_12 : decode cX0_whiteAt 12 = .ok (.iload_n 1, 1) := by decide +kernel
theorem dX0_whiteAt_13 : decode cX0_whiteAt 13 = .ok (.aload_n 0, 1) := by decide +kernel
theorem dX0_whiteAt_14 : decode cX0_whiteAt 14 = .ok (.getfield 25, 3) := by decide +kernel
theorem dX0_whiteAt_17 : decode cX0_whiteAt 17 = .ok (.imul, 1) := by decide +kernel
theorem dX0_whiteAt_18 : decode cX0_whiteAt 18 = .ok (.iload_n 2, 1) := by decide +kernel
theorem dX0_whiteAt_19 : decode cX0_whiteAt 19 = .ok (.iadd, 1) := by decide +kernel
theorem dX0_whiteAt_20 : decode cX0_whiteAt 20 = .ok (.invokevirtual 61, 3) := by decide +kernel
theorem dX0_whiteAt_23 : decode cX0_whiteAt 23 = .ok (.goto 4, 3) := by decide +kernel
theorem dX0_whiteAt_26 : decode cX0_whiteAt 26 = .ok (.iconst 0, 1) := by decide +kernel
theorem dX0_whiteAt_27 : decode cX0_whiteAt 27 = .ok (.ireturn, 1) := by decide +kernel
theorem dX0_rolledCells_0 : decode cX0_rolledCells 0 = .ok (.iconst 0, 1) := by decide +kernel
theorem dX0_rolledCells_1 : decode cX0_rolledCells 1 = .ok (.istore_n 1, 1) := by decide +kernel
theorem dX0_rolledCells_2 : decode cX0_rolledCells 2 = .ok (.iconst 0, 1) := by decide +kernel
theorem dX0_rolledCells_3 : decode cX0_rolledCells 3 = .ok (.istore_n 2, 1) := by decide +kernel
theorem dX0_rolledCells_4 : decode cX0_rolledCells 4 = .ok (.iload_n 2, 1) := by decide +kernel
theorem dX0_rolledCells_5 : decode cX0_rolledCells 5 = .ok (.aload_n 0, 1) := by decide +kernel
theorem dX0_rolledCells_6 : decode cX0_rolledCells 6 = .ok (.getfield 14, 3) := by decide +kernel
theorem dX0_rolledCells_9 : decode cX0_rolledCells 9 = .ok (.invokevirtual 50, 3) := by decide +kernel
theorem dX0_rolledCells_12 : decode cX0_rolledCells 12 = .ok (.if_icmp .ge 24, 3) := by decide +kernel
theorem dX0_rolledCells_15 : decode cX0_rolledCells 15 = .ok (.aload_n 0, 1) := by decide +kernel
theorem dX0_rolledCells_16 : decode cX0_rolledCells 16 = .ok (.getfield 14, 3) := by decide +kernel
theorem dX0_rolledCells_19 : decode cX0_rolledCells 19 = .ok (.iload_n 2, 1) := by decide +kernel
theorem dX0_rolledCells_20 : decode cX0_rolledCells 20 = .ok (.invokevirtual 61, 3) := by decide +kernel
theorem dX0_rolledCells_23 : decode cX0_rolledCells 23 = .ok (.iconst (-1), 1) := by decide +kernel
theorem dX0_rolledCells_24 : decode cX0_rolledCells 24 = .ok (.if_icmp .eq 6, 3) := by decide +kernel
theorem dX0_rolledCells_27 : decode cX0_rolledCells 27 = .ok (.iinc 1 1, 3) := by decide +kernel
theorem dX0_rolledCells_30 : decode cX0_rolledCells 30 = .ok (.iinc 2 1, 3) := by decide +kernel
theorem dX0_rolledCells_33 : decode cX0_rolledCells 33 = .ok (.goto (-29), 3) := by decide +kernel
theorem dX0_rolledCells_36 : decode cX0_rolledCells 36 = .ok (.iload_n 1, 1) := by decide +kernel
theorem dX0_rolledCells_37 : decode cX0_rolledCells 37 = .ok (.ireturn, 1) := by decide +kernel
theorem dX0_isSetting_0 : decode cX0_isSetting 0 = .ok (.iload_n 0, 1) := by decide +kernel
theorem dX0_isSetting_1 : decode cX0_isSetting 1 = .ok (.tableswitch 96 0 3 #[31, 47, 63, 79], 31) := by decide +kernel
theorem dX0_isSetting_32 : decode cX0_isSetting 32 = .ok (.iload_n 1, 1) := by decide +kernel
theorem dX0_isSetting_33 : decode cX0_isSetting 33 = .ok (.ifCond .lt 13, 3) := by decide +kernel
theorem dX0_isSetting_36 : decode cX0_isSetting 36 = .ok (.iload_n 1, 1) := by decide +kernel
theorem dX0_isSetting_37 : decode cX0_isSetting 37 = .ok (.bipush 9, 2) := by decide +kernel
theorem dX0_isSetting_39 : decode cX0_isSetting 39 = .ok (.if_icmp .gt 7, 3) := by decide +kernel
theorem dX0_isSetting_42 : decode cX0_isSetting 42 = .ok (.iconst 1, 1) := by decide +kernel
theorem dX0_isSetting_43 : decode cX0_isSetting 43 = .ok (.goto 4, 3) := by decide +kernel
theorem dX0_isSetting_46 : decode cX0_isSetting 46 = .ok (.iconst 0, 1) := by decide +kernel
theorem dX0_isSetting_47 : decode cX0_isSetting 47 = .ok (.ireturn, 1) := by decide +kernel
theorem dX0_isSetting_48 : decode cX0_isSetting 48 = .ok (.iload_n 1, 1) := by decide +kernel
theorem dX0_isSetting_49 : decode cX0_isSetting 49 = .ok (.ifCond .lt 13, 3) := by decide +kernel
theorem dX0_isSetting_52 : decode cX0_isSetting 52 = .ok (.iload_n 1, 1) := by decide +kernel
theorem dX0_isSetting_53 : decode cX0_isSetting 53 = .ok (.bipush 99, 2) := by decide +kernel
theorem dX0_isSetting_55 : decode cX0_isSetting 55 = .ok (.if_icmp .gt 7, 3) := by decide +kernel
theorem dX0_isSetting_58 : decode cX0_isSetting 58 = .ok (.iconst 1, 1) := by decide +kernel
theorem dX0_isSetting_59 : decode cX0_isSetting 59 = .ok (.goto 4, 3) := by decide +kernel
theorem dX0_isSetting_62 : decode cX0_isSetting 62 = .ok (.iconst 0, 1) := by decide +kernel
theorem dX0_isSetting_63 : decode cX0_isSetting 63 = .ok (.ireturn, 1) := by decide +kernel
theorem dX0_isSetting_64 : decode cX0_isSetting 64 = .ok (.iload_n 1, 1) := by decide +kernel
theorem dX0_isSetting_65 : decode cX0_isSetting 65 = .ok (.ifCond .lt 13, 3) := by decide +kernel
theorem dX0_isSetting_68 : decode cX0_isSetting 68 = .ok (.iload_n 1, 1) := by decide +kernel
theorem dX0_isSetting_69 : decode cX0_isSetting 69 = .ok (.bipush 99, 2) := by decide +kernel
theorem dX0_isSetting_71 : decode cX0_isSetting 71 = .ok (.if_icmp .gt 7, 3) := by decide +kernel
theorem dX0_isSetting_74 : decode cX0_isSetting 74 = .ok (.iconst 1, 1) := by decide +kernel
theorem dX0_isSetting_75 : decode cX0_isSetting 75 = .ok (.goto 4, 3) := by decide +kernel
theorem dX0_isSetting_78 : decode cX0_isSetting 78 = .ok (.iconst 0, 1) := by decide +kernel
theorem dX0_isSetting_79 : decode cX0_isSetting 79 = .ok (.ireturn, 1) := by decide +kernel
theorem dX0_isSetting_80 : decode cX0_isSetting 80 = .ok (.iload_n 1, 1) := by decide +kernel
theorem dX0_isSetting_81 : decode cX0_isSetting 81 = .ok (.iconst 1, 1) := by decide +kernel
theorem dX0_isSetting_82 : decode cX0_isSetting 82 = .ok (.if_icmp .lt 13, 3) := by decide +kernel
theorem dX0_isSetting_85 : decode cX0_isSetting 85 = .ok (.iload_n 1, 1) := by decide +kernel
theorem dX0_isSetting_86 : decode cX0_isSetting 86 = .ok (.bipush 99, 2) := by decide +kernel
theorem dX0_isSetting_88 : decode cX0_isSetting 88 = .ok (.if_icmp .gt 7, 3) := by decide +kernel
theorem dX0_isSetting_91 : decode cX0_isSetting 91 = .ok (.iconst 1, 1) := by decide +kernel
theorem dX0_isSetting_92 : decode cX0_isSetting 92 = .ok (.goto 4, 3) := by decide +kernel
theorem dX0_isSetting_95 : decode cX0_isSetting 95 = .ok (.iconst 0, 1) := by decide +kernel
theorem dX0_isSetting_96 : decode cX0_isSetting 96 = .ok (.ireturn, 1) := by decide +kernel
theorem dX0_isSetting_97 : decode cX0_isSetting 97 = .ok (.iconst 0, 1) := by decide +kernel
theorem dX0_isSetting_98 : decode cX0_isSetting 98 = .ok (.ireturn, 1) := by decide +kernel
theorem dX0_change_0 : decode cX0_change 0 = .ok (.iload_n 1, 1) := by decide +kernel
theorem dX0_change_1 : decode cX0_change 1 = .ok (.tableswitch 63 0 2 #[27, 39, 51], 27) := by decide +kernel
theorem dX0_change_28 : decode cX0_change 28 = .ok (.aload_n 0, 1) := by decide +kernel
theorem dX0_change_29 : decode cX0_change 29 = .ok (.getfield 31, 3) := by decide +kernel
theorem dX0_change_32 : decode cX0_change 32 = .ok (.istore_n 3, 1) := by decide +kernel
theorem dX0_change_33 : decode cX0_change 33 = .ok (.aload_n 0, 1) := by decide +kernel
theorem dX0_change_34 : decode cX0_change 34 = .ok (.iload_n 2, 1) := by decide +kernel
theorem dX0_change_35 : decode cX0_change 35 = .ok (.putfield 31, 3) := by decide +kernel
theorem dX0_change_38 : decode cX0_change 38 = .ok (.iload_n 3, 1) := by decide +kernel
theorem dX0_change_39 : decode cX0_change 39 = .ok (.ireturn, 1) := by decide +kernel
theorem dX0_change_40 : decode cX0_change 40 = .ok (.aload_n 0, 1) := by decide +kernel
theorem dX0_change_41 : decode cX0_change 41 = .ok (.getfield 34, 3) := by decide +kernel
theorem dX0_change_44 : decode cX0_change 44 = .ok (.istore_n 3, 1) := by decide +kernel
theorem dX0_change_45 : decode cX0_change 45 = .ok (.aload_n 0, 1) := by decide +kernel
theorem dX0_change_46 : decode cX0_change 46 = .ok (.iload_n 2, 1) := by decide +kernel
theorem dX0_change_47 : decode cX0_change 47 = .ok (.putfield 34, 3) := by decide +kernel
theorem dX0_change_50 : decode cX0_change 50 = .ok (.iload_n 3, 1) := by decide +kernel
theorem dX0_change_51 : decode cX0_change 51 = .ok (.ireturn, 1) := by decide +kernel
theorem dX0_change_52 : decode cX0_change 52 = .ok (.aload_n 0, 1) := by decide +kernel
theorem dX0_change_53 : decode cX0_change 53 = .ok (.getfield 37, 3) := by decide +kernel
theorem dX0_change_56 : decode cX0_change 56 = .ok (.istore_n 3, 1) := by decide +kernel
theorem dX0_change_57 : decode cX0_change 57 = .ok (.aload_n 0, 1) := by decide +kernel
theorem dX0_change_58 : decode cX0_change 58 = .ok (.iload_n 2, 1) := by decide +kernel
theorem dX0_change_59 : decode cX0_change 59 = .ok (.putfield 37, 3) := by decide +kernel
theorem dX0_change_62 : decode cX0_change 62 = .ok (.iload_n 3, 1) := by decide +kernel
theorem dX0_change_63 : decode cX0_change 63 = .ok (.ireturn, 1) := by decide +kernel
theorem dX0_change_64 : decode cX0_change 64 = .ok (.aload_n 0, 1) := by decide +kernel
theorem dX0_change_65 : decode cX0_change 65 = .ok (.getfield 40, 3) := by decide +kernel
theorem dX0_change_68 : decode cX0_change 68 = .ok (.istore_n 3, 1) := by decide +kernel
theorem dX0_change_69 : decode cX0_change 69 = .ok (.aload_n 0, 1) := by decide +kernel
theorem dX0_change_70 : decode cX0_change 70 = .ok (.iload_n 2, 1) := by decide +kernel
theorem dX0_change_71 : decode cX0_change 71 = .ok (.putfield 40, 3) := by decide +kernel
theorem dX0_change_74 : decode cX0_change 74 = .ok (.iload_n 3, 1) := by decide +kernel
theorem dX0_change_75 : decode cX0_change 75 = .ok (.ireturn, 1) := by decide +kernel
theorem dX0_warmTo_0 : decode cX0_warmTo 0 = .ok (.aload_n 0, 1) := by decide +kernel
theorem dX0_warmTo_1 : decode cX0_warmTo 1 = .ok (.iload_n 1, 1) := by decide +kernel
theorem dX0_warmTo_2 : decode cX0_warmTo 2 = .ok (.putfield 31, 3) := by decide +kernel
theorem dX0_warmTo_5 : decode cX0_warmTo 5 = .ok (.return_, 1) := by decide +kernel
theorem dX0_mayBeRolled_0 : decode cX0_mayBeRolled 0 = .ok (.aload_n 0, 1) := by decide +kernel
theorem dX0_mayBeRolled_1 : decode cX0_mayBeRolled 1 = .ok (.getfield 28, 3) := by decide +kernel
theorem dX0_mayBeRolled_4 : decode cX0_mayBeRolled 4 = .ok (.sipush 9900, 3) := by decide +kernel
theorem dX0_mayBeRolled_7 : decode cX0_mayBeRolled 7 = .ok (.if_icmp .gt 7, 3) := by decide +kernel
theorem dX0_mayBeRolled_10 : decode cX0_mayBeRolled 10 = .ok (.iconst 1, 1) := by decide +kernel
theorem dX0_mayBeRolled_11 : decode cX0_mayBeRolled 11 = .ok (.goto 4, 3) := by decide +kernel
theorem dX0_mayBeRolled_14 : decode cX0_mayBeRolled 14 = .ok (.iconst 0, 1) := by decide +kernel
theorem dX0_mayBeRolled_15 : decode cX0_mayBeRolled 15 = .ok (.ireturn, 1) := by decide +kernel
theorem dX0_letPass_0 : decode cX0_letPass 0 = .ok (.aload_n 0, 1) := by decide +kernel
theorem dX0_letPass_1 : decode cX0_letPass 1 = .ok (.dup, 1) := by decide +kernel
theorem dX0_letPass_2 : decode cX0_letPass 2 = .ok (.getfield 28, 3) := by decide +kernel
theorem dX0_letPass_5 : decode cX0_letPass 5 = .ok (.iload_n 1, 1) := by decide +kernel
theorem dX0_letPass_6 : decode cX0_letPass 6 = .ok (.iadd, 1) := by decide +kernel
theorem dX0_letPass_7 : decode cX0_letPass 7 = .ok (.putfield 28, 3) := by decide +kernel
theorem dX0_letPass_10 : decode cX0_letPass 10 = .ok (.return_, 1) := by decide +kernel
theorem dX0_letPassWithinBounds_0 : decode cX0_letPassWithinBounds 0 = .ok (.aload_n 0, 1) := by decide +kernel
theorem dX0_letPassWithinBounds_1 : decode cX0_letPassWithinBounds 1 = .ok (.sipush 9999, 3) := by decide +kernel
theorem dX0_letPassWithinBounds_4 : decode cX0_letPassWithinBounds 4 = .ok (.aload_n 0, 1) := by decide +kernel
theorem dX0_letPassWithinBounds_5 : decode cX0_letPassWithinBounds 5 = .ok (.getfield 28, 3) := by decide +kernel
theorem dX0_letPassWithinBounds_8 : decode cX0_letPassWithinBounds 8 = .ok (.iload_n 1, 1) := by decide +kernel
theorem dX0_letPassWithinBounds_9 : decode cX0_letPassWithinBounds 9 = .ok (.iadd, 1) := by decide +kernel
theorem dX0_letPassWithinBounds_10 : decode cX0_letPassWithinBounds 10 = .ok (.invokestatic 65, 3) := by decide +kernel
theorem dX0_letPassWithinBounds_13 : decode cX0_letPassWithinBounds 13 = .ok (.putfield 28, 3) := by decide +kernel
theorem dX0_letPassWithinBounds_16 : decode cX0_letPassWithinBounds 16 = .ok (.return_, 1) := by decide +kernel
theorem dX0_paint_0 : decode cX0_paint 0 = .ok (.iload_n 1, 1) := by decide +kernel
theorem dX0_paint_1 : decode cX0_paint 1 = .ok (.iload_n 2, 1) := by decide +kernel
theorem dX0_paint_2 : decode cX0_paint 2 = .ok (.invokestatic 71, 3) := by decide +kernel
theorem dX0_paint_5 : decode cX0_paint 5 = .ok (.istore 5, 2) := by decide +kernel
theorem dX0_paint_7 : decode cX0_paint 7 = .ok (.iconst 0, 1) := by decide +kernel
theorem dX0_paint_8 : decode cX0_paint 8 = .ok (.istore 6, 2) := by decide +kernel
theorem dX0_paint_10 : decode cX0_paint 10 = .ok (.iload 6, 2) := by decide +kernel
theorem dX0_paint_12 : decode cX0_paint 12 = .ok (.aload_n 0, 1) := by decide +kernel
theorem dX0_paint_13 : decode cX0_paint 13 = .ok (.getfield 21, 3) := by decide +kernel
theorem dX0_paint_16 : decode cX0_paint 16 = .ok (.if_icmp .ge 107, 3) := by decide +kernel
theorem dX0_paint_19 : decode cX0_paint 19 = .ok (.aload_n 0, 1) := by decide +kernel
theorem dX0_paint_20 : decode cX0_paint 20 = .ok (.getfield 34, 3) := by decide +kernel
theorem dX0_paint_23 : decode cX0_paint 23 = .ok (.iload 5, 2) := by decide +kernel
theorem dX0_paint_25 : decode cX0_paint 25 = .ok (.if_icmp .ge 7, 3) := by decide +kernel
theorem dX0_paint_28 : decode cX0_paint 28 = .ok (.aload_n 0, 1) := by decide +kernel
theorem dX0_paint_29 : decode cX0_paint 29 = .ok (.invokevirtual 76, 3) := by decide +kernel
theorem dX0_paint_32 : decode cX0_paint 32 = .ok (.aload_n 0, 1) := by decide +kernel
theorem dX0_paint_33 : decode cX0_paint 33 = .ok (.iconst 0, 1) := by decide +kernel
theorem dX0_paint_34 : decode cX0_paint 34 = .ok (.aload_n 0, 1) := by decide +kernel
theorem dX0_paint_35 : decode cX0_paint 35 = .ok (.getfield 34, 3) := by decide +kernel
theorem dX0_paint_38 : decode cX0_paint 38 = .ok (.iload 5, 2) := by decide +kernel
theorem dX0_paint_40 : decode cX0_paint 40 = .ok (.isub, 1) := by decide +kernel
theorem dX0_paint_41 : decode cX0_paint 41 = .ok (.invokestatic 79, 3) := by decide +kernel
theorem dX0_paint_44 : decode cX0_paint 44 = .ok (.putfield 34, 3) := by decide +kernel
theorem dX0_paint_47 : decode cX0_paint 47 = .ok (.aload_n 0, 1) := by decide +kernel
theorem dX0_paint_48 : decode cX0_paint 48 = .ok (.dup, 1) := by decide +kernel
theorem dX0_paint_49 : decode cX0_paint 49 = .ok (.getfield 28, 3) := by decide +kernel
theorem dX0_paint_52 : decode cX0_paint 52 = .ok (.iload_n 1, 1) := by decide +kernel
theorem dX0_paint_53 : decode cX0_paint 53 = .ok (.iload_n 2, 1) := by decide +kernel
theorem dX0_paint_54 : decode cX0_paint 54 = .ok (.iload 6, 2) := by decide +kernel
theorem dX0_paint_56 : decode cX0_paint 56 = .ok (.invokestatic 82, 3) := by decide +kernel
theorem dX0_paint_59 : decode cX0_paint 59 = .ok (.iadd, 1) := by decide +kernel
theorem dX0_paint_60 : decode cX0_paint 60 = .ok (.putfield 28, 3) := by decide +kernel
theorem dX0_paint_63 : decode cX0_paint 63 = .ok (.iload 4, 2) := by decide +kernel
theorem dX0_paint_65 : decode cX0_paint 65 = .ok (.ifCond .eq 15, 3) := by decide +kernel
theorem dX0_paint_68 : decode cX0_paint 68 = .ok (.aload_n 0, 1) := by decide +kernel
theorem dX0_paint_69 : decode cX0_paint 69 = .ok (.getfield 21, 3) := by decide +kernel
theorem dX0_paint_72 : decode cX0_paint 72 = .ok (.iconst 1, 1) := by decide +kernel
theorem dX0_paint_73 : decode cX0_paint 73 = .ok (.isub, 1) := by decide +kernel
theorem dX0_paint_74 : decode cX0_paint 74 = .ok (.iload 6, 2) := by decide +kernel
theorem dX0_paint_76 : decode cX0_paint 76 = .ok (.isub, 1) := by decide +kernel
theorem dX0_paint_77 : decode cX0_paint 77 = .ok (.goto 5, 3) := by decide +kernel
theorem dX0_paint_80 : decode cX0_paint 80 = .ok (.iload 6, 2) := by decide +kernel
theorem dX0_paint_82 : decode cX0_paint 82 = .ok (.aload_n 0, 1) := by decide +kernel
theorem dX0_paint_83 : decode cX0_paint 83 = .ok (.getfield 25, 3) := by decide +kernel
theorem dX0_paint_86 : decode cX0_paint 86 = .ok (.imul, 1) := by decide +kernel
theorem dX0_paint_87 : decode cX0_paint 87 = .ok (.iload_n 3, 1) := by decide +kernel
theorem dX0_paint_88 : decode cX0_paint 88 = .ok (.iadd, 1) := by decide +kernel
theorem dX0_paint_89 : decode cX0_paint 89 = .ok (.istore 7, 2) := by decide +kernel
theorem dX0_paint_91 : decode cX0_paint 91 = .ok (.aload_n 0, 1) := by decide +kernel
theorem dX0_paint_92 : decode cX0_paint 92 = .ok (.getfield 14, 3) := by decide +kernel
theorem dX0_paint_95 : decode cX0_paint 95 = .ok (.iload 7, 2) := by decide +kernel
theorem dX0_paint_97 : decode cX0_paint 97 = .ok (.aload_n 0, 1) := by decide +kernel
theorem dX0_paint_98 : decode cX0_paint 98 = .ok (.getfield 28, 3) := by decide +kernel
theorem dX0_paint_101 : decode cX0_paint 101 = .ok (.invokevirtual 86, 3) := by decide +kernel
theorem dX0_paint_104 : decode cX0_paint 104 = .ok (.aload_n 0, 1) := by decide +kernel
theorem dX0_paint_105 : decode cX0_paint 105 = .ok (.getfield 18, 3) := by decide +kernel
theorem dX0_paint_108 : decode cX0_paint 108 = .ok (.iload 7, 2) := by decide +kernel
theorem dX0_paint_110 : decode cX0_paint 110 = .ok (.aload_n 0, 1) := by decide +kernel
theorem dX0_paint_111 : decode cX0_paint 111 = .ok (.getfield 37, 3) := by decide +kernel
theorem dX0_paint_114 : decode cX0_paint 114 = .ok (.invokevirtual 86, 3) := by decide +kernel
theorem dX0_paint_117 : decode cX0_paint 117 = .ok (.iinc 6 1, 3) := by decide +kernel
theorem dX0_paint_120 : decode cX0_paint 120 = .ok (.goto (-110), 3) := by decide +kernel
theorem dX0_paint_123 : decode cX0_paint 123 = .ok (.return_, 1) := by decide +kernel
theorem dX0_openCan_0 : decode cX0_openCan 0 = .ok (.aload_n 0, 1) := by decide +kernel
theorem dX0_openCan_1 : decode cX0_openCan 1 = .ok (.aload_n 0, 1) := by decide +kernel
theorem dX0_openCan_2 : decode cX0_openCan 2 = .ok (.getfield 40, 3) := by decide +kernel
theorem dX0_openCan_5 : decode cX0_openCan 5 = .ok (.putfield 34, 3) := by decide +kernel
theorem dX0_openCan_8 : decode cX0_openCan 8 = .ok (.aload_n 0, 1) := by decide +kernel
theorem dX0_openCan_9 : decode cX0_openCan 9 = .ok (.aload_n 0, 1) := by decide +kernel
theorem dX0_openCan_10 : decode cX0_openCan 10 = .ok (.getfield 37, 3) := by decide +kernel
theorem dX0_openCan_13 : decode cX0_openCan 13 = .ok (.bipush 99, 2) := by decide +kernel
theorem dX0_openCan_15 : decode cX0_openCan 15 = .ok (.if_icmp .lt 7, 3) := by decide +kernel
theorem dX0_openCan_18 : decode cX0_openCan 18 = .ok (.iconst 0, 1) := by decide +kernel
theorem dX0_openCan_19 : decode cX0_openCan 19 = .ok (.goto 9, 3) := by decide +kernel
theorem dX0_openCan_22 : decode cX0_openCan 22 = .ok (.aload_n 0, 1) := by decide +kernel
theorem dX0_openCan_23 : decode cX0_openCan 23 = .ok (.getfield 37, 3) := by decide +kernel
theorem dX0_openCan_26 : decode cX0_openCan 26 = .ok (.iconst 1, 1) := by decide +kernel
theorem dX0_openCan_27 : decode cX0_openCan 27 = .ok (.iadd, 1) := by decide +kernel
theorem dX0_openCan_28 : decode cX0_openCan 28 = .ok (.putfield 37, 3) := by decide +kernel
theorem dX0_openCan_31 : decode cX0_openCan 31 = .ok (.aload_n 0, 1) := by decide +kernel
theorem dX0_openCan_32 : decode cX0_openCan 32 = .ok (.dup, 1) := by decide +kernel
theorem dX0_openCan_33 : decode cX0_openCan 33 = .ok (.getfield 43, 3) := by decide +kernel
theorem dX0_openCan_36 : decode cX0_openCan 36 = .ok (.iconst 1, 1) := by decide +kernel
theorem dX0_openCan_37 : decode cX0_openCan 37 = .ok (.iadd, 1) := by decide +kernel
theorem dX0_openCan_38 : decode cX0_openCan 38 = .ok (.putfield 43, 3) := by decide +kernel
theorem dX0_openCan_41 : decode cX0_openCan 41 = .ok (.return_, 1) := by decide +kernel
theorem dX0_whiten_0 : decode cX0_whiten 0 = .ok (.aload_n 1, 1) := by decide +kernel
theorem dX0_whiten_1 : decode cX0_whiten 1 = .ok (.invokevirtual 50, 3) := by decide +kernel
theorem dX0_whiten_4 : decode cX0_whiten 4 = .ok (.aload_n 0, 1) := by decide +kernel
theorem dX0_whiten_5 : decode cX0_whiten 5 = .ok (.getfield 18, 3) := by decide +kernel
theorem dX0_whiten_8 : decode cX0_whiten 8 = .ok (.invokevirtual 50, 3) := by decide +kernel
theorem dX0_whiten_11 : decode cX0_whiten 11 = .ok (.invokestatic 65, 3) := by decide +kernel
theorem dX0_whiten_14 : decode cX0_whiten 14 = .ok (.istore_n 2, 1) := by decide +kernel
theorem dX0_whiten_15 : decode cX0_whiten 15 = .ok (.iconst 0, 1) := by decide +kernel
theorem dX0_whiten_16 : decode cX0_whiten 16 = .ok (.istore_n 3, 1) := by decide +kernel
theorem dX0_whiten_17 : decode cX0_whiten 17 = .ok (.iload_n 3, 1) := by decide +kernel
theorem dX0_whiten_18 : decode cX0_whiten 18 = .ok (.iload_n 2, 1) := by decide +kernel
theorem dX0_whiten_19 : decode cX0_whiten 19 = .ok (.if_icmp .ge 40, 3) := by decide +kernel
theorem dX0_whiten_22 : decode cX0_whiten 22 = .ok (.aload_n 1, 1) := by decide +kernel
theorem dX0_whiten_23 : decode cX0_whiten 23 = .ok (.iload_n 3, 1) := by decide +kernel
theorem dX0_whiten_24 : decode cX0_whiten 24 = .ok (.invokevirtual 61, 3) := by decide +kernel
theorem dX0_whiten_27 : decode cX0_whiten 27 = .ok (.istore 4, 2) := by decide +kernel
theorem dX0_whiten_29 : decode cX0_whiten 29 = .ok (.iload 4, 2) := by decide +kernel
theorem dX0_whiten_31 : decode cX0_whiten 31 = .ok (.ifCond .lt 10, 3) := by decide +kernel
theorem dX0_whiten_34 : decode cX0_whiten 34 = .ok (.iload 4, 2) := by decide +kernel
theorem dX0_whiten_36 : decode cX0_whiten 36 = .ok (.bipush 99, 2) := by decide +kernel
theorem dX0_whiten_38 : decode cX0_whiten 38 = .ok (.if_icmp .le 5, 3) := by decide +kernel
theorem dX0_whiten_41 : decode cX0_whiten 41 = .ok (.iload_n 3, 1) := by decide +kernel
theorem dX0_whiten_42 : decode cX0_whiten 42 = .ok (.ireturn, 1) := by decide +kernel
theorem dX0_whiten_43 : decode cX0_whiten 43 = .ok (.aload_n 0, 1) := by decide +kernel
theorem dX0_whiten_44 : decode cX0_whiten 44 = .ok (.getfield 18, 3) := by decide +kernel
theorem dX0_whiten_47 : decode cX0_whiten 47 = .ok (.iload_n 3, 1) := by decide +kernel
theorem dX0_whiten_48 : decode cX0_whiten 48 = .ok (.iload 4, 2) := by decide +kernel
theorem dX0_whiten_50 : decode cX0_whiten 50 = .ok (.invokevirtual 86, 3) := by decide +kernel
theorem dX0_whiten_53 : decode cX0_whiten 53 = .ok (.iinc 3 1, 3) := by decide +kernel
theorem dX0_whiten_56 : decode cX0_whiten 56 = .ok (.goto (-39), 3) := by decide +kernel
theorem dX0_whiten_59 : decode cX0_whiten 59 = .ok (.iload_n 2, 1) := by decide +kernel
theorem dX0_whiten_60 : decode cX0_whiten 60 = .ok (.ireturn, 1) := by decide +kernel
theorem dX0_firstOtherWhen_0 : decode cX0_firstOtherWhen 0 = .ok (.aload_n 1, 1) := by decide +kernel
theorem dX0_firstOtherWhen_1 : decode cX0_firstOtherWhen 1 = .ok (.invokevirtual 50, 3) := by decide +kernel
theorem dX0_firstOtherWhen_4 : decode cX0_firstOtherWhen 4 = .ok (.aload_n 0, 1) := by decide +kernel
theorem dX0_firstOtherWhen_5 : decode cX0_firstOtherWhen 5 = .ok (.getfield 14, 3) := by decide +kernel
theorem dX0_firstOtherWhen_8 : decode cX0_firstOtherWhen 8 = .ok (.invokevirtual 50, 3) := by decide +kernel
theorem dX0_firstOtherWhen_11 : decode cX0_firstOtherWhen 11 = .ok (.invokestatic 65, 3) := by decide +kernel
theorem dX0_firstOtherWhen_14 : decode cX0_firstOtherWhen 14 = .ok (.istore_n 2, 1) := by decide +kernel
theorem dX0_firstOtherWhen_15 : decode cX0_firstOtherWhen 15 = .ok (.iconst 0, 1) := by decide +kernel
theorem dX0_firstOtherWhen_16 : decode cX0_firstOtherWhen 16 = .ok (.istore_n 3, 1) := by decide +kernel
theorem dX0_firstOtherWhen_17 : decode cX0_firstOtherWhen 17 = .ok (.iload_n 3, 1) := by decide +kernel
theorem dX0_firstOtherWhen_18 : decode cX0_firstOtherWhen 18 = .ok (.iload_n 2, 1) := by decide +kernel
theorem dX0_firstOtherWhen_19 : decode cX0_firstOtherWhen 19 = .ok (.if_icmp .ge 27, 3) := by decide +kernel
theorem dX0_firstOtherWhen_22 : decode cX0_firstOtherWhen 22 = .ok (.aload_n 1, 1) := by decide +kernel
theorem dX0_firstOtherWhen_23 : decode cX0_firstOtherWhen 23 = .ok (.iload_n 3, 1) := by decide +kernel
theorem dX0_firstOtherWhen_24 : decode cX0_firstOtherWhen 24 = .ok (.invokevirtual 61, 3) := by decide +kernel
theorem dX0_firstOtherWhen_27 : decode cX0_firstOtherWhen 27 = .ok (.aload_n 0, 1) := by decide +kernel
theorem dX0_firstOtherWhen_28 : decode cX0_firstOtherWhen 28 = .ok (.getfield 14, 3) := by decide +kernel
theorem dX0_firstOtherWhen_31 : decode cX0_firstOtherWhen 31 = .ok (.iload_n 3, 1) := by decide +kernel
theorem dX0_firstOtherWhen_32 : decode cX0_firstOtherWhen 32 = .ok (.invokevirtual 61, 3) := by decide +kernel
theorem dX0_firstOtherWhen_35 : decode cX0_firstOtherWhen 35 = .ok (.if_icmp .eq 5, 3) := by decide +kernel
theorem dX0_firstOtherWhen_38 : decode cX0_firstOtherWhen 38 = .ok (.iload_n 3, 1) := by decide +kernel
theorem dX0_firstOtherWhen_39 : decode cX0_firstOtherWhen 39 = .ok (.ireturn, 1) := by decide +kernel
theorem dX0_firstOtherWhen_40 : decode cX0_firstOtherWhen 40 = .ok (.iinc 3 1, 3) := by decide +kernel
theorem dX0_firstOtherWhen_43 : decode cX0_firstOtherWhen 43 = .ok (.goto (-26), 3) := by decide +kernel
theorem dX0_firstOtherWhen_46 : decode cX0_firstOtherWhen 46 = .ok (.aload_n 1, 1) := by decide +kernel
theorem dX0_firstOtherWhen_47 : decode cX0_firstOtherWhen 47 = .ok (.invokevirtual 50, 3) := by decide +kernel
theorem dX0_firstOtherWhen_50 : decode cX0_firstOtherWhen 50 = .ok (.aload_n 0, 1) := by decide +kernel
theorem dX0_firstOtherWhen_51 : decode cX0_firstOtherWhen 51 = .ok (.getfield 14, 3) := by decide +kernel
theorem dX0_firstOtherWhen_54 : decode cX0_firstOtherWhen 54 = .ok (.invokevirtual 50, 3) := by decide +kernel
theorem dX0_firstOtherWhen_57 : decode cX0_firstOtherWhen 57 = .ok (.if_icmp .ne 7, 3) := by decide +kernel
theorem dX0_firstOtherWhen_60 : decode cX0_firstOtherWhen 60 = .ok (.iconst (-1), 1) := by decide +kernel
theorem dX0_firstOtherWhen_61 : decode cX0_firstOtherWhen 61 = .ok (.goto 4, 3) := by decide +kernel
theorem dX0_firstOtherWhen_64 : decode cX0_firstOtherWhen 64 = .ok (.iload_n 2, 1) := by decide +kernel
theorem dX0_firstOtherWhen_65 : decode cX0_firstOtherWhen 65 = .ok (.ireturn, 1) := by decide +kernel
theorem dX0_take_0 : decode cX0_take 0 = .ok (.aload_n 0, 1) := by decide +kernel
theorem dX0_take_1 : decode cX0_take 1 = .ok (.getfield 14, 3) := by decide +kernel
theorem dX0_take_4 : decode cX0_take 4 = .ok (.aload_n 1, 1) := by decide +kernel
theorem dX0_take_5 : decode cX0_take 5 = .ok (.getfield 14, 3) := by decide +kernel
theorem dX0_take_8 : decode cX0_take 8 = .ok (.invokevirtual 89, 3) := by decide +kernel
theorem dX0_take_11 : decode cX0_take 11 = .ok (.aload_n 0, 1) := by decide +kernel
theorem dX0_take_12 : decode cX0_take 12 = .ok (.getfield 18, 3) := by decide +kernel
theorem dX0_take_15 : decode cX0_take 15 = .ok (.aload_n 1, 1) := by decide +kernel
theorem dX0_take_16 : decode cX0_take 16 = .ok (.getfield 18, 3) := by decide +kernel
theorem dX0_take_19 : decode cX0_take 19 = .ok (.invokevirtual 89, 3) := by decide +kernel
theorem dX0_take_22 : decode cX0_take 22 = .ok (.aload_n 0, 1) := by decide +kernel
theorem dX0_take_23 : decode cX0_take 23 = .ok (.aload_n 1, 1) := by decide +kernel
theorem dX0_take_24 : decode cX0_take 24 = .ok (.getfield 21, 3) := by decide +kernel
theorem dX0_take_27 : decode cX0_take 27 = .ok (.putfield 21, 3) := by decide +kernel
theorem dX0_take_30 : decode cX0_take 30 = .ok (.aload_n 0, 1) := by decide +kernel
theorem dX0_take_31 : decode cX0_take 31 = .ok (.aload_n 1, 1) := by decide +kernel
theorem dX0_take_32 : decode cX0_take 32 = .ok (.getfield 25, 3) := by decide +kernel
theorem dX0_take_35 : decode cX0_take 35 = .ok (.putfield 25, 3) := by decide +kernel
theorem dX0_take_38 : decode cX0_take 38 = .ok (.aload_n 0, 1) := by decide +kernel
theorem dX0_take_39 : decode cX0_take 39 = .ok (.aload_n 1, 1) := by decide +kernel
theorem dX0_take_40 : decode cX0_take 40 = .ok (.getfield 28, 3) := by decide +kernel
theorem dX0_take_43 : decode cX0_take 43 = .ok (.putfield 28, 3) := by decide +kernel
theorem dX0_take_46 : decode cX0_take 46 = .ok (.aload_n 0, 1) := by decide +kernel
theorem dX0_take_47 : decode cX0_take 47 = .ok (.aload_n 1, 1) := by decide +kernel
theorem dX0_take_48 : decode cX0_take 48 = .ok (.getfield 31, 3) := by decide +kernel
theorem dX0_take_51 : decode cX0_take 51 = .ok (.putfield 31, 3) := by decide +kernel
theorem dX0_take_54 : decode cX0_take 54 = .ok (.aload_n 0, 1) := by decide +kernel
theorem dX0_take_55 : decode cX0_take 55 = .ok (.aload_n 1, 1) := by decide +kernel
theorem dX0_take_56 : decode cX0_take 56 = .ok (.getfield 34, 3) := by decide +kernel
theorem dX0_take_59 : decode cX0_take 59 = .ok (.putfield 34, 3) := by decide +kernel
theorem dX0_take_62 : decode cX0_take 62 = .ok (.aload_n 0, 1) := by decide +kernel
theorem dX0_take_63 : decode cX0_take 63 = .ok (.aload_n 1, 1) := by decide +kernel
theorem dX0_take_64 : decode cX0_take 64 = .ok (.getfield 37, 3) := by decide +kernel
theorem dX0_take_67 : decode cX0_take 67 = .ok (.putfield 37, 3) := by decide +kernel
theorem dX0_take_70 : decode cX0_take 70 = .ok (.aload_n 0, 1) := by decide +kernel
theorem dX0_take_71 : decode cX0_take 71 = .ok (.aload_n 1, 1) := by decide +kernel
theorem dX0_take_72 : decode cX0_take 72 = .ok (.getfield 40, 3) := by decide +kernel
theorem dX0_take_75 : decode cX0_take 75 = .ok (.putfield 40, 3) := by decide +kernel
theorem dX0_take_78 : decode cX0_take 78 = .ok (.aload_n 0, 1) := by decide +kernel
theorem dX0_take_79 : decode cX0_take 79 = .ok (.iconst 0, 1) := by decide +kernel
theorem dX0_take_80 : decode cX0_take 80 = .ok (.putfield 43, 3) := by decide +kernel
theorem dX0_take_83 : decode cX0_take 83 = .ok (.return_, 1) := by decide +kernel
theorem dX7_init_0 : decode cX7_init 0 = .ok (.aload_n 0, 1) := by decide +kernel
theorem dX7_init_1 : decode cX7_init 1 = .ok (.invokespecial 1, 3) := by decide +kernel
theorem dX7_init_4 : decode cX7_init 4 = .ok (.aload_n 0, 1) := by decide +kernel
theorem dX7_init_5 : decode cX7_init 5 = .ok (.new 7, 3) := by decide +kernel
theorem dX7_init_8 : decode cX7_init 8 = .ok (.dup, 1) := by decide +kernel
theorem dX7_init_9 : decode cX7_init 9 = .ok (.invokespecial 9, 3) := by decide +kernel
theorem dX7_init_12 : decode cX7_init 12 = .ok (.putfield 10, 3) := by decide +kernel
theorem dX7_init_15 : decode cX7_init 15 = .ok (.aload_n 0, 1) := by decide +kernel
theorem dX7_init_16 : decode cX7_init 16 = .ok (.new 16, 3) := by decide +kernel
theorem dX7_init_19 : decode cX7_init 19 = .ok (.dup, 1) := by decide +kernel
theorem dX7_init_20 : decode cX7_init 20 = .ok (.invokespecial 18, 3) := by decide +kernel
theorem dX7_init_23 : decode cX7_init 23 = .ok (.putfield 19, 3) := by decide +kernel
theorem dX7_init_26 : decode cX7_init 26 = .ok (.aload_n 0, 1) := by decide +kernel
theorem dX7_init_27 : decode cX7_init 27 = .ok (.new 23, 3) := by decide +kernel
theorem dX7_init_30 : decode cX7_init 30 = .ok (.dup, 1) := by decide +kernel
theorem dX7_init_31 : decode cX7_init 31 = .ok (.iconst 0, 1) := by decide +kernel
theorem dX7_init_32 : decode cX7_init 32 = .ok (.invokespecial 25, 3) := by decide +kernel
theorem dX7_init_35 : decode cX7_init 35 = .ok (.putfield 28, 3) := by decide +kernel
theorem dX7_init_38 : decode cX7_init 38 = .ok (.aload_n 0, 1) := by decide +kernel
theorem dX7_init_39 : decode cX7_init 39 = .ok (.new 23, 3) := by decide +kernel
theorem dX7_init_42 : decode cX7_init 42 = .ok (.dup, 1) := by decide +kernel
theorem dX7_init_43 : decode cX7_init 43 = .ok (.iconst 1, 1) := by decide +kernel
theorem dX7_init_44 : decode cX7_init 44 = .ok (.invokespecial 25, 3) := by decide +kernel
theorem dX7_init_47 : decode cX7_init 47 = .ok (.putfield 32, 3) := by decide +kernel
theorem dX7_init_50 : decode cX7_init 50 = .ok (.aload_n 0, 1) := by decide +kernel
theorem dX7_init_51 : decode cX7_init 51 = .ok (.new 35, 3) := by decide +kernel
theorem dX7_init_54 : decode cX7_init 54 = .ok (.dup, 1) := by decide +kernel
theorem dX7_init_55 : decode cX7_init 55 = .ok (.bipush 50, 2) := by decide +kernel
theorem dX7_init_57 : decode cX7_init 57 = .ok (.invokespecial 37, 3) := by decide +kernel
theorem dX7_init_60 : decode cX7_init 60 = .ok (.putfield 38, 3) := by decide +kernel
theorem dX7_init_63 : decode cX7_init 63 = .ok (.aload_n 0, 1) := by decide +kernel
theorem dX7_init_64 : decode cX7_init 64 = .ok (.new 35, 3) := by decide +kernel
theorem dX7_init_67 : decode cX7_init 67 = .ok (.dup, 1) := by decide +kernel
theorem dX7_init_68 : decode cX7_init 68 = .ok (.bipush 20, 2) := by decide +kernel
theorem dX7_init_70 : decode cX7_init 70 = .ok (.invokespecial 37, 3) := by decide +kernel
theorem dX7_init_73 : decode cX7_init 73 = .ok (.putfield 42, 3) := by decide +kernel
theorem dX7_init_76 : decode cX7_init 76 = .ok (.aload_n 0, 1) := by decide +kernel
theorem dX7_init_77 : decode cX7_init 77 = .ok (.iconst 1, 1) := by decide +kernel
theorem dX7_init_78 : decode cX7_init 78 = .ok (.putfield 45, 3) := by decide +kernel
theorem dX7_init_81 : decode cX7_init 81 = .ok (.return_, 1) := by decide +kernel
theorem dX7_take_0 : decode cX7_take 0 = .ok (.aload_n 0, 1) := by decide +kernel
theorem dX7_take_1 : decode cX7_take 1 = .ok (.getfield 10, 3) := by decide +kernel
theorem dX7_take_4 : decode cX7_take 4 = .ok (.aload_n 1, 1) := by decide +kernel
theorem dX7_take_5 : decode cX7_take 5 = .ok (.getfield 10, 3) := by decide +kernel
theorem dX7_take_8 : decode cX7_take 8 = .ok (.invokevirtual 49, 3) := by decide +kernel
theorem dX7_take_11 : decode cX7_take 11 = .ok (.aload_n 0, 1) := by decide +kernel
theorem dX7_take_12 : decode cX7_take 12 = .ok (.getfield 19, 3) := by decide +kernel
theorem dX7_take_15 : decode cX7_take 15 = .ok (.aload_n 1, 1) := by decide +kernel
theorem dX7_take_16 : decode cX7_take 16 = .ok (.getfield 19, 3) := by decide +kernel
theorem dX7_take_19 : decode cX7_take 19 = .ok (.invokevirtual 53, 3) := by decide +kernel
theorem dX7_take_22 : decode cX7_take 22 = .ok (.aload_n 0, 1) := by decide +kernel
theorem dX7_take_23 : decode cX7_take 23 = .ok (.getfield 28, 3) := by decide +kernel
theorem dX7_take_26 : decode cX7_take 26 = .ok (.aload_n 1, 1) := by decide +kernel
theorem dX7_take_27 : decode cX7_take 27 = .ok (.getfield 28, 3) := by decide +kernel
theorem dX7_take_30 : decode cX7_take 30 = .ok (.invokevirtual 56, 3) := by decide +kernel
theorem dX7_take_33 : decode cX7_take 33 = .ok (.aload_n 0, 1) := by decide +kernel
theorem dX7_take_34 : decode cX7_take 34 = .ok (.getfield 32, 3) := by decide +kernel
theorem dX7_take_37 : decode cX7_take 37 = .ok (.aload_n 1, 1) := by decide +kernel
theorem dX7_take_38 : decode cX7_take 38 = .ok (.getfield 32, 3) := by decide +kernel
theorem dX7_take_41 : decode cX7_take 41 = .ok (.invokevirtual 56, 3) := by decide +kernel
theorem dX7_take_44 : decode cX7_take 44 = .ok (.aload_n 0, 1) := by decide +kernel
theorem dX7_take_45 : decode cX7_take 45 = .ok (.getfield 38, 3) := by decide +kernel
theorem dX7_take_48 : decode cX7_take 48 = .ok (.aload_n 1, 1) := by decide +kernel
theorem dX7_take_49 : decode cX7_take 49 = .ok (.getfield 38, 3) := by decide +kernel
theorem dX7_take_52 : decode cX7_take 52 = .ok (.invokevirtual 59, 3) := by decide +kernel
theorem dX7_take_55 : decode cX7_take 55 = .ok (.aload_n 0, 1) := by decide +kernel
theorem dX7_take_56 : decode cX7_take 56 = .ok (.getfield 42, 3) := by decide +kernel
theorem dX7_take_59 : decode cX7_take 59 = .ok (.aload_n 1, 1) := by decide +kernel
theorem dX7_take_60 : decode cX7_take 60 = .ok (.getfield 42, 3) := by decide +kernel
theorem dX7_take_63 : decode cX7_take 63 = .ok (.invokevirtual 59, 3) := by decide +kernel
theorem dX7_take_66 : decode cX7_take 66 = .ok (.aload_n 0, 1) := by decide +kernel
theorem dX7_take_67 : decode cX7_take 67 = .ok (.aload_n 1, 1) := by decide +kernel
theorem dX7_take_68 : decode cX7_take 68 = .ok (.getfield 45, 3) := by decide +kernel
theorem dX7_take_71 : decode cX7_take 71 = .ok (.putfield 45, 3) := by decide +kernel
theorem dX7_take_74 : decode cX7_take 74 = .ok (.return_, 1) := by decide +kernel
theorem dX7_passDay_0 : decode cX7_passDay 0 = .ok (.aload_n 0, 1) := by decide +kernel
theorem dX7_passDay_1 : decode cX7_passDay 1 = .ok (.aload_n 0, 1) := by decide +kernel
theorem dX7_passDay_2 : decode cX7_passDay 2 = .ok (.getfield 19, 3) := by decide +kernel
theorem dX7_passDay_5 : decode cX7_passDay 5 = .ok (.invokevirtual 62, 3) := by decide +kernel
theorem dX7_passDay_8 : decode cX7_passDay 8 = .ok (.invokevirtual 66, 3) := by decide +kernel
theorem dX7_passDay_11 : decode cX7_passDay 11 = .ok (.istore_n 1, 1) := by decide +kernel
theorem dX7_passDay_12 : decode cX7_passDay 12 = .ok (.aload_n 0, 1) := by decide +kernel
theorem dX7_passDay_13 : decode cX7_passDay 13 = .ok (.aload_n 0, 1) := by decide +kernel
theorem dX7_passDay_14 : decode cX7_passDay 14 = .ok (.getfield 10, 3) := by decide +kernel
theorem dX7_passDay_17 : decode cX7_passDay 17 = .ok (.invokevirtual 70, 3) := by decide +kernel
theorem dX7_passDay_20 : decode cX7_passDay 20 = .ok (.invokevirtual 66, 3) := by decide +kernel
theorem dX7_passDay_23 : decode cX7_passDay 23 = .ok (.istore_n 2, 1) := by decide +kernel
theorem dX7_passDay_24 : decode cX7_passDay 24 = .ok (.aload_n 0, 1) := by decide +kernel
theorem dX7_passDay_25 : decode cX7_passDay 25 = .ok (.iconst 2, 1) := by decide +kernel
theorem dX7_passDay_26 : decode cX7_passDay 26 = .ok (.invokevirtual 66, 3) := by decide +kernel
theorem dX7_passDay_29 : decode cX7_passDay 29 = .ok (.istore_n 3, 1) := by decide +kernel
theorem dX7_passDay_30 : decode cX7_passDay 30 = .ok (.aload_n 0, 1) := by decide +kernel
theorem dX7_passDay_31 : decode cX7_passDay 31 = .ok (.getfield 10, 3) := by decide +kernel
theorem dX7_passDay_34 : decode cX7_passDay 34 = .ok (.aload_n 0, 1) := by decide +kernel
theorem dX7_passDay_35 : decode cX7_passDay 35 = .ok (.bipush 8, 2) := by decide +kernel
theorem dX7_passDay_37 : decode cX7_passDay 37 = .ok (.invokevirtual 66, 3) := by decide +kernel
theorem dX7_passDay_40 : decode cX7_passDay 40 = .ok (.invokevirtual 73, 3) := by decide +kernel
theorem dX7_passDay_43 : decode cX7_passDay 43 = .ok (.aload_n 0, 1) := by decide +kernel
theorem dX7_passDay_44 : decode cX7_passDay 44 = .ok (.getfield 10, 3) := by decide +kernel
theorem dX7_passDay_47 : decode cX7_passDay 47 = .ok (.invokevirtual 76, 3) := by decide +kernel
theorem dX7_passDay_50 : decode cX7_passDay 50 = .ok (.ifCond .eq 37, 3) := by decide +kernel
theorem dX7_passDay_53 : decode cX7_passDay 53 = .ok (.aload_n 0, 1) := by decide +kernel
theorem dX7_passDay_54 : decode cX7_passDay 54 = .ok (.getfield 10, 3) := by decide +kernel
theorem dX7_passDay_57 : decode cX7_passDay 57 = .ok (.aload_n 0, 1) := by decide +kernel
theorem dX7_passDay_58 : decode cX7_passDay 58 = .ok (.getfield 19, 3) := by decide +kernel
theorem dX7_passDay_61 : decode cX7_passDay 61 = .ok (.iload_n 1, 1) := by decide +kernel
theorem dX7_passDay_62 : decode cX7_passDay 62 = .ok (.invokevirtual 80, 3) := by decide +kernel
theorem dX7_passDay_65 : decode cX7_passDay 65 = .ok (.aload_n 0, 1) := by decide +kernel
theorem dX7_passDay_66 : decode cX7_passDay 66 = .ok (.getfield 19, 3) := by decide +kernel
theorem dX7_passDay_69 : decode cX7_passDay 69 = .ok (.iload_n 1, 1) := by decide +kernel
theorem dX7_passDay_70 : decode cX7_passDay 70 = .ok (.invokevirtual 83, 3) := by decide +kernel
theorem dX7_passDay_73 : decode cX7_passDay 73 = .ok (.iload_n 2, 1) := by decide +kernel
theorem dX7_passDay_74 : decode cX7_passDay 74 = .ok (.iload_n 3, 1) := by decide +kernel
theorem dX7_passDay_75 : decode cX7_passDay 75 = .ok (.iconst 1, 1) := by decide +kernel
theorem dX7_passDay_76 : decode cX7_passDay 76 = .ok (.if_icmp .ne 7, 3) := by decide +kernel
theorem dX7_passDay_79 : decode cX7_passDay 79 = .ok (.iconst 1, 1) := by decide +kernel
theorem dX7_passDay_80 : decode cX7_passDay 80 = .ok (.goto 4, 3) := by decide +kernel
theorem dX7_passDay_83 : decode cX7_passDay 83 = .ok (.iconst 0, 1) := by decide +kernel
theorem dX7_passDay_84 : decode cX7_passDay 84 = .ok (.invokevirtual 86, 3) := by decide +kernel
theorem dX7_passDay_87 : decode cX7_passDay 87 = .ok (.return_, 1) := by decide +kernel
theorem dX7_draw_0 : decode cX7_draw 0 = .ok (.aload_n 0, 1) := by decide +kernel
theorem dX7_draw_1 : decode cX7_draw 1 = .ok (.aload_n 0, 1) := by decide +kernel
theorem dX7_draw_2 : decode cX7_draw 2 = .ok (.getfield 45, 3) := by decide +kernel
theorem dX7_draw_5 : decode cX7_draw 5 = .ok (.ldc 90, 2) := by decide +kernel
theorem dX7_draw_7 : decode cX7_draw 7 = .ok (.imul, 1) := by decide +kernel
theorem dX7_draw_8 : decode cX7_draw 8 = .ok (.sipush 12345, 3) := by decide +kernel
theorem dX7_draw_11 : decode cX7_draw 11 = .ok (.iadd, 1) := by decide +kernel
theorem dX7_draw_12 : decode cX7_draw 12 = .ok (.putfield 45, 3) := by decide +kernel
theorem dX7_draw_15 : decode cX7_draw 15 = .ok (.iload_n 1, 1) := by decide +kernel
theorem dX7_draw_16 : decode cX7_draw 16 = .ok (.ifCond .le 15, 3) := by decide +kernel
theorem dX7_draw_19 : decode cX7_draw 19 = .ok (.aload_n 0, 1) := by decide +kernel
theorem dX7_draw_20 : decode cX7_draw 20 = .ok (.getfield 45, 3) := by decide +kernel
theorem dX7_draw_23 : decode cX7_draw 23 = .ok (.bipush 8, 2) := by decide +kernel
theorem dX7_draw_25 : decode cX7_draw 25 = .ok (.iushr, 1) := by decide +kernel
theorem dX7_draw_26 : decode cX7_draw 26 = .ok (.iload_n 1, 1) := by decide +kernel
theorem dX7_draw_27 : decode cX7_draw 27 = .ok (.irem, 1) := by decide +kernel
theorem dX7_draw_28 : decode cX7_draw 28 = .ok (.goto 4, 3) := by decide +kernel
theorem dX7_draw_31 : decode cX7_draw 31 = .ok (.iconst 0, 1) := by decide +kernel
theorem dX7_draw_32 : decode cX7_draw 32 = .ok (.ireturn, 1) := by decide +kernel
theorem dX8_init_0 : decode cX8_init 0 = .ok (.aload_n 0, 1) := by decide +kernel
theorem dX8_init_1 : decode cX8_init 1 = .ok (.invokespecial 1, 3) := by decide +kernel
theorem dX8_init_4 : decode cX8_init 4 = .ok (.aload_n 0, 1) := by decide +kernel
theorem dX8_init_5 : decode cX8_init 5 = .ok (.new 7, 3) := by decide +kernel
theorem dX8_init_8 : decode cX8_init 8 = .ok (.dup, 1) := by decide +kernel
theorem dX8_init_9 : decode cX8_init 9 = .ok (.bipush 50, 2) := by decide +kernel
theorem dX8_init_11 : decode cX8_init 11 = .ok (.invokespecial 11, 3) := by decide +kernel
theorem dX8_init_14 : decode cX8_init 14 = .ok (.putfield 14, 3) := by decide +kernel
theorem dX8_init_17 : decode cX8_init 17 = .ok (.aload_n 0, 1) := by decide +kernel
theorem dX8_init_18 : decode cX8_init 18 = .ok (.new 7, 3) := by decide +kernel
theorem dX8_init_21 : decode cX8_init 21 = .ok (.dup, 1) := by decide +kernel
theorem dX8_init_22 : decode cX8_init 22 = .ok (.bipush 50, 2) := by decide +kernel
theorem dX8_init_24 : decode cX8_init 24 = .ok (.invokespecial 11, 3) := by decide +kernel
theorem dX8_init_27 : decode cX8_init 27 = .ok (.putfield 18, 3) := by decide +kernel
theorem dX8_init_30 : decode cX8_init 30 = .ok (.aload_n 0, 1) := by decide +kernel
theorem dX8_init_31 : decode cX8_init 31 = .ok (.iload_n 1, 1) := by decide +kernel
theorem dX8_init_32 : decode cX8_init 32 = .ok (.putfield 21, 3) := by decide +kernel
theorem dX8_init_35 : decode cX8_init 35 = .ok (.return_, 1) := by decide +kernel
theorem dX8_nameOf_0 : decode cX8_nameOf 0 = .ok (.iload_n 1, 1) := by decide +kernel
theorem dX8_nameOf_1 : decode cX8_nameOf 1 = .ok (.bipush 114, 2) := by decide +kernel
theorem dX8_nameOf_3 : decode cX8_nameOf 3 = .ok (.if_icmp .ne 5, 3) := by decide +kernel
theorem dX8_nameOf_6 : decode cX8_nameOf 6 = .ok (.iconst 0, 1) := by decide +kernel
theorem dX8_nameOf_7 : decode cX8_nameOf 7 = .ok (.ireturn, 1) := by decide +kernel
theorem dX8_nameOf_8 : decode cX8_nameOf 8 = .ok (.iload_n 1, 1) := by decide +kernel
theorem dX8_nameOf_9 : decode cX8_nameOf 9 = .ok (.bipush 115, 2) := by decide +kernel
theorem dX8_nameOf_11 : decode cX8_nameOf 11 = .ok (.if_icmp .ne 5, 3) := by decide +kernel
theorem dX8_nameOf_14 : decode cX8_nameOf 14 = .ok (.iconst 1, 1) := by decide +kernel
theorem dX8_nameOf_15 : decode cX8_nameOf 15 = .ok (.ireturn, 1) := by decide +kernel
theorem dX8_nameOf_16 : decode cX8_nameOf 16 = .ok (.iload_n 1, 1) := by decide +kernel
theorem dX8_nameOf_17 : decode cX8_nameOf 17 = .ok (.aload_n 0, 1) := by decide +kernel
theorem dX8_nameOf_18 : decode cX8_nameOf 18 = .ok (.getfield 21, 3) := by decide +kernel
theorem dX8_nameOf_21 : decode cX8_nameOf 21 = .ok (.ifCond .ne 8, 3) := by decide +kernel
theorem dX8_nameOf_24 : decode cX8_nameOf 24 = .ok (.bipush 104, 2) := by decide +kernel
theorem dX8_nameOf_26 : decode cX8_nameOf 26 = .ok (.goto 5, 3) := by decide +kernel
theorem dX8_nameOf_29 : decode cX8_nameOf 29 = .ok (.bipush 119, 2) := by decide +kernel
theorem dX8_nameOf_31 : decode cX8_nameOf 31 = .ok (.if_icmp .ne 7, 3) := by decide +kernel
theorem dX8_nameOf_34 : decode cX8_nameOf 34 = .ok (.iconst 2, 1) := by decide +kernel
theorem dX8_nameOf_35 : decode cX8_nameOf 35 = .ok (.goto 4, 3) := by decide +kernel
theorem dX8_nameOf_38 : decode cX8_nameOf 38 = .ok (.iconst (-1), 1) := by decide +kernel
theorem dX8_nameOf_39 : decode cX8_nameOf 39 = .ok (.ireturn, 1) := by decide +kernel
theorem dX8_takeSteps_0 : decode cX8_takeSteps 0 = .ok (.aload_n 0, 1) := by decide +kernel
theorem dX8_takeSteps_1 : decode cX8_takeSteps 1 = .ok (.getfield 14, 3) := by decide +kernel
theorem dX8_takeSteps_4 : decode cX8_takeSteps 4 = .ok (.aload_n 1, 1) := by decide +kernel
theorem dX8_takeSteps_5 : decode cX8_takeSteps 5 = .ok (.invokevirtual 25, 3) := by decide +kernel
theorem dX8_takeSteps_8 : decode cX8_takeSteps 8 = .ok (.return_, 1) := by decide +kernel
theorem dX8_take_0 : decode cX8_take 0 = .ok (.aload_n 0, 1) := by decide +kernel
theorem dX8_take_1 : decode cX8_take 1 = .ok (.getfield 14, 3) := by decide +kernel
theorem dX8_take_4 : decode cX8_take 4 = .ok (.aload_n 1, 1) := by decide +kernel
theorem dX8_take_5 : decode cX8_take 5 = .ok (.getfield 14, 3) := by decide +kernel
theorem dX8_take_8 : decode cX8_take 8 = .ok (.invokevirtual 25, 3) := by decide +kernel
theorem dX8_take_11 : decode cX8_take 11 = .ok (.return_, 1) := by decide +kernel
theorem dX8_value_0 : decode cX8_value 0 = .ok (.aload_n 0, 1) := by decide +kernel
theorem dX8_value_1 : decode cX8_value 1 = .ok (.getfield 14, 3) := by decide +kernel
theorem dX8_value_4 : decode cX8_value 4 = .ok (.invokevirtual 29, 3) := by decide +kernel
theorem dX8_value_7 : decode cX8_value 7 = .ok (.ifCond .ne 24, 3) := by decide +kernel
theorem dX8_value_10 : decode cX8_value 10 = .ok (.aload_n 0, 1) := by decide +kernel
theorem dX8_value_11 : decode cX8_value 11 = .ok (.getfield 21, 3) := by decide +kernel
theorem dX8_value_14 : decode cX8_value 14 = .ok (.ifCond .ne 10, 3) := by decide +kernel
theorem dX8_value_17 : decode cX8_value 17 = .ok (.bipush 10, 2) := by decide +kernel
theorem dX8_value_19 : decode cX8_value 19 = .ok (.iload_n 3, 1) := by decide +kernel
theorem dX8_value_20 : decode cX8_value 20 = .ok (.isub, 1) := by decide +kernel
theorem dX8_value_21 : decode cX8_value 21 = .ok (.goto 6, 3) := by decide +kernel
theorem dX8_value_24 : decode cX8_value 24 = .ok (.iconst 1, 1) := by decide +kernel
theorem dX8_value_25 : decode cX8_value 25 = .ok (.iload_n 3, 1) := by decide +kernel
theorem dX8_value_26 : decode cX8_value 26 = .ok (.iadd, 1) := by decide +kernel
theorem dX8_value_27 : decode cX8_value 27 = .ok (.invokestatic 33, 3) := by decide +kernel
theorem dX8_value_30 : decode cX8_value 30 = .ok (.ireturn, 1) := by decide +kernel
theorem dX8_value_31 : decode cX8_value 31 = .ok (.aload_n 0, 1) := by decide +kernel
theorem dX8_value_32 : decode cX8_value 32 = .ok (.getfield 18, 3) := by decide +kernel
theorem dX8_value_35 : decode cX8_value 35 = .ok (.aload_n 0, 1) := by decide +kernel
theorem dX8_value_36 : decode cX8_value 36 = .ok (.getfield 14, 3) := by decide +kernel
theorem dX8_value_39 : decode cX8_value 39 = .ok (.invokevirtual 29, 3) := by decide +kernel
theorem dX8_value_42 : decode cX8_value 42 = .ok (.iconst 0, 1) := by decide +kernel
theorem dX8_value_43 : decode cX8_value 43 = .ok (.invokevirtual 37, 3) := by decide +kernel
theorem dX8_value_46 : decode cX8_value 46 = .ok (.iconst (-1), 1) := by decide +kernel
theorem dX8_value_47 : decode cX8_value 47 = .ok (.istore 4, 2) := by decide +kernel
theorem dX8_value_49 : decode cX8_value 49 = .ok (.iconst 0, 1) := by decide +kernel
theorem dX8_value_50 : decode cX8_value 50 = .ok (.istore 5, 2) := by decide +kernel
theorem dX8_value_52 : decode cX8_value 52 = .ok (.iload 5, 2) := by decide +kernel
theorem dX8_value_54 : decode cX8_value 54 = .ok (.aload_n 0, 1) := by decide +kernel
theorem dX8_value_55 : decode cX8_value 55 = .ok (.getfield 14, 3) := by decide +kernel
theorem dX8_value_58 : decode cX8_value 58 = .ok (.invokevirtual 29, 3) := by decide +kernel
theorem dX8_value_61 : decode cX8_value 61 = .ok (.if_icmp .ge 171, 3) := by decide +kernel
theorem dX8_value_64 : decode cX8_value 64 = .ok (.aload_n 0, 1) := by decide +kernel
theorem dX8_value_65 : decode cX8_value 65 = .ok (.getfield 14, 3) := by decide +kernel
theorem dX8_value_68 : decode cX8_value 68 = .ok (.iload 5, 2) := by decide +kernel
theorem dX8_value_70 : decode cX8_value 70 = .ok (.invokevirtual 41, 3) := by decide +kernel
theorem dX8_value_73 : decode cX8_value 73 = .ok (.istore 6, 2) := by decide +kernel
theorem dX8_value_75 : decode cX8_value 75 = .ok (.iload 6, 2) := by decide +kernel
theorem dX8_value_77 : decode cX8_value 77 = .ok (.sipush 10000, 3) := by decide +kernel
theorem dX8_value_80 : decode cX8_value 80 = .ok (.if_icmp .ge 20, 3) := by decide +kernel
theorem dX8_value_83 : decode cX8_value 83 = .ok (.iinc 4 1, 3) := by decide +kernel
theorem dX8_value_86 : decode cX8_value 86 = .ok (.aload_n 0, 1) := by decide +kernel
theorem dX8_value_87 : decode cX8_value 87 = .ok (.getfield 18, 3) := by decide +kernel
theorem dX8_value_90 : decode cX8_value 90 = .ok (.iload 4, 2) := by decide +kernel
theorem dX8_value_92 : decode cX8_value 92 = .ok (.iload 6, 2) := by decide +kernel
theorem dX8_value_94 : decode cX8_value 94 = .ok (.invokevirtual 44, 3) := by decide +kernel
theorem dX8_value_97 : decode cX8_value 97 = .ok (.goto 129, 3) := by decide +kernel
theorem dX8_value_100 : decode cX8_value 100 = .ok (.iload 6, 2) := by decide +kernel
theorem dX8_value_102 : decode cX8_value 102 = .ok (.sipush 20000, 3) := by decide +kernel
theorem dX8_value_105 : decode cX8_value 105 = .ok (.if_icmp .ge 43, 3) := by decide +kernel
theorem dX8_value_108 : decode cX8_value 108 = .ok (.iinc 4 1, 3) := by decide +kernel
theorem dX8_value_111 : decode cX8_value 111 = .ok (.aload_n 0, 1) := by decide +kernel
theorem dX8_value_112 : decode cX8_value 112 = .ok (.getfield 18, 3) := by decide +kernel
theorem dX8_value_115 : decode cX8_value 115 = .ok (.iload 4, 2) := by decide +kernel
theorem dX8_value_117 : decode cX8_value 117 = .ok (.iload 6, 2) := by decide +kernel
theorem dX8_value_119 : decode cX8_value 119 = .ok (.sipush 10000, 3) := by decide +kernel
theorem dX8_value_122 : decode cX8_value 122 = .ok (.if_icmp .ne 7, 3) := by decide +kernel
theorem dX8_value_125 : decode cX8_value 125 = .ok (.iload_n 1, 1) := by decide +kernel
theorem dX8_value_126 : decode cX8_value 126 = .ok (.goto 16, 3) := by decide +kernel
theorem dX8_value_129 : decode cX8_value 129 = .ok (.iload 6, 2) := by decide +kernel
theorem dX8_value_131 : decode cX8_value 131 = .ok (.sipush 10001, 3) := by decide +kernel
theorem dX8_value_134 : decode cX8_value 134 = .ok (.if_icmp .ne 7, 3) := by decide +kernel
theorem dX8_value_137 : decode cX8_value 137 = .ok (.iload_n 2, 1) := by decide +kernel
theorem dX8_value_138 : decode cX8_value 138 = .ok (.goto 4, 3) := by decide +kernel
theorem dX8_value_141 : decode cX8_value 141 = .ok (.iload_n 3, 1) := by decide +kernel
theorem dX8_value_142 : decode cX8_value 142 = .ok (.invokevirtual 44, 3) := by decide +kernel
theorem dX8_value_145 : decode cX8_value 145 = .ok (.goto 81, 3) := by decide +kernel
theorem dX8_value_148 : decode cX8_value 148 = .ok (.iload 6, 2) := by decide +kernel
theorem dX8_value_150 : decode cX8_value 150 = .ok (.sipush 20033, 3) := by decide +kernel
theorem dX8_value_153 : decode cX8_value 153 = .ok (.if_icmp .ne 32, 3) := by decide +kernel
theorem dX8_value_156 : decode cX8_value 156 = .ok (.aload_n 0, 1) := by decide +kernel
theorem dX8_value_157 : decode cX8_value 157 = .ok (.getfield 18, 3) := by decide +kernel
theorem dX8_value_160 : decode cX8_value 160 = .ok (.iload 4, 2) := by decide +kernel
theorem dX8_value_162 : decode cX8_value 162 = .ok (.aload_n 0, 1) := by decide +kernel
theorem dX8_value_163 : decode cX8_value 163 = .ok (.getfield 18, 3) := by decide +kernel
theorem dX8_value_166 : decode cX8_value 166 = .ok (.iload 4, 2) := by decide +kernel
theorem dX8_value_168 : decode cX8_value 168 = .ok (.invokevirtual 41, 3) := by decide +kernel
theorem dX8_value_171 : decode cX8_value 171 = .ok (.ifCond .ne 7, 3) := by decide +kernel
theorem dX8_value_174 : decode cX8_value 174 = .ok (.iconst 1, 1) := by decide +kernel
theorem dX8_value_175 : decode cX8_value 175 = .ok (.goto 4, 3) := by decide +kernel
theorem dX8_value_178 : decode cX8_value 178 = .ok (.iconst 0, 1) := by decide +kernel
theorem dX8_value_179 : decode cX8_value 179 = .ok (.invokevirtual 44, 3) := by decide +kernel
theorem dX8_value_182 : decode cX8_value 182 = .ok (.goto 44, 3) := by decide +kernel
theorem dX8_value_185 : decode cX8_value 185 = .ok (.iinc 4 (-1), 3) := by decide +kernel
theorem dX8_value_188 : decode cX8_value 188 = .ok (.aload_n 0, 1) := by decide +kernel
theorem dX8_value_189 : decode cX8_value 189 = .ok (.getfield 18, 3) := by decide +kernel
theorem dX8_value_192 : decode cX8_value 192 = .ok (.iload 4, 2) := by decide +kernel
theorem dX8_value_194 : decode cX8_value 194 = .ok (.iload 6, 2) := by decide +kernel
theorem dX8_value_196 : decode cX8_value 196 = .ok (.sipush 20000, 3) := by decide +kernel
theorem dX8_value_199 : decode cX8_value 199 = .ok (.isub, 1) := by decide +kernel
theorem dX8_value_200 : decode cX8_value 200 = .ok (.aload_n 0, 1) := by decide +kernel
theorem dX8_value_201 : decode cX8_value 201 = .ok (.getfield 18, 3) := by decide +kernel
theorem dX8_value_204 : decode cX8_value 204 = .ok (.iload 4, 2) := by decide +kernel
theorem dX8_value_206 : decode cX8_value 206 = .ok (.invokevirtual 41, 3) := by decide +kernel
theorem dX8_value_209 : decode cX8_value 209 = .ok (.aload_n 0, 1) := by decide +kernel
theorem dX8_value_210 : decode cX8_value 210 = .ok (.getfield 18, 3) := by decide +kernel
theorem dX8_value_213 : decode cX8_value 213 = .ok (.iload 4, 2) := by decide +kernel
theorem dX8_value_215 : decode cX8_value 215 = .ok (.iconst 1, 1) := by decide +kernel
theorem dX8_value_216 : decode cX8_value 216 = .ok (.iadd, 1) := by decide +kernel
theorem dX8_value_217 : decode cX8_value 217 = .ok (.invokevirtual 41, 3) := by decide +kernel
theorem dX8_value_220 : decode cX8_value 220 = .ok (.invokestatic 47, 3) := by decide +kernel
theorem dX8_value_223 : decode cX8_value 223 = .ok (.invokevirtual 44, 3) := by decide +kernel
theorem dX8_value_226 : decode cX8_value 226 = .ok (.iinc 5 1, 3) := by decide +kernel
theorem dX8_value_229 : decode cX8_value 229 = .ok (.goto (-177), 3) := by decide +kernel
theorem dX8_value_232 : decode cX8_value 232 = .ok (.aload_n 0, 1) := by decide +kernel
theorem dX8_value_233 : decode cX8_value 233 = .ok (.getfield 18, 3) := by decide +kernel
theorem dX8_value_236 : decode cX8_value 236 = .ok (.iload 4, 2) := by decide +kernel
theorem dX8_value_238 : decode cX8_value 238 = .ok (.invokevirtual 41, 3) := by decide +kernel
theorem dX8_value_241 : decode cX8_value 241 = .ok (.invokestatic 33, 3) := by decide +kernel
theorem dX8_value_244 : decode cX8_value 244 = .ok (.ireturn, 1) := by decide +kernel
theorem dX8_held_0 : decode cX8_held 0 = .ok (.iconst 0, 1) := by decide +kernel
theorem dX8_held_1 : decode cX8_held 1 = .ok (.bipush 99, 2) := by decide +kernel
theorem dX8_held_3 : decode cX8_held 3 = .ok (.iload_n 0, 1) := by decide +kernel
theorem dX8_held_4 : decode cX8_held 4 = .ok (.invokestatic 51, 3) := by decide +kernel
theorem dX8_held_7 : decode cX8_held 7 = .ok (.invokestatic 57, 3) := by decide +kernel
theorem dX8_held_10 : decode cX8_held 10 = .ok (.ireturn, 1) := by decide +kernel
theorem dX8_join_0 : decode cX8_join 0 = .ok (.iload_n 0, 1) := by decide +kernel
theorem dX8_join_1 : decode cX8_join 1 = .ok (.lookupswitch 168 #[(38, 97), (42, 152), (43, 144), (45, 148), (47, 156), (60, 111), (61, 122), (62, 133), (124, 83)], 83) := by decide +kernel
theorem dX8_join_84 : decode cX8_join 84 = .ok (.iload_n 1, 1) := by decide +kernel
theorem dX8_join_85 : decode cX8_join 85 = .ok (.ifCond .ne 7, 3) := by decide +kernel
theorem dX8_join_88 : decode cX8_join 88 = .ok (.iload_n 2, 1) := by decide +kernel
theorem dX8_join_89 : decode cX8_join 89 = .ok (.ifCond .eq 7, 3) := by decide +kernel
theorem dX8_join_92 : decode cX8_join 92 = .ok (.iconst 1, 1) := by decide +kernel
theorem dX8_join_93 : decode cX8_join 93 = .ok (.goto 4, 3) := by decide +kernel
theorem dX8_join_96 : decode cX8_join 96 = .ok (.iconst 0, 1) := by decide +kernel
theorem dX8_join_97 : decode cX8_join 97 = .ok (.ireturn, 1) := by decide +kernel
theorem dX8_join_98 : decode cX8_join 98 = .ok (.iload_n 1, 1) := by decide +kernel
theorem dX8_join_99 : decode cX8_join 99 = .ok (.ifCond .eq 11, 3) := by decide +kernel
theorem dX8_join_102 : decode cX8_join 102 = .ok (.iload_n 2, 1) := by decide +kernel
theorem dX8_join_103 : decode cX8_join 103 = .ok (.ifCond .eq 7, 3) := by decide +kernel
theorem dX8_join_106 : decode cX8_join 106 = .ok (.iconst 1, 1) := by decide +kernel
theorem dX8_join_107 : decode cX8_join 107 = .ok (.goto 4, 3) := by decide +kernel
theorem dX8_join_110 : decode cX8_join 110 = .ok (.iconst 0, 1) := by decide +kernel
theorem dX8_join_111 : decode cX8_join 111 = .ok (.ireturn, 1) := by decide +kernel
theorem dX8_join_112 : decode cX8_join 112 = .ok (.iload_n 1, 1) := by decide +kernel
theorem dX8_join_113 : decode cX8_join 113 = .ok (.iload_n 2, 1) := by decide +kernel
theorem dX8_join_114 : decode cX8_join 114 = .ok (.if_icmp .ge 7, 3) := by decide +kernel
theorem dX8_join_117 : decode cX8_join 117 = .ok (.iconst 1, 1) := by decide +kernel
theorem dX8_join_118 : decode cX8_join 118 = .ok (.goto 4, 3) := by decide +kernel
theorem dX8_join_121 : decode cX8_join 121 = .ok (.iconst 0, 1) := by decide +kernel
theorem dX8_join_122 : decode cX8_join 122 = .ok (.ireturn, 1) := by decide +kernel
theorem dX8_join_123 : decode cX8_join 123 = .ok (.iload_n 1, 1) := by decide +kernel
theorem dX8_join_124 : decode cX8_join 124 = .ok (.iload_n 2, 1) := by decide +kernel
theorem dX8_join_125 : decode cX8_join 125 = .ok (.if_icmp .ne 7, 3) := by decide +kernel
theorem dX8_join_128 : decode cX8_join 128 = .ok (.iconst 1, 1) := by decide +kernel
theorem dX8_join_129 : decode cX8_join 129 = .ok (.goto 4, 3) := by decide +kernel
theorem dX8_join_132 : decode cX8_join 132 = .ok (.iconst 0, 1) := by decide +kernel
theorem dX8_join_133 : decode cX8_join 133 = .ok (.ireturn, 1) := by decide +kernel
theorem dX8_join_134 : decode cX8_join 134 = .ok (.iload_n 1, 1) := by decide +kernel
theorem dX8_join_135 : decode cX8_join 135 = .ok (.iload_n 2, 1) := by decide +kernel
theorem dX8_join_136 : decode cX8_join 136 = .ok (.if_icmp .le 7, 3) := by decide +kernel
theorem dX8_join_139 : decode cX8_join 139 = .ok (.iconst 1, 1) := by decide +kernel
theorem dX8_join_140 : decode cX8_join 140 = .ok (.goto 4, 3) := by decide +kernel
theorem dX8_join_143 : decode cX8_join 143 = .ok (.iconst 0, 1) := by decide +kernel
theorem dX8_join_144 : decode cX8_join 144 = .ok (.ireturn, 1) := by decide +kernel
theorem dX8_join_145 : decode cX8_join 145 = .ok (.iload_n 1, 1) := by decide +kernel
theorem dX8_join_146 : decode cX8_join 146 = .ok (.iload_n 2, 1) := by decide +kernel
theorem dX8_join_147 : decode cX8_join 147 = .ok (.iadd, 1) := by decide +kernel
theorem dX8_join_148 : decode cX8_join 148 = .ok (.ireturn, 1) := by decide +kernel
theorem dX8_join_149 : decode cX8_join 149 = .ok (.iload_n 1, 1) := by decide +kernel
theorem dX8_join_150 : decode cX8_join 150 = .ok (.iload_n 2, 1) := by decide +kernel
theorem dX8_join_151 : decode cX8_join 151 = .ok (.isub, 1) := by decide +kernel
theorem dX8_join_152 : decode cX8_join 152 = .ok (.ireturn, 1) := by decide +kernel
theorem dX8_join_153 : decode cX8_join 153 = .ok (.iload_n 1, 1) := by decide +kernel
theorem dX8_join_154 : decode cX8_join 154 = .ok (.iload_n 2, 1) := by decide +kernel
theorem dX8_join_155 : decode cX8_join 155 = .ok (.imul, 1) := by decide +kernel
theorem dX8_join_156 : decode cX8_join 156 = .ok (.ireturn, 1) := by decide +kernel
theorem dX8_join_157 : decode cX8_join 157 = .ok (.iload_n 2, 1) := by decide +kernel
theorem dX8_join_158 : decode cX8_join 158 = .ok (.ifCond .ne 7, 3) := by decide +kernel
theorem dX8_join_161 : decode cX8_join 161 = .ok (.iconst 0, 1) := by decide +kernel
theorem dX8_join_162 : decode cX8_join 162 = .ok (.goto 6, 3) := by decide +kernel
theorem dX8_join_165 : decode cX8_join 165 = .ok (.iload_n 1, 1) := by decide +kernel
theorem dX8_join_166 : decode cX8_join 166 = .ok (.iload_n 2, 1) := by decide +kernel
theorem dX8_join_167 : decode cX8_join 167 = .ok (.idiv, 1) := by decide +kernel
theorem dX8_join_168 : decode cX8_join 168 = .ok (.ireturn, 1) := by decide +kernel
theorem dX8_join_169 : decode cX8_join 169 = .ok (.iload_n 2, 1) := by decide +kernel
theorem dX8_join_170 : decode cX8_join 170 = .ok (.ifCond .ne 7, 3) := by decide +kernel
theorem dX8_join_173 : decode cX8_join 173 = .ok (.iconst 0, 1) := by decide +kernel
theorem dX8_join_174 : decode cX8_join 174 = .ok (.goto 6, 3) := by decide +kernel
theorem dX8_join_177 : decode cX8_join 177 = .ok (.iload_n 1, 1) := by decide +kernel
theorem dX8_join_178 : decode cX8_join 178 = .ok (.iload_n 2, 1) := by decide +kernel
theorem dX8_join_179 : decode cX8_join 179 = .ok (.irem, 1) := by decide +kernel
theorem dX8_join_180 : decode cX8_join 180 = .ok (.ireturn, 1) := by decide +kernel
end
section
/-! THE CEILING (OneGoCeiling$Ceiling) -/
def CeilI (c : Nat) (ro st mi he le wh si ca : Int32) (wn wt : List Int32) (g : AH) : Prop := c < g.1 ∧ g.2 c = .inr (.inr (0, [.ref (c + 1), .ref (c + 3), .int ro, .int st, .int mi, .int he, .int le, .int wh, .int si, .int ca])) ∧ RowAt (c + 1) 36 wn g ∧ RowAt (c + 3) 36 wt g
section CeilL
variable {c : Nat} {ro st mi he le wh si ca ro' st' mi' he' le' wh' si' ca' : Int32} {wn wt wn' wt' : List Int32} {h g : AH} {P' : AH → Prop}
theorem CeilI.o (q : CeilI c ro st mi he le wh si ca wn wt g) : c < g.1 ∧ g.2 c = .inr (.inr (0, [.ref (c + 1), .ref (c + 3), .int ro, .int st, .int mi, .int he, .int le, .int wh, .int si, .int ca])) := ⟨q.1, q.2.1⟩
theorem CeilI.V (q : CeilI c ro st mi he le wh si ca wn wt g) : ∃ (fs : List Value) (T : u_T) (N : Nat), c < g.1 ∧ g.2 c = .inr (.inr (0, fs)) ∧ vwCl[0]? = some (RX0, T, N) := ⟨_, _, _, q.1, q.2.1, rfl⟩
theorem CeilI.off (q : CeilI c ro st mi he le wh si ca wn wt h) {lo w : Nat} (o : Off lo w h g) (hd : c + 5 ≤ lo ∨ lo + w ≤ c) : CeilI c ro st mi he le wh si ca wn wt g :=
  ⟨by rw [o.1]; exact q.1, by rw [o.2 c (by omega)]; exact q.2.1, q.2.2.1.off o (by omega), q.2.2.2.off o (by omega)⟩
theorem CeilI.setN (q : CeilI c ro st mi he le wh si ca wn wt h) (hR : RowAt (c + 1) 36 wn' g) (o : Off (c + 1) 2 h g) : CeilI c ro st mi he le wh si ca wn' wt g :=
  ⟨by rw [o.1]; exact q.1, by rw [o.2 c (by omega)]; exact q.2.1, hR, q.2.2.2.off o (by omega)⟩
theorem CeilI.setT (q : CeilI c ro st mi he le wh si ca wn wt h) (hR : RowAt (c + 3) 36 wt' g) (o : Off (c + 3) 2 h g) : CeilI c ro st mi he le wh si ca wn wt' g :=
  ⟨by rw [o.1]; exact q.1, by rw [o.2 c (by omega)]; exact q.2.1, q.2.2.1.off o (by omega), hR⟩
theorem CeilI.put (q : CeilI c ro st mi he le wh si ca wn wt g) : CeilI c ro' st' mi' he' le' wh' si' ca' wn wt (hset g c (.inr (.inr (0, [.ref (c + 1), .ref (c + 3), .int ro', .int st', .int mi', .int he', .int le', .int wh', .int si', .int ca'])))) :=
  ⟨q.1, hset_same _ _ _, q.2.2.1.off Off.one (by omega), q.2.2.2.off Off.one (by omega)⟩
set_option maxHeartbeats 4000000 in
theorem ct_Ceil_rows (hR : CeilI c ro st mi he le wh si ca wn wt g) (hP : P' g) : CV 1 0 0 mX0_rows c [] g (fun v g' => v = some (.int (ro)) ∧ P' g') := by
  refine ⟨hR.V, ?_⟩
  refine ct_of (by decide) (fun _ _ => Nat.le_of_ble_eq_true rfl) ?_
  dsimp only [pad, ent]
  refine aw_P (P' := fun g' => CeilI c ro st mi he le wh si ca wn wt g' ∧ g' = g) (fun g' e => by subst e; exact ⟨hR, rfl⟩) ?_
  refine r_aload_n (pc := 0) dX0_rows_0 rfl ?_
  refine r_getf (pc := 1) (k := 2) dX0_rows_1 hX0 eX0 (by decide) fX0_21 (fun _ q => q.1.o) rfl ?_
  refine r_ireturn (pc := 4) (ty := .int) dX0_rows_4 rfl rfl ⟨Nat.zero_le _, Nat.zero_le _⟩ (fun gE hg => ?_)
  exact ⟨rfl, by rw [hg.2]; exact hP⟩
set_option maxHeartbeats 4000000 in
theorem ct_Ceil_strips (hR : CeilI c ro st mi he le wh si ca wn wt g) (hP : P' g) : CV 1 0 0 mX0_strips c [] g (fun v g' => v = some (.int (st)) ∧ P' g') := by
  refine ⟨hR.V, ?_⟩
  refine ct_of (by decide) (fun _ _ => Nat.le_of_ble_eq_true rfl) ?_
  dsimp only [pad, ent]
  refine aw_P (P' := fun g' => CeilI c ro st mi he le wh si ca wn wt g' ∧ g' = g) (fun g' e => by subst e; exact ⟨hR, rfl⟩) ?_
  refine r_aload_n (pc := 0) dX0_strips_0 rfl ?_
  refine r_getf (pc := 1) (k := 3) dX0_strips_1 hX0 eX0 (by decide) fX0_25 (fun _ q => q.1.o) rfl ?_
  refine r_ireturn (pc := 4) (ty := .int) dX0_strips_4 rfl rfl ⟨Nat.zero_le _, Nat.zero_le _⟩ (fun gE hg => ?_)
  exact ⟨rfl, by rw [hg.2]; exact hP⟩
set_option maxHeartbeats 4000000 in
theorem ct_Ceil_minute (hR : CeilI c ro st mi he le wh si ca wn wt g) (hP : P' g) : CV 1 0 0 mX0_minute c [] g (fun v g' => v = some (.int (mi)) ∧ P' g') := by
  refine ⟨hR.V, ?_⟩
  refine ct_of (by decide) (fun _ _ => Nat.le_of_ble_eq_true rfl) ?_
  dsimp only [pad, ent]
  refine aw_P (P' := fun g' => CeilI c ro st mi he le wh si ca wn wt g' ∧ g' = g) (fun g' e => by subst e; exact ⟨hR, rfl⟩) ?_
  refine r_aload_n (pc := 0) dX0_minute_0 rfl ?_
  refine r_getf (pc := 1) (k := 4) dX0_minute_1 hX0 eX0 (by decide) fX0_28 (fun _ q => q.1.o) rfl ?_
  refine r_ireturn (pc := 4) (ty := .int) dX0_minute_4 rfl rfl ⟨Nat.zero_le _, Nat.zero_le _⟩ (fun gE hg => ?_)
  exact ⟨rfl, by rw [hg.2]; exact hP⟩
set_option maxHeartbeats 4000000 in
theorem ct_Ceil_heat (hR : CeilI c ro st mi he le wh si ca wn wt g) (hP : P' g) : CV 1 0 0 mX0_heat c [] g (fun v g' => v = some (.int (he)) ∧ P' g') := by
  refine ⟨hR.V, ?_⟩
  refine ct_of (by decide) (fun _ _ => Nat.le_of_ble_eq_true rfl) ?_
  dsimp only [pad, ent]
  refine aw_P (P' := fun g' => CeilI c ro st mi he le wh si ca wn wt g' ∧ g' = g) (fun g' e => by subst e; exact ⟨hR, rfl⟩) ?_
  refine r_aload_n (pc := 0) dX0_heat_0 rfl ?_
  refine r_getf (pc := 1) (k := 5) dX0_heat_1 hX0 eX0 (by decide) fX0_31 (fun _ q => q.1.o) rfl ?_
  refine r_ireturn (pc := 4) (ty := .int) dX0_heat_4 rfl rfl ⟨Nat.zero_le _, Nat.zero_le _⟩ (fun gE hg => ?_)
  exact ⟨rfl, by rw [hg.2]; exact hP⟩
set_option maxHeartbeats 4000000 in
theorem ct_Ceil_left (hR : CeilI c ro st mi he le wh si ca wn wt g) (hP : P' g) : CV 1 0 0 mX0_left c [] g (fun v g' => v = some (.int (le)) ∧ P' g') := by
  refine ⟨hR.V, ?_⟩
  refine ct_of (by decide) (fun _ _ => Nat.le_of_ble_eq_true rfl) ?_
  dsimp only [pad, ent]
  refine aw_P (P' := fun g' => CeilI c ro st mi he le wh si ca wn wt g' ∧ g' = g) (fun g' e => by subst e; exact ⟨hR, rfl⟩) ?_
  refine r_aload_n (pc := 0) dX0_left_0 rfl ?_
  refine r_getf (pc := 1) (k := 6) dX0_left_1 hX0 eX0 (by decide) fX0_34 (fun _ q => q.1.o) rfl ?_
  refine r_ireturn (pc := 4) (ty := .int) dX0_left_4 rfl rfl ⟨Nat.zero_le _, Nat.zero_le _⟩ (fun gE hg => ?_)
  exact ⟨rfl, by rw [hg.2]; exact hP⟩
set_option maxHeartbeats 4000000 in
theorem ct_Ceil_canWhite (hR : CeilI c ro st mi he le wh si ca wn wt g) (hP : P' g) : CV 1 0 0 mX0_canWhite c [] g (fun v g' => v = some (.int (wh)) ∧ P' g') := by
  refine ⟨hR.V, ?_⟩
  refine ct_of (by decide) (fun _ _ => Nat.le_of_ble_eq_true rfl) ?_
  dsimp only [pad, ent]
  refine aw_P (P' := fun g' => CeilI c ro st mi he le wh si ca wn wt g' ∧ g' = g) (fun g' e => by subst e; exact ⟨hR, rfl⟩) ?_
  refine r_aload_n (pc := 0) dX0_canWhite_0 rfl ?_
  refine r_getf (pc := 1) (k := 7) dX0_canWhite_1 hX0 eX0 (by decide) fX0_37 (fun _ q => q.1.o) rfl ?_
  refine r_ireturn (pc := 4) (ty := .int) dX0_canWhite_4 rfl rfl ⟨Nat.zero_le _, Nat.zero_le _⟩ (fun gE hg => ?_)
  exact ⟨rfl, by rw [hg.2]; exact hP⟩
set_option maxHeartbeats 4000000 in
theorem ct_Ceil_canSize (hR : CeilI c ro st mi he le wh si ca wn wt g) (hP : P' g) : CV 1 0 0 mX0_canSize c [] g (fun v g' => v = some (.int (si)) ∧ P' g') := by
  refine ⟨hR.V, ?_⟩
  refine ct_of (by decide) (fun _ _ => Nat.le_of_ble_eq_true rfl) ?_
  dsimp only [pad, ent]
  refine aw_P (P' := fun g' => CeilI c ro st mi he le wh si ca wn wt g' ∧ g' = g) (fun g' e => by subst e; exact ⟨hR, rfl⟩) ?_
  refine r_aload_n (pc := 0) dX0_canSize_0 rfl ?_
  refine r_getf (pc := 1) (k := 8) dX0_canSize_1 hX0 eX0 (by decide) fX0_40 (fun _ q => q.1.o) rfl ?_
  refine r_ireturn (pc := 4) (ty := .int) dX0_canSize_4 rfl rfl ⟨Nat.zero_le _, Nat.zero_le _⟩ (fun gE hg => ?_)
  exact ⟨rfl, by rw [hg.2]; exact hP⟩
set_option maxHeartbeats 4000000 in
theorem ct_Ceil_cansBegun (hR : CeilI c ro st mi he le wh si ca wn wt g) (hP : P' g) : CV 1 0 0 mX0_cansBegun c [] g (fun v g' => v = some (.int (ca)) ∧ P' g') := by
  refine ⟨hR.V, ?_⟩
  refine ct_of (by decide) (fun _ _ => Nat.le_of_ble_eq_true rfl) ?_
  dsimp only [pad, ent]
  refine aw_P (P' := fun g' => CeilI c ro st mi he le wh si ca wn wt g' ∧ g' = g) (fun g' e => by subst e; exact ⟨hR, rfl⟩) ?_
  refine r_aload_n (pc := 0) dX0_cansBegun_0 rfl ?_
  refine r_getf (pc := 1) (k := 9) dX0_cansBegun_1 hX0 eX0 (by decide) fX0_43 (fun _ q => q.1.o) rfl ?_
  refine r_ireturn (pc := 4) (ty := .int) dX0_cansBegun_4 rfl rfl ⟨Nat.zero_le _, Nat.zero_le _⟩ (fun gE hg => ?_)
  exact ⟨rfl, by rw [hg.2]; exact hP⟩
set_option maxHeartbeats 4000000 in
theorem ct_Ceil_cells (hR : CeilI c ro st mi he le wh si ca wn wt g) (hP : P' g) : CV 2 0 0 mX0_cells c [] g (fun v g' => v = some (.int (nI wn.length)) ∧ P' g') := by
  refine ⟨hR.V, ?_⟩
  refine ct_of (by decide) (fun _ _ => Nat.le_of_ble_eq_true rfl) ?_
  dsimp only [pad, ent]
  refine aw_P (P' := fun g' => CeilI c ro st mi he le wh si ca wn wt g' ∧ g' = g) (fun g' e => by subst e; exact ⟨hR, rfl⟩) ?_
  refine r_aload_n (pc := 0) dX0_cells_0 rfl ?_
  refine r_getf (pc := 1) (k := 0) dX0_cells_1 hX0 eX0 (by decide) fX0_14 (fun _ q => q.1.o) rfl ?_
  refine r_Vi (pc := 4) (μ' := mX5_length) dX0_cells_4 nX0_50 iX5_length vX5_length kX5_length rfl rfl (rr (by decide) rfl) rfl ⟨Nat.zero_le _, Nat.zero_le _⟩ (fun g' q => ct_Row_length q.1.2.2.1 q) ?_
  refine r_ireturn (pc := 7) (ty := .int) dX0_cells_7 rfl rfl ⟨Nat.zero_le _, Nat.zero_le _⟩ (fun gE hg => ?_)
  exact ⟨rfl, by rw [hg.2]; exact hP⟩
set_option maxHeartbeats 4000000 in
theorem ct_Ceil_isCell {i : Int32} (hR : CeilI c ro st mi he le wh si ca wn wt g) (hP : P' g) : CV 2 0 0 mX0_isCell c [.int i] g (fun v g' => v = some (.int (b2i (hasL wn i))) ∧ P' g') := by
  refine ⟨hR.V, ?_⟩
  refine ct_of (by decide) (fun _ _ => Nat.le_of_ble_eq_true rfl) ?_
  dsimp only [pad, ent]
  refine aw_P (P' := fun g' => CeilI c ro st mi he le wh si ca wn wt g' ∧ g' = g) (fun g' e => by subst e; exact ⟨hR, rfl⟩) ?_
  refine r_aload_n (pc := 0) dX0_isCell_0 rfl ?_
  refine r_getf (pc := 1) (k := 0) dX0_isCell_1 hX0 eX0 (by decide) fX0_14 (fun _ q => q.1.o) rfl ?_
  refine r_iload_n (pc := 4) dX0_isCell_4 rfl ?_
  refine r_Vi (pc := 5) (μ' := mX5_has) dX0_isCell_5 nX0_54 iX5_has vX5_has kX5_has rfl rfl (rr (by decide) rfl) rfl ⟨Nat.zero_le _, Nat.zero_le _⟩ (fun g' q => ct_Row_has q.1.2.2.1 q) ?_
  refine r_ireturn (pc := 8) (ty := .boolean) dX0_isCell_8 rfl (by cases hasL wn i <;> rfl) ⟨Nat.zero_le _, Nat.zero_le _⟩ (fun gE hg => ?_)
  exact ⟨rfl, by rw [hg.2]; exact hP⟩
set_option maxHeartbeats 4000000 in
theorem ct_Ceil_isStrip {i : Int32} (hR : CeilI c ro st mi he le wh si ca wn wt g) (hP : P' g) : CV 1 0 0 mX0_isStrip c [.int i] g (fun v g' => v = some (.int (b2i (decide (0 ≤ i.toInt ∧ i.toInt < st.toInt)))) ∧ P' g') := by
  refine ⟨hR.V, ?_⟩
  refine ct_of (by decide) (fun _ _ => Nat.le_of_ble_eq_true rfl) ?_
  dsimp only [pad, ent]
  refine aw_P (P' := fun g' => CeilI c ro st mi he le wh si ca wn wt g' ∧ g' = g) (fun g' e => by subst e; exact ⟨hR, rfl⟩) ?_
  refine r_iload_n (pc := 0) dX0_isStrip_0 rfl ?_
  refine r_if_lt (pc := 1) 16 dX0_isStrip_1 (by decide) (fun c1 => ?_) (fun c1 => ?_)
  · skip
    have k1 := i32_lt0.mp c1
    refine r_iconst (pc := 16) (v := 0) dX0_isStrip_16 (by decide) ?_
    refine r_ireturn (pc := 17) (ty := .boolean) dX0_isStrip_17 rfl rfl ⟨Nat.zero_le _, Nat.zero_le _⟩ (fun gE hg => ?_)
    refine ⟨?_, by rw [hg.2]; exact hP⟩
    first
    | (rw [decide_eq_true (by omega)]; rfl)
    | (rw [decide_eq_false (by omega)]; rfl)
  · skip
    have k1 := ge0 c1
    refine r_iload_n (pc := 4) dX0_isStrip_4 rfl ?_
    refine r_aload_n (pc := 5) dX0_isStrip_5 rfl ?_
    refine r_getf (pc := 6) (k := 3) dX0_isStrip_6 hX0 eX0 (by decide) fX0_25 (fun _ q => q.1.o) rfl ?_
    refine r_icmp_ge (pc := 9) 16 dX0_isStrip_9 (by decide) (fun c9 => ?_) (fun c9 => ?_)
    · skip
      have k9 := fa_le.mp c9
      refine r_iconst (pc := 16) (v := 0) dX0_isStrip_16 (by decide) ?_
      refine r_ireturn (pc := 17) (ty := .boolean) dX0_isStrip_17 rfl rfl ⟨Nat.zero_le _, Nat.zero_le _⟩ (fun gE hg => ?_)
      refine ⟨?_, by rw [hg.2]; exact hP⟩
      first
      | (rw [decide_eq_true (by omega)]; rfl)
      | (rw [decide_eq_false (by omega)]; rfl)
    · skip
      have k9 : ¬ st.toInt ≤ i.toInt := fun q => c9 (fa_le.mpr q)
      refine r_iconst (pc := 12) (v := 1) dX0_isStrip_12 (by decide) ?_
      refine r_goto (pc := 13) 17 dX0_isStrip_13 (by decide) ?_
      refine r_ireturn (pc := 17) (ty := .boolean) dX0_isStrip_17 rfl rfl ⟨Nat.zero_le _, Nat.zero_le _⟩ (fun gE hg => ?_)
      refine ⟨?_, by rw [hg.2]; exact hP⟩
      first
      | (rw [decide_eq_true (by omega)]; rfl)
      | (rw [decide_eq_false (by omega)]; rfl)
set_option maxHeartbeats 4000000 in
theorem ct_Ceil_rowOf {i : Int32} (hR : CeilI c ro st mi he le wh si ca wn wt g) (hP : P' g) : CV 1 0 0 mX0_rowOf c [.int i] g (fun v g' => v = some (.int (if st ≤ 0 then 0 else i / st)) ∧ P' g') := by
  refine ⟨hR.V, ?_⟩
  refine ct_of (by decide) (fun _ _ => Nat.le_of_ble_eq_true rfl) ?_
  dsimp only [pad, ent]
  refine aw_P (P' := fun g' => CeilI c ro st mi he le wh si ca wn wt g' ∧ g' = g) (fun g' e => by subst e; exact ⟨hR, rfl⟩) ?_
  refine r_aload_n (pc := 0) dX0_rowOf_0 rfl ?_
  refine r_getf (pc := 1) (k := 3) dX0_rowOf_1 hX0 eX0 (by decide) fX0_25 (fun _ q => q.1.o) rfl ?_
  refine r_if_le (pc := 4) 16 dX0_rowOf_4 (by decide) (fun c4 => ?_) (fun c4 => ?_)
  · skip
    rw [if_pos c4]
    refine r_iconst (pc := 16) (v := 0) dX0_rowOf_16 (by decide) ?_
    refine r_ireturn (pc := 17) (ty := .int) dX0_rowOf_17 rfl rfl ⟨Nat.zero_le _, Nat.zero_le _⟩ (fun gE hg => ?_)
    exact ⟨rfl, by rw [hg.2]; exact hP⟩
  · skip
    rw [if_neg c4]
    refine r_iload_n (pc := 7) dX0_rowOf_7 rfl ?_
    refine r_aload_n (pc := 8) dX0_rowOf_8 rfl ?_
    refine r_getf (pc := 9) (k := 3) dX0_rowOf_9 hX0 eX0 (by decide) fX0_25 (fun _ q => q.1.o) rfl ?_
    refine r_idiv (pc := 12) dX0_rowOf_12 (fun q => c4 (by rw [q]; decide)) ?_
    refine r_goto (pc := 13) 17 dX0_rowOf_13 (by decide) ?_
    refine r_ireturn (pc := 17) (ty := .int) dX0_rowOf_17 rfl rfl ⟨Nat.zero_le _, Nat.zero_le _⟩ (fun gE hg => ?_)
    exact ⟨rfl, by rw [hg.2]; exact hP⟩
set_option maxHeartbeats 4000000 in
theorem ct_Ceil_stripOf {i : Int32} (hR : CeilI c ro st mi he le wh si ca wn wt g) (hP : P' g) : CV 1 0 0 mX0_stripOf c [.int i] g (fun v g' => v = some (.int (if st ≤ 0 then 0 else i % st)) ∧ P' g') := by
  refine ⟨hR.V, ?_⟩
  refine ct_of (by decide) (fun _ _ => Nat.le_of_ble_eq_true rfl) ?_
  dsimp only [pad, ent]
  refine aw_P (P' := fun g' => CeilI c ro st mi he le wh si ca wn wt g' ∧ g' = g) (fun g' e => by subst e; exact ⟨hR, rfl⟩) ?_
  refine r_aload_n (pc := 0) dX0_stripOf_0 rfl ?_
  refine r_getf (pc := 1) (k := 3) dX0_stripOf_1 hX0 eX0 (by decide) fX0_25 (fun _ q => q.1.o) rfl ?_
  refine r_if_le (pc := 4) 16 dX0_stripOf_4 (by decide) (fun c4 => ?_) (fun c4 => ?_)
  · skip
    rw [if_pos c4]
    refine r_iconst (pc := 16) (v := 0) dX0_stripOf_16 (by decide) ?_
    refine r_ireturn (pc := 17) (ty := .int) dX0_stripOf_17 rfl rfl ⟨Nat.zero_le _, Nat.zero_le _⟩ (fun gE hg => ?_)
    exact ⟨rfl, by rw [hg.2]; exact hP⟩
  · skip
    rw [if_neg c4]
    refine r_iload_n (pc := 7) dX0_stripOf_7 rfl ?_
    refine r_aload_n (pc := 8) dX0_stripOf_8 rfl ?_
    refine r_getf (pc := 9) (k := 3) dX0_stripOf_9 hX0 eX0 (by decide) fX0_25 (fun _ q => q.1.o) rfl ?_
    refine r_irem' (pc := 12) dX0_stripOf_12 (fun q => c4 (by rw [q]; decide)) ?_
    refine r_goto (pc := 13) 17 dX0_stripOf_13 (by decide) ?_
    refine r_ireturn (pc := 17) (ty := .int) dX0_stripOf_17 rfl rfl ⟨Nat.zero_le _, Nat.zero_le _⟩ (fun gE hg => ?_)
    exact ⟨rfl, by rw [hg.2]; exact hP⟩
set_option maxHeartbeats 4000000 in
theorem ct_Ceil_whenAt {r s : Int32} (hR : CeilI c ro st mi he le wh si ca wn wt g) (hP : P' g) : CV 2 0 0 mX0_whenAt c [.int r, .int s] g (fun v g' => v = some (.int (if 0 ≤ s.toInt ∧ s.toInt < st.toInt then atL wn (r * st + s) else -1)) ∧ P' g') := by
  refine ⟨hR.V, ?_⟩
  refine ct_of (by decide) (fun _ _ => Nat.le_of_ble_eq_true rfl) ?_
  dsimp only [pad, ent]
  refine aw_P (P' := fun g' => CeilI c ro st mi he le wh si ca wn wt g' ∧ g' = g) (fun g' e => by subst e; exact ⟨hR, rfl⟩) ?_
  refine r_aload_n (pc := 0) dX0_whenAt_0 rfl ?_
  refine r_iload_n (pc := 1) dX0_whenAt_1 rfl ?_
  refine r_Vi (pc := 2) (μ' := mX0_isStrip) dX0_whenAt_2 nX0_58 iX0_isStrip vX0_isStrip kX0_isStrip rfl rfl (rr (by decide) rfl) rfl ⟨Nat.zero_le _, Nat.zero_le _⟩ (fun g' q => ct_Ceil_isStrip q.1 q) ?_
  refine r_if_eq (pc := 5) 26 dX0_whenAt_5 (by decide) (fun c5 => ?_) (fun c5 => ?_)
  · skip
    have k5 : ¬ (0 ≤ s.toInt ∧ s.toInt < st.toInt) := fun q => by rw [decide_eq_true q] at c5; exact absurd c5 (by decide)
    rw [if_neg k5]
    refine r_iconst (pc := 26) (v := (-1)) dX0_whenAt_26 (by decide) ?_
    refine r_ireturn (pc := 27) (ty := .int) dX0_whenAt_27 rfl rfl ⟨Nat.zero_le _, Nat.zero_le _⟩ (fun gE hg => ?_)
    exact ⟨rfl, by rw [hg.2]; exact hP⟩
  · skip
    have k5 : 0 ≤ s.toInt ∧ s.toInt < st.toInt := Decidable.byContradiction fun q => by rw [decide_eq_false q] at c5; exact c5 rfl
    rw [if_pos k5]
    refine r_aload_n (pc := 8) dX0_whenAt_8 rfl ?_
    refine r_getf (pc := 9) (k := 0) dX0_whenAt_9 hX0 eX0 (by decide) fX0_14 (fun _ q => q.1.o) rfl ?_
    refine r_iload_n (pc := 12) dX0_whenAt_12 rfl ?_
    refine r_aload_n (pc := 13) dX0_whenAt_13 rfl ?_
    refine r_getf (pc := 14) (k := 3) dX0_whenAt_14 hX0 eX0 (by decide) fX0_25 (fun _ q => q.1.o) rfl ?_
    refine r_imul (pc := 17) dX0_whenAt_17 ?_
    refine r_iload_n (pc := 18) dX0_whenAt_18 rfl ?_
    refine r_iadd (pc := 19) dX0_whenAt_19 ?_
    refine r_Vi (pc := 20) (μ' := mX5_at) dX0_whenAt_20 nX0_61 iX5_at vX5_at kX5_at rfl rfl (rr (by decide) rfl) rfl ⟨Nat.zero_le _, Nat.zero_le _⟩ (fun g' q => ct_Row_at q.1.2.2.1 q) ?_
    refine r_goto (pc := 23) 27 dX0_whenAt_23 (by decide) ?_
    refine r_ireturn (pc := 27) (ty := .int) dX0_whenAt_27 rfl rfl ⟨Nat.zero_le _, Nat.zero_le _⟩ (fun gE hg => ?_)
    exact ⟨rfl, by rw [hg.2]; exact hP⟩
set_option maxHeartbeats 4000000 in
theorem ct_Ceil_whiteAt {r s : Int32} (hR : CeilI c ro st mi he le wh si ca wn wt g) (hP : P' g) : CV 2 0 0 mX0_whiteAt c [.int r, .int s] g (fun v g' => v = some (.int (if 0 ≤ s.toInt ∧ s.toInt < st.toInt then atL wt (r * st + s) else 0)) ∧ P' g') := by
  refine ⟨hR.V, ?_⟩
  refine ct_of (by decide) (fun _ _ => Nat.le_of_ble_eq_true rfl) ?_
  dsimp only [pad, ent]
  refine aw_P (P' := fun g' => CeilI c ro st mi he le wh si ca wn wt g' ∧ g' = g) (fun g' e => by subst e; exact ⟨hR, rfl⟩) ?_
  refine r_aload_n (pc := 0) dX0_whiteAt_0 rfl ?_
  refine r_iload_n (pc := 1) dX0_whiteAt_1 rfl ?_
  refine r_Vi (pc := 2) (μ' := mX0_isStrip) dX0_whiteAt_2 nX0_58 iX0_isStrip vX0_isStrip kX0_isStrip rfl rfl (rr (by decide) rfl) rfl ⟨Nat.zero_le _, Nat.zero_le _⟩ (fun g' q => ct_Ceil_isStrip q.1 q) ?_
  refine r_if_eq (pc := 5) 26 dX0_whiteAt_5 (by decide) (fun c5 => ?_) (fun c5 => ?_)
  · skip
    have k5 : ¬ (0 ≤ s.toInt ∧ s.toInt < st.toInt) := fun q => by rw [decide_eq_true q] at c5; exact absurd c5 (by decide)
    rw [if_neg k5]
    refine r_iconst (pc := 26) (v := 0) dX0_whiteAt_26 (by decide) ?_
    refine r_ireturn (pc := 27) (ty := .int) dX0_whiteAt_27 rfl rfl ⟨Nat.zero_le _, Nat.zero_le _⟩ (fun gE hg => ?_)
    exact ⟨rfl, by rw [hg.2]; exact hP⟩
  · skip
    have k5 : 0 ≤ s.toInt ∧ s.toInt < st.toInt := Decidable.byContradiction fun q => by rw [decide_eq_false q] at c5; exact c5 rfl
    rw [if_pos k5]
    refine r_aload_n (pc := 8) dX0_whiteAt_8 rfl ?_
    refine r_getf (pc := 9) (k := 1) dX0_whiteAt_9 hX0 eX0 (by decide) fX0_18 (fun _ q => q.1.o) rfl ?_
    refine r_iload_n (pc := 12) dX0_whiteAt_12 rfl ?_
    refine r_aload_n (pc := 13) dX0_whiteAt_13 rfl ?_
    refine r_getf (pc := 14) (k := 3) dX0_whiteAt_14 hX0 eX0 (by decide) fX0_25 (fun _ q => q.1.o) rfl ?_
    refine r_imul (pc := 17) dX0_whiteAt_17 ?_
    refine r_iload_n (pc := 18) dX0_whiteAt_18 rfl ?_
    refine r_iadd (pc := 19) dX0_whiteAt_19 ?_
    refine r_Vi (pc := 20) (μ' := mX5_at) dX0_whiteAt_20 nX0_61 iX5_at vX5_at kX5_at rfl rfl (rr (by decide) rfl) rfl ⟨Nat.zero_le _, Nat.zero_le _⟩ (fun g' q => ct_Row_at q.1.2.2.2 q) ?_
    refine r_goto (pc := 23) 27 dX0_whiteAt_23 (by decide) ?_
    refine r_ireturn (pc := 27) (ty := .int) dX0_whiteAt_27 rfl rfl ⟨Nat.zero_le _, Nat.zero_le _⟩ (fun gE hg => ?_)
    exact ⟨rfl, by rw [hg.2]; exact hP⟩
def cntL (l : List Int32) : Nat → Nat
  | 0 => 0
  | k + 1 => cntL l k + (if l.getD k 0 = -1 then 0 else 1)
theorem cntL_le (l : List Int32) : ∀ k, cntL l k ≤ k
  | 0 => Nat.le_refl 0
  | k + 1 => by have := cntL_le l k; rw [cntL]; split <;> omega
set_option maxHeartbeats 4000000 in
theorem ct_Ceil_rolledCells (hR : CeilI c ro st mi he le wh si ca wn wt g) (hP : P' g) : CV 2 0 0 mX0_rolledCells c [] g (fun v g' => v = some (.int (nI (cntL wn wn.length))) ∧ P' g') := by
  have hl := hR.2.2.1.2.1
  have hT := nI_T (n := wn.length) (by omega)
  refine ⟨hR.V, ?_⟩
  refine ct_of (by decide) (fun _ _ => Nat.le_of_ble_eq_true rfl) ?_
  dsimp only [pad, ent]
  refine aw_P (P' := fun g' => CeilI c ro st mi he le wh si ca wn wt g' ∧ g' = g) (fun g' e => by subst e; exact ⟨hR, rfl⟩) ?_
  have L : ∀ k, k ≤ wn.length → ∀ y : Option Value, AW (fun _ => True) (rmd 2 0 0) mX0_rolledCells 0 0 4 [some (.ref c), some (.int (nI (cntL wn k))), some (.int (nI k))] [] (fun g' => CeilI c ro st mi he le wh si ca wn wt g' ∧ g' = g) (fun v g' => v = some (.int (nI (cntL wn wn.length))) ∧ P' g') := by
    refine up_loop ?_ ?_
    · intro _
      refine r_iload_n (pc := 4) dX0_rolledCells_4 rfl ?_
      refine r_aload_n (pc := 5) dX0_rolledCells_5 rfl ?_
      refine r_getf (pc := 6) (k := 0) dX0_rolledCells_6 hX0 eX0 (by decide) fX0_14 (fun _ q => q.1.o) rfl ?_
      refine r_Vi (pc := 9) (μ' := mX5_length) dX0_rolledCells_9 nX0_50 iX5_length vX5_length kX5_length rfl rfl (rr (by decide) rfl) rfl ⟨Nat.zero_le _, Nat.zero_le _⟩ (fun g' q => ct_Row_length q.1.2.2.1 q) ?_
      refine r_icmp_ge (pc := 12) 36 dX0_rolledCells_12 (by decide) (fun c12 => ?_) (fun c12 => ?_)
      · skip
        refine r_iload_n (pc := 36) dX0_rolledCells_36 rfl ?_
        refine r_ireturn (pc := 37) (ty := .int) dX0_rolledCells_37 rfl rfl ⟨Nat.zero_le _, Nat.zero_le _⟩ (fun gE hg => ?_)
        exact ⟨rfl, by rw [hg.2]; exact hP⟩
      · skip
        exact absurd (fa_le.mpr (Int.le_refl _)) c12
    · intro k hk ih _
      have hTk := nI_T (n := k) (by omega)
      refine r_iload_n (pc := 4) dX0_rolledCells_4 rfl ?_
      refine r_aload_n (pc := 5) dX0_rolledCells_5 rfl ?_
      refine r_getf (pc := 6) (k := 0) dX0_rolledCells_6 hX0 eX0 (by decide) fX0_14 (fun _ q => q.1.o) rfl ?_
      refine r_Vi (pc := 9) (μ' := mX5_length) dX0_rolledCells_9 nX0_50 iX5_length vX5_length kX5_length rfl rfl (rr (by decide) rfl) rfl ⟨Nat.zero_le _, Nat.zero_le _⟩ (fun g' q => ct_Row_length q.1.2.2.1 q) ?_
      refine r_icmp_ge (pc := 12) 36 dX0_rolledCells_12 (by decide) (fun c12 => ?_) (fun c12 => ?_)
      · skip
        exact absurd c12 (fun q => by have := fa_le.mp q; omega)
      · skip
        refine r_aload_n (pc := 15) dX0_rolledCells_15 rfl ?_
        refine r_getf (pc := 16) (k := 0) dX0_rolledCells_16 hX0 eX0 (by decide) fX0_14 (fun _ q => q.1.o) rfl ?_
        refine r_iload_n (pc := 19) dX0_rolledCells_19 rfl ?_
        refine r_Vi (pc := 20) (μ' := mX5_at) dX0_rolledCells_20 nX0_61 iX5_at vX5_at kX5_at rfl rfl (rr (by decide) rfl) rfl ⟨Nat.zero_le _, Nat.zero_le _⟩ (fun g' q => ct_Row_at q.1.2.2.1 q) ?_
        rw [atL_nI (show k ≤ 4000 by omega)]
        refine r_iconst (pc := 23) (v := (-1)) dX0_rolledCells_23 (by decide) ?_
        refine r_icmp_eq (pc := 24) 30 dX0_rolledCells_24 (by decide) (fun c24 => ?_) (fun c24 => ?_)
        · skip
          have e : cntL wn (k + 1) = cntL wn k := by rw [cntL, if_pos c24, Nat.add_zero]
          try rw [nI_s]
          rw [← e]
          refine r_iinc1 (pc := 30) dX0_rolledCells_30 rfl (Nat.le_of_ble_eq_true rfl) rfl ?_
          dsimp only [lset]
          refine r_goto (pc := 33) 4 dX0_rolledCells_33 (by decide) ?_
          rw [nI_s]
          exact ih none
        · skip
          have e : cntL wn (k + 1) = cntL wn k + 1 := by rw [cntL, if_neg c24]
          refine r_iinc1 (pc := 27) dX0_rolledCells_27 rfl (Nat.le_of_ble_eq_true rfl) rfl ?_
          dsimp only [lset]
          try rw [nI_s]
          rw [← e]
          refine r_iinc1 (pc := 30) dX0_rolledCells_30 rfl (Nat.le_of_ble_eq_true rfl) rfl ?_
          dsimp only [lset]
          refine r_goto (pc := 33) 4 dX0_rolledCells_33 (by decide) ?_
          rw [nI_s]
          exact ih none
  refine r_iconst (pc := 0) (v := 0) dX0_rolledCells_0 (by decide) ?_
  refine r_istore_n (pc := 1) dX0_rolledCells_1 rfl (Nat.le_of_ble_eq_true rfl) rfl ?_
  dsimp only [lset]
  refine r_iconst (pc := 2) (v := 0) dX0_rolledCells_2 (by decide) ?_
  refine r_istore_n (pc := 3) dX0_rolledCells_3 rfl (Nat.le_of_ble_eq_true rfl) rfl ?_
  dsimp only [lset]
  exact L 0 (Nat.zero_le _) none
def setOk (what v : Int32) : Bool := if what = 0 then decide (0 ≤ v.toInt ∧ v.toInt ≤ 9) else if what = 1 then decide (0 ≤ v.toInt ∧ v.toInt ≤ 99) else if what = 2 then decide (0 ≤ v.toInt ∧ v.toInt ≤ 99) else if what = 3 then decide (1 ≤ v.toInt ∧ v.toInt ≤ 99) else false
set_option maxHeartbeats 4000000 in
theorem ct_Ceil_isSetting {what v : Int32} (g : AH) : CT 1 0 0 mX0_isSetting [.int what, .int v] g (fun w g' => w = some (.int (b2i (setOk what v))) ∧ g' = g) := by
  refine ct_of (by decide) (fun _ _ => Nat.le_of_ble_eq_true rfl) ?_
  dsimp only [pad, ent]
  unfold setOk
  refine r_iload_n (pc := 0) dX0_isSetting_0 rfl ?_
  by_cases s1_0 : what = 0
  · skip
    refine r_tableAt (pc := 1) 32 0 dX0_isSetting_1 (by rw [s1_0]; decide) (by decide) rfl (by decide) ?_
    simp only [s1_0, if_true]
    refine r_iload_n (pc := 32) dX0_isSetting_32 rfl ?_
    refine r_if_lt (pc := 33) 46 dX0_isSetting_33 (by decide) (fun c33 => ?_) (fun c33 => ?_)
    · skip
      have k1 := i32_lt0.mp c33
      refine r_iconst (pc := 46) (v := 0) dX0_isSetting_46 (by decide) ?_
      refine r_ireturn (pc := 47) (ty := .boolean) dX0_isSetting_47 rfl rfl ⟨Nat.zero_le _, Nat.zero_le _⟩ (fun gE hg => ?_)
      refine ⟨?_, hg⟩
      first
      | rfl
      | (rw [decide_eq_true (by omega)]; rfl)
      | (rw [decide_eq_false (by omega)]; rfl)
    · skip
      have k1 := ge0 c33
      refine r_iload_n (pc := 36) dX0_isSetting_36 rfl ?_
      refine r_bipush (pc := 37) (v := 9) dX0_isSetting_37 (by decide) ?_
      refine r_icmp_gt (pc := 39) 46 dX0_isSetting_39 (by decide) (fun c39 => ?_) (fun c39 => ?_)
      · skip
        have k2 : (9 : Int) < v.toInt := fa_lt.mp c39
        refine r_iconst (pc := 46) (v := 0) dX0_isSetting_46 (by decide) ?_
        refine r_ireturn (pc := 47) (ty := .boolean) dX0_isSetting_47 rfl rfl ⟨Nat.zero_le _, Nat.zero_le _⟩ (fun gE hg => ?_)
        refine ⟨?_, hg⟩
        first
        | rfl
        | (rw [decide_eq_true (by omega)]; rfl)
        | (rw [decide_eq_false (by omega)]; rfl)
      · skip
        have k2 : ¬ (9 : Int) < v.toInt := fun q => c39 (fa_lt.mpr q)
        refine r_iconst (pc := 42) (v := 1) dX0_isSetting_42 (by decide) ?_
        refine r_goto (pc := 43) 47 dX0_isSetting_43 (by decide) ?_
        refine r_ireturn (pc := 47) (ty := .boolean) dX0_isSetting_47 rfl rfl ⟨Nat.zero_le _, Nat.zero_le _⟩ (fun gE hg => ?_)
        refine ⟨?_, hg⟩
        first
        | rfl
        | (rw [decide_eq_true (by omega)]; rfl)
        | (rw [decide_eq_false (by omega)]; rfl)
  by_cases s1_1 : what = 1
  · skip
    refine r_tableAt (pc := 1) 48 1 dX0_isSetting_1 (by rw [s1_1]; decide) (by decide) rfl (by decide) ?_
    simp only [s1_1, if_true, show ¬ (1 : Int32) = 0 by decide, if_false]
    refine r_iload_n (pc := 48) dX0_isSetting_48 rfl ?_
    refine r_if_lt (pc := 49) 62 dX0_isSetting_49 (by decide) (fun c49 => ?_) (fun c49 => ?_)
    · skip
      have k1 := i32_lt0.mp c49
      refine r_iconst (pc := 62) (v := 0) dX0_isSetting_62 (by decide) ?_
      refine r_ireturn (pc := 63) (ty := .boolean) dX0_isSetting_63 rfl rfl ⟨Nat.zero_le _, Nat.zero_le _⟩ (fun gE hg => ?_)
      refine ⟨?_, hg⟩
      first
      | rfl
      | (rw [decide_eq_true (by omega)]; rfl)
      | (rw [decide_eq_false (by omega)]; rfl)
    · skip
      have k1 := ge0 c49
      refine r_iload_n (pc := 52) dX0_isSetting_52 rfl ?_
      refine r_bipush (pc := 53) (v := 99) dX0_isSetting_53 (by decide) ?_
      refine r_icmp_gt (pc := 55) 62 dX0_isSetting_55 (by decide) (fun c55 => ?_) (fun c55 => ?_)
      · skip
        have k2 : (99 : Int) < v.toInt := fa_lt.mp c55
        refine r_iconst (pc := 62) (v := 0) dX0_isSetting_62 (by decide) ?_
        refine r_ireturn (pc := 63) (ty := .boolean) dX0_isSetting_63 rfl rfl ⟨Nat.zero_le _, Nat.zero_le _⟩ (fun gE hg => ?_)
        refine ⟨?_, hg⟩
        first
        | rfl
        | (rw [decide_eq_true (by omega)]; rfl)
        | (rw [decide_eq_false (by omega)]; rfl)
      · skip
        have k2 : ¬ (99 : Int) < v.toInt := fun q => c55 (fa_lt.mpr q)
        refine r_iconst (pc := 58) (v := 1) dX0_isSetting_58 (by decide) ?_
        refine r_goto (pc := 59) 63 dX0_isSetting_59 (by decide) ?_
        refine r_ireturn (pc := 63) (ty := .boolean) dX0_isSetting_63 rfl rfl ⟨Nat.zero_le _, Nat.zero_le _⟩ (fun gE hg => ?_)
        refine ⟨?_, hg⟩
        first
        | rfl
        | (rw [decide_eq_true (by omega)]; rfl)
        | (rw [decide_eq_false (by omega)]; rfl)
  by_cases s1_2 : what = 2
  · skip
    refine r_tableAt (pc := 1) 64 2 dX0_isSetting_1 (by rw [s1_2]; decide) (by decide) rfl (by decide) ?_
    simp only [s1_2, if_true, show ¬ (2 : Int32) = 0 by decide, show ¬ (2 : Int32) = 1 by decide, if_false]
    refine r_iload_n (pc := 64) dX0_isSetting_64 rfl ?_
    refine r_if_lt (pc := 65) 78 dX0_isSetting_65 (by decide) (fun c65 => ?_) (fun c65 => ?_)
    · skip
      have k1 := i32_lt0.mp c65
      refine r_iconst (pc := 78) (v := 0) dX0_isSetting_78 (by decide) ?_
      refine r_ireturn (pc := 79) (ty := .boolean) dX0_isSetting_79 rfl rfl ⟨Nat.zero_le _, Nat.zero_le _⟩ (fun gE hg => ?_)
      refine ⟨?_, hg⟩
      first
      | rfl
      | (rw [decide_eq_true (by omega)]; rfl)
      | (rw [decide_eq_false (by omega)]; rfl)
    · skip
      have k1 := ge0 c65
      refine r_iload_n (pc := 68) dX0_isSetting_68 rfl ?_
      refine r_bipush (pc := 69) (v := 99) dX0_isSetting_69 (by decide) ?_
      refine r_icmp_gt (pc := 71) 78 dX0_isSetting_71 (by decide) (fun c71 => ?_) (fun c71 => ?_)
      · skip
        have k2 : (99 : Int) < v.toInt := fa_lt.mp c71
        refine r_iconst (pc := 78) (v := 0) dX0_isSetting_78 (by decide) ?_
        refine r_ireturn (pc := 79) (ty := .boolean) dX0_isSetting_79 rfl rfl ⟨Nat.zero_le _, Nat.zero_le _⟩ (fun gE hg => ?_)
        refine ⟨?_, hg⟩
        first
        | rfl
        | (rw [decide_eq_true (by omega)]; rfl)
        | (rw [decide_eq_false (by omega)]; rfl)
      · skip
        have k2 : ¬ (99 : Int) < v.toInt := fun q => c71 (fa_lt.mpr q)
        refine r_iconst (pc := 74) (v := 1) dX0_isSetting_74 (by decide) ?_
        refine r_goto (pc := 75) 79 dX0_isSetting_75 (by decide) ?_
        refine r_ireturn (pc := 79) (ty := .boolean) dX0_isSetting_79 rfl rfl ⟨Nat.zero_le _, Nat.zero_le _⟩ (fun gE hg => ?_)
        refine ⟨?_, hg⟩
        first
        | rfl
        | (rw [decide_eq_true (by omega)]; rfl)
        | (rw [decide_eq_false (by omega)]; rfl)
  by_cases s1_3 : what = 3
  · skip
    refine r_tableAt (pc := 1) 80 3 dX0_isSetting_1 (by rw [s1_3]; decide) (by decide) rfl (by decide) ?_
    simp only [s1_3, if_true, show ¬ (3 : Int32) = 0 by decide, show ¬ (3 : Int32) = 1 by decide, show ¬ (3 : Int32) = 2 by decide, if_false]
    refine r_iload_n (pc := 80) dX0_isSetting_80 rfl ?_
    refine r_iconst (pc := 81) (v := 1) dX0_isSetting_81 (by decide) ?_
    refine r_icmp_lt (pc := 82) 95 dX0_isSetting_82 (by decide) (fun c82 => ?_) (fun c82 => ?_)
    · skip
      have k1 : v.toInt < 1 := fa_lt.mp c82
      refine r_iconst (pc := 95) (v := 0) dX0_isSetting_95 (by decide) ?_
      refine r_ireturn (pc := 96) (ty := .boolean) dX0_isSetting_96 rfl rfl ⟨Nat.zero_le _, Nat.zero_le _⟩ (fun gE hg => ?_)
      refine ⟨?_, hg⟩
      first
      | rfl
      | (rw [decide_eq_true (by omega)]; rfl)
      | (rw [decide_eq_false (by omega)]; rfl)
    · skip
      have k1 : ¬ v.toInt < 1 := fun q => c82 (fa_lt.mpr q)
      refine r_iload_n (pc := 85) dX0_isSetting_85 rfl ?_
      refine r_bipush (pc := 86) (v := 99) dX0_isSetting_86 (by decide) ?_
      refine r_icmp_gt (pc := 88) 95 dX0_isSetting_88 (by decide) (fun c88 => ?_) (fun c88 => ?_)
      · skip
        have k2 : (99 : Int) < v.toInt := fa_lt.mp c88
        refine r_iconst (pc := 95) (v := 0) dX0_isSetting_95 (by decide) ?_
        refine r_ireturn (pc := 96) (ty := .boolean) dX0_isSetting_96 rfl rfl ⟨Nat.zero_le _, Nat.zero_le _⟩ (fun gE hg => ?_)
        refine ⟨?_, hg⟩
        first
        | rfl
        | (rw [decide_eq_true (by omega)]; rfl)
        | (rw [decide_eq_false (by omega)]; rfl)
      · skip
        have k2 : ¬ (99 : Int) < v.toInt := fun q => c88 (fa_lt.mpr q)
        refine r_iconst (pc := 91) (v := 1) dX0_isSetting_91 (by decide) ?_
        refine r_goto (pc := 92) 96 dX0_isSetting_92 (by decide) ?_
        refine r_ireturn (pc := 96) (ty := .boolean) dX0_isSetting_96 rfl rfl ⟨Nat.zero_le _, Nat.zero_le _⟩ (fun gE hg => ?_)
        refine ⟨?_, hg⟩
        first
        | rfl
        | (rw [decide_eq_true (by omega)]; rfl)
        | (rw [decide_eq_false (by omega)]; rfl)
  have t1_0 : ¬ (what).toInt = 0 := fun q => s1_0 (Int32.toInt_inj.mp q)
  have t1_1 : ¬ (what).toInt = 1 := fun q => s1_1 (Int32.toInt_inj.mp q)
  have t1_2 : ¬ (what).toInt = 2 := fun q => s1_2 (Int32.toInt_inj.mp q)
  have t1_3 : ¬ (what).toInt = 3 := fun q => s1_3 (Int32.toInt_inj.mp q)
  refine r_tableOut (pc := 1) 97 dX0_isSetting_1 (by omega) (by decide) ?_
  simp only [s1_0, s1_1, s1_2, s1_3, if_false]
  refine r_iconst (pc := 97) (v := 0) dX0_isSetting_97 (by decide) ?_
  refine r_ireturn (pc := 98) (ty := .boolean) dX0_isSetting_98 rfl rfl ⟨Nat.zero_le _, Nat.zero_le _⟩ (fun gE hg => ?_)
  refine ⟨?_, hg⟩
  first
  | rfl
  | (rw [decide_eq_true (by omega)]; rfl)
  | (rw [decide_eq_false (by omega)]; rfl)
set_option maxHeartbeats 4000000 in
theorem ct_Ceil_warmTo {x : Int32} (hR : CeilI c ro st mi he le wh si ca wn wt g) (hP : ∀ g', CeilI c ro st mi x le wh si ca wn wt g' → Off c 5 g g' → P' g') : CV 1 0 0 mX0_warmTo c [.int x] g (fun v g' => v = none ∧ P' g') := by
  refine ⟨hR.V, ?_⟩
  refine ct_of (by decide) (fun _ _ => Nat.le_of_ble_eq_true rfl) ?_
  dsimp only [pad, ent]
  refine aw_P (P' := fun g' => CeilI c ro st mi he le wh si ca wn wt g' ∧ Off c 5 g g') (fun g' e => by subst e; exact ⟨hR, Off.rf _ _ _⟩) ?_
  refine r_aload_n (pc := 0) dX0_warmTo_0 rfl ?_
  refine r_iload_n (pc := 1) dX0_warmTo_1 rfl ?_
  refine r_putf (pc := 2) (k := 5) (P' := fun g' => CeilI c ro st mi x le wh si ca wn wt g' ∧ Off c 5 g g') tyX0 dX0_warmTo_2 hX0 tyX0_ok nmX0 eX0 (by decide) fX0_31 rfl rfl (fun _ _ => rfl) (fun _ _ => rfl) (Nat.le_of_ble_eq_true rfl) (fun _ q => q.1.o) (fun _ q => ⟨q.1.put, q.2.set (by omega) (by omega)⟩) ?_
  refine r_return (pc := 5) dX0_warmTo_5 rfl ⟨Nat.zero_le _, Nat.zero_le _⟩ (fun gE hg => ?_)
  exact ⟨rfl, hP _ hg.1 hg.2⟩
set_option maxHeartbeats 4000000 in
theorem ct_Ceil_letPass {x : Int32} (hR : CeilI c ro st mi he le wh si ca wn wt g) (hP : ∀ g', CeilI c ro st (mi + x) he le wh si ca wn wt g' → Off c 5 g g' → P' g') : CV 1 0 0 mX0_letPass c [.int x] g (fun v g' => v = none ∧ P' g') := by
  refine ⟨hR.V, ?_⟩
  refine ct_of (by decide) (fun _ _ => Nat.le_of_ble_eq_true rfl) ?_
  dsimp only [pad, ent]
  refine aw_P (P' := fun g' => CeilI c ro st mi he le wh si ca wn wt g' ∧ Off c 5 g g') (fun g' e => by subst e; exact ⟨hR, Off.rf _ _ _⟩) ?_
  refine r_aload_n (pc := 0) dX0_letPass_0 rfl ?_
  refine r_dup (pc := 1) dX0_letPass_1 rfl ?_
  refine r_getf (pc := 2) (k := 4) dX0_letPass_2 hX0 eX0 (by decide) fX0_28 (fun _ q => q.1.o) rfl ?_
  refine r_iload_n (pc := 5) dX0_letPass_5 rfl ?_
  refine r_iadd (pc := 6) dX0_letPass_6 ?_
  refine r_putf (pc := 7) (k := 4) (P' := fun g' => CeilI c ro st (mi + x) he le wh si ca wn wt g' ∧ Off c 5 g g') tyX0 dX0_letPass_7 hX0 tyX0_ok nmX0 eX0 (by decide) fX0_28 rfl rfl (fun _ _ => rfl) (fun _ _ => rfl) (Nat.le_of_ble_eq_true rfl) (fun _ q => q.1.o) (fun _ q => ⟨q.1.put, q.2.set (by omega) (by omega)⟩) ?_
  refine r_return (pc := 10) dX0_letPass_10 rfl ⟨Nat.zero_le _, Nat.zero_le _⟩ (fun gE hg => ?_)
  exact ⟨rfl, hP _ hg.1 hg.2⟩
set_option maxHeartbeats 4000000 in
theorem ct_Ceil_letPassWithinBounds {x : Int32} (hR : CeilI c ro st mi he le wh si ca wn wt g) (hP : ∀ g', CeilI c ro st (if mi + x < 9999 then mi + x else 9999) he le wh si ca wn wt g' → Off c 5 g g' → P' g') : CV 2 0 0 mX0_letPassWithinBounds c [.int x] g (fun v g' => v = none ∧ P' g') := by
  refine ⟨hR.V, ?_⟩
  refine ct_of (by decide) (fun _ _ => Nat.le_of_ble_eq_true rfl) ?_
  dsimp only [pad, ent]
  refine aw_P (P' := fun g' => CeilI c ro st mi he le wh si ca wn wt g' ∧ Off c 5 g g') (fun g' e => by subst e; exact ⟨hR, Off.rf _ _ _⟩) ?_
  refine r_aload_n (pc := 0) dX0_letPassWithinBounds_0 rfl ?_
  refine r_sipush (pc := 1) (v := 9999) dX0_letPassWithinBounds_1 (by decide) ?_
  refine r_aload_n (pc := 4) dX0_letPassWithinBounds_4 rfl ?_
  refine r_getf (pc := 5) (k := 4) dX0_letPassWithinBounds_5 hX0 eX0 (by decide) fX0_28 (fun _ q => q.1.o) rfl ?_
  refine r_iload_n (pc := 8) dX0_letPassWithinBounds_8 rfl ?_
  refine r_iadd (pc := 9) dX0_letPassWithinBounds_9 ?_
  refine r_mmin (pc := 10) dX0_letPassWithinBounds_10 nX0_65 ma_s_min z_math ma_c_min ⟨(Nat.le_of_ble_eq_true rfl), (Nat.le_of_ble_eq_true rfl)⟩ (Nat.le_of_ble_eq_true rfl) ⟨Nat.zero_le _, Nat.zero_le _⟩ rfl ?_
  refine r_putf (pc := 13) (k := 4) (P' := fun g' => CeilI c ro st (if mi + x < 9999 then mi + x else 9999) he le wh si ca wn wt g' ∧ Off c 5 g g') tyX0 dX0_letPassWithinBounds_13 hX0 tyX0_ok nmX0 eX0 (by decide) fX0_28 rfl rfl (fun _ _ => rfl) (fun _ _ => rfl) (Nat.le_of_ble_eq_true rfl) (fun _ q => q.1.o) (fun _ q => ⟨q.1.put, q.2.set (by omega) (by omega)⟩) ?_
  refine r_return (pc := 16) dX0_letPassWithinBounds_16 rfl ⟨Nat.zero_le _, Nat.zero_le _⟩ (fun gE hg => ?_)
  exact ⟨rfl, hP _ hg.1 hg.2⟩
def nwI (wh : Int32) : Int32 := if wh < 99 then wh + 1 else 0
set_option maxHeartbeats 4000000 in
theorem ct_Ceil_openCan (hR : CeilI c ro st mi he le wh si ca wn wt g) (hP : ∀ g', CeilI c ro st mi he si (nwI wh) si (ca + 1) wn wt g' → Off c 5 g g' → P' g') : CV 1 0 0 mX0_openCan c [] g (fun v g' => v = none ∧ P' g') := by
  refine ⟨hR.V, ?_⟩
  refine ct_of (by decide) (fun _ _ => Nat.le_of_ble_eq_true rfl) ?_
  dsimp only [pad, ent]
  refine aw_P (P' := fun g' => CeilI c ro st mi he le wh si ca wn wt g' ∧ Off c 5 g g') (fun g' e => by subst e; exact ⟨hR, Off.rf _ _ _⟩) ?_
  refine r_aload_n (pc := 0) dX0_openCan_0 rfl ?_
  refine r_aload_n (pc := 1) dX0_openCan_1 rfl ?_
  refine r_getf (pc := 2) (k := 8) dX0_openCan_2 hX0 eX0 (by decide) fX0_40 (fun _ q => q.1.o) rfl ?_
  refine r_putf (pc := 5) (k := 6) (P' := fun g' => CeilI c ro st mi he si wh si ca wn wt g' ∧ Off c 5 g g') tyX0 dX0_openCan_5 hX0 tyX0_ok nmX0 eX0 (by decide) fX0_34 rfl rfl (fun _ _ => rfl) (fun _ _ => rfl) (Nat.le_of_ble_eq_true rfl) (fun _ q => q.1.o) (fun _ q => ⟨q.1.put, q.2.set (by omega) (by omega)⟩) ?_
  refine r_aload_n (pc := 8) dX0_openCan_8 rfl ?_
  refine r_aload_n (pc := 9) dX0_openCan_9 rfl ?_
  refine r_getf (pc := 10) (k := 7) dX0_openCan_10 hX0 eX0 (by decide) fX0_37 (fun _ q => q.1.o) rfl ?_
  refine r_bipush (pc := 13) (v := 99) dX0_openCan_13 (by decide) ?_
  refine r_icmp_lt (pc := 15) 22 dX0_openCan_15 (by decide) (fun c15 => ?_) (fun c15 => ?_)
  · skip
    have e15 : wh + 1 = nwI wh := (if_pos c15).symm
    refine r_aload_n (pc := 22) dX0_openCan_22 rfl ?_
    refine r_getf (pc := 23) (k := 7) dX0_openCan_23 hX0 eX0 (by decide) fX0_37 (fun _ q => q.1.o) rfl ?_
    refine r_iconst (pc := 26) (v := 1) dX0_openCan_26 (by decide) ?_
    refine r_iadd (pc := 27) dX0_openCan_27 ?_
    rw [e15]
    refine r_putf (pc := 28) (k := 7) (P' := fun g' => CeilI c ro st mi he si (nwI wh) si ca wn wt g' ∧ Off c 5 g g') tyX0 dX0_openCan_28 hX0 tyX0_ok nmX0 eX0 (by decide) fX0_37 rfl rfl (fun _ _ => rfl) (fun _ _ => rfl) (Nat.le_of_ble_eq_true rfl) (fun _ q => q.1.o) (fun _ q => ⟨q.1.put, q.2.set (by omega) (by omega)⟩) ?_
    refine r_aload_n (pc := 31) dX0_openCan_31 rfl ?_
    refine r_dup (pc := 32) dX0_openCan_32 rfl ?_
    refine r_getf (pc := 33) (k := 9) dX0_openCan_33 hX0 eX0 (by decide) fX0_43 (fun _ q => q.1.o) rfl ?_
    refine r_iconst (pc := 36) (v := 1) dX0_openCan_36 (by decide) ?_
    refine r_iadd (pc := 37) dX0_openCan_37 ?_
    refine r_putf (pc := 38) (k := 9) (P' := fun g' => CeilI c ro st mi he si (nwI wh) si (ca + 1) wn wt g' ∧ Off c 5 g g') tyX0 dX0_openCan_38 hX0 tyX0_ok nmX0 eX0 (by decide) fX0_43 rfl rfl (fun _ _ => rfl) (fun _ _ => rfl) (Nat.le_of_ble_eq_true rfl) (fun _ q => q.1.o) (fun _ q => ⟨q.1.put, q.2.set (by omega) (by omega)⟩) ?_
    refine r_return (pc := 41) dX0_openCan_41 rfl ⟨Nat.zero_le _, Nat.zero_le _⟩ (fun gE hg => ?_)
    exact ⟨rfl, hP _ hg.1 hg.2⟩
  · skip
    have e15 : (0 : Int32) = nwI wh := (if_neg c15).symm
    refine r_iconst (pc := 18) (v := 0) dX0_openCan_18 (by decide) ?_
    refine r_goto (pc := 19) 28 dX0_openCan_19 (by decide) ?_
    rw [e15]
    refine r_putf (pc := 28) (k := 7) (P' := fun g' => CeilI c ro st mi he si (nwI wh) si ca wn wt g' ∧ Off c 5 g g') tyX0 dX0_openCan_28 hX0 tyX0_ok nmX0 eX0 (by decide) fX0_37 rfl rfl (fun _ _ => rfl) (fun _ _ => rfl) (Nat.le_of_ble_eq_true rfl) (fun _ q => q.1.o) (fun _ q => ⟨q.1.put, q.2.set (by omega) (by omega)⟩) ?_
    refine r_aload_n (pc := 31) dX0_openCan_31 rfl ?_
    refine r_dup (pc := 32) dX0_openCan_32 rfl ?_
    refine r_getf (pc := 33) (k := 9) dX0_openCan_33 hX0 eX0 (by decide) fX0_43 (fun _ q => q.1.o) rfl ?_
    refine r_iconst (pc := 36) (v := 1) dX0_openCan_36 (by decide) ?_
    refine r_iadd (pc := 37) dX0_openCan_37 ?_
    refine r_putf (pc := 38) (k := 9) (P' := fun g' => CeilI c ro st mi he si (nwI wh) si (ca + 1) wn wt g' ∧ Off c 5 g g') tyX0 dX0_openCan_38 hX0 tyX0_ok nmX0 eX0 (by decide) fX0_43 rfl rfl (fun _ _ => rfl) (fun _ _ => rfl) (Nat.le_of_ble_eq_true rfl) (fun _ q => q.1.o) (fun _ q => ⟨q.1.put, q.2.set (by omega) (by omega)⟩) ?_
    refine r_return (pc := 41) dX0_openCan_41 rfl ⟨Nat.zero_le _, Nat.zero_le _⟩ (fun gE hg => ?_)
    exact ⟨rfl, hP _ hg.1 hg.2⟩
set_option maxHeartbeats 4000000 in
theorem ct_Ceil_build {nr ns : Int32} (hR : CeilI c ro st mi he le wh si ca wn wt g) (hP : ∀ g', CeilI c nr ns mi he le wh si ca (List.replicate (clampI (nr * ns) 36) (-1)) (List.replicate (clampI (nr * ns) 36) 0) g' → Off c 5 g g' → P' g') : CV 3 0 0 mX0_build c [.int nr, .int ns] g (fun v g' => v = none ∧ P' g') := by
  refine ⟨hR.V, ?_⟩
  refine ct_of (by decide) (fun _ _ => Nat.le_of_ble_eq_true rfl) ?_
  dsimp only [pad, ent]
  refine aw_P (P' := fun g' => CeilI c ro st mi he le wh si ca wn wt g' ∧ Off c 5 g g') (fun g' e => by subst e; exact ⟨hR, Off.rf _ _ _⟩) ?_
  refine r_aload_n (pc := 0) dX0_build_0 rfl ?_
  refine r_iload_n (pc := 1) dX0_build_1 rfl ?_
  refine r_putf (pc := 2) (k := 2) (P' := fun g' => CeilI c nr st mi he le wh si ca wn wt g' ∧ Off c 5 g g') tyX0 dX0_build_2 hX0 tyX0_ok nmX0 eX0 (by decide) fX0_21 rfl rfl (fun _ _ => rfl) (fun _ _ => rfl) (Nat.le_of_ble_eq_true rfl) (fun _ q => q.1.o) (fun _ q => ⟨q.1.put, q.2.set (by omega) (by omega)⟩) ?_
  refine r_aload_n (pc := 5) dX0_build_5 rfl ?_
  refine r_iload_n (pc := 6) dX0_build_6 rfl ?_
  refine r_putf (pc := 7) (k := 3) (P' := fun g' => CeilI c nr ns mi he le wh si ca wn wt g' ∧ Off c 5 g g') tyX0 dX0_build_7 hX0 tyX0_ok nmX0 eX0 (by decide) fX0_25 rfl rfl (fun _ _ => rfl) (fun _ _ => rfl) (Nat.le_of_ble_eq_true rfl) (fun _ q => q.1.o) (fun _ q => ⟨q.1.put, q.2.set (by omega) (by omega)⟩) ?_
  refine r_aload_n (pc := 10) dX0_build_10 rfl ?_
  refine r_getf (pc := 11) (k := 0) dX0_build_11 hX0 eX0 (by decide) fX0_14 (fun _ q => q.1.o) rfl ?_
  refine r_aload_n (pc := 14) dX0_build_14 rfl ?_
  refine r_getf (pc := 15) (k := 2) dX0_build_15 hX0 eX0 (by decide) fX0_21 (fun _ q => q.1.o) rfl ?_
  refine r_aload_n (pc := 18) dX0_build_18 rfl ?_
  refine r_getf (pc := 19) (k := 3) dX0_build_19 hX0 eX0 (by decide) fX0_25 (fun _ q => q.1.o) rfl ?_
  refine r_imul (pc := 22) dX0_build_22 ?_
  refine r_iconst (pc := 23) (v := (-1)) dX0_build_23 (by decide) ?_
  refine r_Vv (pc := 24) (μ' := mX5_fill) dX0_build_24 nX0_46 iX5_fill vX5_fill kX5_fill rfl rfl (rr (by decide) rfl) rfl ⟨Nat.zero_le _, Nat.zero_le _⟩ (fun g' q => ct_Row_fill (P' := fun g' => CeilI c nr ns mi he le wh si ca (List.replicate (clampI (nr * ns) 36) (-1)) wt g' ∧ Off c 5 g g') q.1.2.2.1 (fun g2 a b => ⟨q.1.setN a b, q.2.tr (b.wide (by omega) (by omega))⟩)) ?_
  refine r_aload_n (pc := 27) dX0_build_27 rfl ?_
  refine r_getf (pc := 28) (k := 1) dX0_build_28 hX0 eX0 (by decide) fX0_18 (fun _ q => q.1.o) rfl ?_
  refine r_aload_n (pc := 31) dX0_build_31 rfl ?_
  refine r_getf (pc := 32) (k := 2) dX0_build_32 hX0 eX0 (by decide) fX0_21 (fun _ q => q.1.o) rfl ?_
  refine r_aload_n (pc := 35) dX0_build_35 rfl ?_
  refine r_getf (pc := 36) (k := 3) dX0_build_36 hX0 eX0 (by decide) fX0_25 (fun _ q => q.1.o) rfl ?_
  refine r_imul (pc := 39) dX0_build_39 ?_
  refine r_iconst (pc := 40) (v := 0) dX0_build_40 (by decide) ?_
  refine r_Vv (pc := 41) (μ' := mX5_fill) dX0_build_41 nX0_46 iX5_fill vX5_fill kX5_fill rfl rfl (rr (by decide) rfl) rfl ⟨Nat.zero_le _, Nat.zero_le _⟩ (fun g' q => ct_Row_fill (P' := fun g' => CeilI c nr ns mi he le wh si ca (List.replicate (clampI (nr * ns) 36) (-1)) (List.replicate (clampI (nr * ns) 36) 0) g' ∧ Off c 5 g g') q.1.2.2.2 (fun g2 a b => ⟨q.1.setT a b, q.2.tr (b.wide (by omega) (by omega))⟩)) ?_
  refine r_return (pc := 44) dX0_build_44 rfl ⟨Nat.zero_le _, Nat.zero_le _⟩ (fun gE hg => ?_)
  exact ⟨rfl, hP _ hg.1 hg.2⟩
end CeilL
end
section
/-! the ceiling, further: white from a sheet, whens by a sheet, as another one is, ROLL -/
/-- how far p goes from 0 on, n at most -/
def stopAt (p : Nat → Bool) : Nat → Nat
  | 0 => 0
  | n + 1 => if stopAt p n = n ∧ p n = true then n + 1 else stopAt p n
theorem stopAt_le (p : Nat → Bool) : ∀ n, stopAt p n ≤ n
  | 0 => Nat.le_refl 0
  | n + 1 => by have := stopAt_le p n; rw [stopAt]; split <;> omega
theorem stopAt_all {p : Nat → Bool} : ∀ {n : Nat}, (∀ j, j < n → p j = true) → stopAt p n = n
  | 0, _ => rfl
  | n + 1, h => by rw [stopAt, if_pos ⟨stopAt_all (fun j hj => h j (by omega)), h n (by omega)⟩]
theorem stopAt_eq {p : Nat → Bool} {k : Nat} (h : ∀ j, j < k → p j = true) (hk : p k = false) : ∀ {n : Nat}, k < n → stopAt p n = k
  | 0, hn => absurd hn (Nat.not_lt_zero k)
  | n + 1, hn => by
    rw [stopAt]
    by_cases e : k = n
    · subst e; rw [stopAt_all h, if_neg (fun q => by rw [hk] at q; cases q.2)]
    · rw [stopAt_eq h hk (n := n) (by omega), if_neg (fun q => e q.1)]
section CeilM
variable {c r : Nat} {ro st mi he le wh si ca ro2 st2 mi2 he2 le2 wh2 si2 ca2 : Int32} {wn wt wn2 wt2 l : List Int32} {h g : AH} {P' : AH → Prop}
def goodW (l : List Int32) (j : Nat) : Bool := decide (0 ≤ (l.getD j 0).toInt ∧ (l.getD j 0).toInt ≤ 99)
set_option maxHeartbeats 4000000 in
theorem ct_Ceil_whiten {cap : Nat} (hR : CeilI c ro st mi he le wh si ca wn wt g) (hL : RowAt r cap l g) (hd : r + 2 ≤ c ∨ c + 5 ≤ r) (hP : ∀ g', CeilI c ro st mi he le wh si ca wn (mvL wt l 0 0 0 (stopAt (goodW l) (min l.length wt.length))) g' → Off c 5 g g' → P' g') : CV 2 0 0 mX0_whiten c [.ref r] g (fun v g' => v = some (.int (nI (stopAt (goodW l) (min l.length wt.length)))) ∧ P' g') := by
  have h1 := hL.2.1
  have h2 := hL.2.2.1
  have h3 := hR.2.2.2.2.1
  refine ⟨hR.V, ?_⟩
  refine ct_of (by decide) (fun _ _ => Nat.le_of_ble_eq_true rfl) ?_
  dsimp only [pad, ent]
  refine aw_P (P' := fun g' => CeilI c ro st mi he le wh si ca wn wt g' ∧ Off c 5 g g') (fun g' e => by subst e; exact ⟨hR, Off.rf _ _ _⟩) ?_
  obtain ⟨n, hn⟩ : ∃ n, n = min l.length wt.length := ⟨_, rfl⟩
  rw [← hn] at hP ⊢
  have hT := nI_T (n := n) (by omega)
  have L : ∀ k, k ≤ n → (∀ j, j < k → goodW l j = true) → AW (fun _ => True) (rmd 2 0 0) mX0_whiten 0 0 17 [some (.ref c), some (.ref r), some (.int (nI n)), some (.int (nI k)), none] [] (fun g' => CeilI c ro st mi he le wh si ca wn (mvL wt l 0 0 0 k) g' ∧ Off c 5 g g') (fun v g' => v = some (.int (nI (stopAt (goodW l) n))) ∧ P' g') := by
    refine up_loop ?_ ?_
    · intro hj
      rw [stopAt_all hj] at hP ⊢
      refine r_iload_n (pc := 17) dX0_whiten_17 rfl ?_
      refine r_iload_n (pc := 18) dX0_whiten_18 rfl ?_
      refine r_icmp_ge (pc := 19) 59 dX0_whiten_19 (by decide) (fun c19 => ?_) (fun c19 => ?_)
      · skip
        refine r_iload_n (pc := 59) dX0_whiten_59 rfl ?_
        refine r_ireturn (pc := 60) (ty := .int) dX0_whiten_60 rfl rfl ⟨Nat.zero_le _, Nat.zero_le _⟩ (fun gE hg => ?_)
        exact ⟨rfl, hP _ hg.1 hg.2⟩
      · skip
        exact absurd (fa_le.mpr (Int.le_refl _)) c19
    · intro k hk ih hj
      have hTk := nI_T (n := k) (by omega)
      refine r_iload_n (pc := 17) dX0_whiten_17 rfl ?_
      refine r_iload_n (pc := 18) dX0_whiten_18 rfl ?_
      refine r_icmp_ge (pc := 19) 59 dX0_whiten_19 (by decide) (fun c19 => ?_) (fun c19 => ?_)
      · skip
        exact absurd c19 (fun q => by have := fa_le.mp q; omega)
      · skip
        refine r_aload_n (pc := 22) dX0_whiten_22 rfl ?_
        refine r_iload_n (pc := 23) dX0_whiten_23 rfl ?_
        refine r_Vi (pc := 24) (μ' := mX5_at) dX0_whiten_24 nX0_61 iX5_at vX5_at kX5_at rfl rfl (rr (by decide) rfl) rfl ⟨Nat.zero_le _, Nat.zero_le _⟩ (fun g' q => ct_Row_at (hL.off q.2 (by omega)) q) ?_
        rw [atL_nI (show k ≤ 4000 by omega)]
        refine r_istore (pc := 27) dX0_whiten_27 (Nat.le_of_ble_eq_true rfl) rfl ?_
        dsimp only [lset]
        refine r_iload (pc := 29) dX0_whiten_29 rfl ?_
        refine r_if_lt (pc := 31) 41 dX0_whiten_31 (by decide) (fun c31 => ?_) (fun c31 => ?_)
        · skip
          have k1 := i32_lt0.mp c31
          have kb : goodW l k = false := decide_eq_false (by omega)
          refine r_iload_n (pc := 41) dX0_whiten_41 rfl ?_
          refine r_ireturn (pc := 42) (ty := .int) dX0_whiten_42 rfl rfl ⟨Nat.zero_le _, Nat.zero_le _⟩ (fun gE hg => ?_)
          rw [stopAt_eq hj kb hk] at hP ⊢
          exact ⟨rfl, hP _ hg.1 hg.2⟩
        · skip
          have k1 := ge0 c31
          refine r_iload (pc := 34) dX0_whiten_34 rfl ?_
          refine r_bipush (pc := 36) (v := 99) dX0_whiten_36 (by decide) ?_
          refine r_icmp_le (pc := 38) 43 dX0_whiten_38 (by decide) (fun c38 => ?_) (fun c38 => ?_)
          · skip
            have k2 : (l.getD k 0).toInt ≤ 99 := fa_le.mp c38
            have kg : goodW l k = true := decide_eq_true (by omega)
            refine r_aload_n (pc := 43) dX0_whiten_43 rfl ?_
            refine r_getf (pc := 44) (k := 1) dX0_whiten_44 hX0 eX0 (by decide) fX0_18 (fun _ q => q.1.o) rfl ?_
            refine r_iload_n (pc := 47) dX0_whiten_47 rfl ?_
            refine r_iload (pc := 48) dX0_whiten_48 rfl ?_
            refine r_Vv (pc := 50) (μ' := mX5_write) dX0_whiten_50 nX0_86 iX5_write vX5_write kX5_write rfl rfl (rr (by decide) rfl) rfl ⟨Nat.zero_le _, Nat.zero_le _⟩ (fun g' q => ct_Row_write (P' := fun g' => CeilI c ro st mi he le wh si ca wn (mvL wt l 0 0 0 (k + 1)) g' ∧ Off c 5 g g') q.1.2.2.2 (fun g2 a b => by
                  rw [wrL_nI (by omega)] at a
                  have e := mvL_up (l := wt) (src := l) (j := 0) (i := 0) (k := k) (by omega)
                  rw [Nat.zero_add] at e
                  rw [e] at a
                  exact ⟨q.1.setT a b, q.2.tr (b.wide (by omega) (by omega))⟩)) ?_
            refine r_iinc1 (pc := 53) dX0_whiten_53 rfl (Nat.le_of_ble_eq_true rfl) rfl ?_
            dsimp only [lset]
            refine r_goto (pc := 56) 17 dX0_whiten_56 (by decide) ?_
            rw [nI_s]
            exact aw_dr 4 rfl (ih (fun j hj2 => by
              by_cases e : j = k
              · rw [e]; exact kg
              · exact hj j (by omega)))
          · skip
            have k2 : ¬ (l.getD k 0).toInt ≤ 99 := fun q => c38 (fa_le.mpr q)
            have kb : goodW l k = false := decide_eq_false (by omega)
            refine r_iload_n (pc := 41) dX0_whiten_41 rfl ?_
            refine r_ireturn (pc := 42) (ty := .int) dX0_whiten_42 rfl rfl ⟨Nat.zero_le _, Nat.zero_le _⟩ (fun gE hg => ?_)
            rw [stopAt_eq hj kb hk] at hP ⊢
            exact ⟨rfl, hP _ hg.1 hg.2⟩
  refine r_aload_n (pc := 0) dX0_whiten_0 rfl ?_
  refine r_Vi (pc := 1) (μ' := mX5_length) dX0_whiten_1 nX0_50 iX5_length vX5_length kX5_length rfl rfl (rr (by decide) rfl) rfl ⟨Nat.zero_le _, Nat.zero_le _⟩ (fun g' q => ct_Row_length (hL.off q.2 (by omega)) q) ?_
  refine r_aload_n (pc := 4) dX0_whiten_4 rfl ?_
  refine r_getf (pc := 5) (k := 1) dX0_whiten_5 hX0 eX0 (by decide) fX0_18 (fun _ q => q.1.o) rfl ?_
  refine r_Vi (pc := 8) (μ' := mX5_length) dX0_whiten_8 nX0_50 iX5_length vX5_length kX5_length rfl rfl (rr (by decide) rfl) rfl ⟨Nat.zero_le _, Nat.zero_le _⟩ (fun g' q => ct_Row_length q.1.2.2.2 q) ?_
  refine r_mmin (pc := 11) dX0_whiten_11 nX0_65 ma_s_min z_math ma_c_min ⟨(Nat.le_of_ble_eq_true rfl), (Nat.le_of_ble_eq_true rfl)⟩ (Nat.le_of_ble_eq_true rfl) ⟨Nat.zero_le _, Nat.zero_le _⟩ rfl ?_
  rw [min_eq (by omega) (by omega), ← hn]
  refine r_istore_n (pc := 14) dX0_whiten_14 rfl (Nat.le_of_ble_eq_true rfl) rfl ?_
  dsimp only [lset]
  refine r_iconst (pc := 15) (v := 0) dX0_whiten_15 (by decide) ?_
  refine r_istore_n (pc := 16) dX0_whiten_16 rfl (Nat.le_of_ble_eq_true rfl) rfl ?_
  dsimp only [lset]
  exact aw_P (fun g' q => ⟨by rw [mvL_0]; exact q.1, q.2⟩) (L 0 (Nat.zero_le _) (fun j hj => absurd hj (Nat.not_lt_zero j)))
def eqW (l wn : List Int32) (j : Nat) : Bool := decide (l.getD j 0 = wn.getD j 0)
def fowI (l wn : List Int32) : Int32 := if stopAt (eqW l wn) (min l.length wn.length) < min l.length wn.length then nI (stopAt (eqW l wn) (min l.length wn.length)) else if l.length = wn.length then -1 else nI (min l.length wn.length)
set_option maxHeartbeats 4000000 in
theorem ct_Ceil_firstOtherWhen {cap : Nat} (hR : CeilI c ro st mi he le wh si ca wn wt g) (hL : RowAt r cap l g) (hP : P' g) : CV 2 0 0 mX0_firstOtherWhen c [.ref r] g (fun v g' => v = some (.int (fowI l wn)) ∧ P' g') := by
  have h1 := hL.2.1
  have h2 := hL.2.2.1
  have h3 := hR.2.2.1.2.1
  refine ⟨hR.V, ?_⟩
  refine ct_of (by decide) (fun _ _ => Nat.le_of_ble_eq_true rfl) ?_
  dsimp only [pad, ent]
  have hL2 : ∀ g', g' = g → RowAt r cap l g' := fun g' e => by rw [e]; exact hL
  refine aw_P (P' := fun g' => CeilI c ro st mi he le wh si ca wn wt g' ∧ g' = g) (fun g' e => by subst e; exact ⟨hR, rfl⟩) ?_
  obtain ⟨n, hn⟩ : ∃ n, n = min l.length wn.length := ⟨_, rfl⟩
  have hT := nI_T (n := n) (by omega)
  have L : ∀ k, k ≤ n → (∀ j, j < k → eqW l wn j = true) → AW (fun _ => True) (rmd 2 0 0) mX0_firstOtherWhen 0 0 17 [some (.ref c), some (.ref r), some (.int (nI n)), some (.int (nI k))] [] (fun g' => CeilI c ro st mi he le wh si ca wn wt g' ∧ g' = g) (fun v g' => v = some (.int (fowI l wn)) ∧ P' g') := by
    refine up_loop ?_ ?_
    · intro hj
      have e1 : fowI l wn = if l.length = wn.length then -1 else nI n := by unfold fowI; rw [← hn, stopAt_all hj, if_neg (by omega)]
      have hT1 := nI_T (n := l.length) (by omega)
      have hT2 := nI_T (n := wn.length) (by omega)
      refine r_iload_n (pc := 17) dX0_firstOtherWhen_17 rfl ?_
      refine r_iload_n (pc := 18) dX0_firstOtherWhen_18 rfl ?_
      refine r_icmp_ge (pc := 19) 46 dX0_firstOtherWhen_19 (by decide) (fun c19 => ?_) (fun c19 => ?_)
      · skip
        refine r_aload_n (pc := 46) dX0_firstOtherWhen_46 rfl ?_
        refine r_Vi (pc := 47) (μ' := mX5_length) dX0_firstOtherWhen_47 nX0_50 iX5_length vX5_length kX5_length rfl rfl (rr (by decide) rfl) rfl ⟨Nat.zero_le _, Nat.zero_le _⟩ (fun g' q => ct_Row_length (hL2 g' q.2) q) ?_
        refine r_aload_n (pc := 50) dX0_firstOtherWhen_50 rfl ?_
        refine r_getf (pc := 51) (k := 0) dX0_firstOtherWhen_51 hX0 eX0 (by decide) fX0_14 (fun _ q => q.1.o) rfl ?_
        refine r_Vi (pc := 54) (μ' := mX5_length) dX0_firstOtherWhen_54 nX0_50 iX5_length vX5_length kX5_length rfl rfl (rr (by decide) rfl) rfl ⟨Nat.zero_le _, Nat.zero_le _⟩ (fun g' q => ct_Row_length q.1.2.2.1 q) ?_
        refine r_icmp_ne (pc := 57) 64 dX0_firstOtherWhen_57 (by decide) (fun c57 => ?_) (fun c57 => ?_)
        · skip
          have k1 : ¬ l.length = wn.length := fun q => c57 (by rw [q])
          rw [e1, if_neg k1]
          refine r_iload_n (pc := 64) dX0_firstOtherWhen_64 rfl ?_
          refine r_ireturn (pc := 65) (ty := .int) dX0_firstOtherWhen_65 rfl rfl ⟨Nat.zero_le _, Nat.zero_le _⟩ (fun gE hg => ?_)
          exact ⟨rfl, by rw [hg.2]; exact hP⟩
        · skip
          have k1 : l.length = wn.length := by have := fa_eq.mp c57; omega
          rw [e1, if_pos k1]
          refine r_iconst (pc := 60) (v := (-1)) dX0_firstOtherWhen_60 (by decide) ?_
          refine r_goto (pc := 61) 65 dX0_firstOtherWhen_61 (by decide) ?_
          refine r_ireturn (pc := 65) (ty := .int) dX0_firstOtherWhen_65 rfl rfl ⟨Nat.zero_le _, Nat.zero_le _⟩ (fun gE hg => ?_)
          exact ⟨rfl, by rw [hg.2]; exact hP⟩
      · skip
        exact absurd (fa_le.mpr (Int.le_refl _)) c19
    · intro k hk ih hj
      have hTk := nI_T (n := k) (by omega)
      refine r_iload_n (pc := 17) dX0_firstOtherWhen_17 rfl ?_
      refine r_iload_n (pc := 18) dX0_firstOtherWhen_18 rfl ?_
      refine r_icmp_ge (pc := 19) 46 dX0_firstOtherWhen_19 (by decide) (fun c19 => ?_) (fun c19 => ?_)
      · skip
        exact absurd c19 (fun q => by have := fa_le.mp q; omega)
      · skip
        refine r_aload_n (pc := 22) dX0_firstOtherWhen_22 rfl ?_
        refine r_iload_n (pc := 23) dX0_firstOtherWhen_23 rfl ?_
        refine r_Vi (pc := 24) (μ' := mX5_at) dX0_firstOtherWhen_24 nX0_61 iX5_at vX5_at kX5_at rfl rfl (rr (by decide) rfl) rfl ⟨Nat.zero_le _, Nat.zero_le _⟩ (fun g' q => ct_Row_at (hL2 g' q.2) q) ?_
        refine r_aload_n (pc := 27) dX0_firstOtherWhen_27 rfl ?_
        refine r_getf (pc := 28) (k := 0) dX0_firstOtherWhen_28 hX0 eX0 (by decide) fX0_14 (fun _ q => q.1.o) rfl ?_
        refine r_iload_n (pc := 31) dX0_firstOtherWhen_31 rfl ?_
        refine r_Vi (pc := 32) (μ' := mX5_at) dX0_firstOtherWhen_32 nX0_61 iX5_at vX5_at kX5_at rfl rfl (rr (by decide) rfl) rfl ⟨Nat.zero_le _, Nat.zero_le _⟩ (fun g' q => ct_Row_at q.1.2.2.1 q) ?_
        rw [atL_nI (show k ≤ 4000 by omega), atL_nI (show k ≤ 4000 by omega)]
        refine r_icmp_eq (pc := 35) 40 dX0_firstOtherWhen_35 (by decide) (fun c35 => ?_) (fun c35 => ?_)
        · skip
          refine r_iinc1 (pc := 40) dX0_firstOtherWhen_40 rfl (Nat.le_of_ble_eq_true rfl) rfl ?_
          dsimp only [lset]
          refine r_goto (pc := 43) 17 dX0_firstOtherWhen_43 (by decide) ?_
          rw [nI_s]
          exact ih (fun j hj2 => by
            by_cases e : j = k
            · rw [e]; exact decide_eq_true c35
            · exact hj j (by omega))
        · skip
          refine r_iload_n (pc := 38) dX0_firstOtherWhen_38 rfl ?_
          refine r_ireturn (pc := 39) (ty := .int) dX0_firstOtherWhen_39 rfl rfl ⟨Nat.zero_le _, Nat.zero_le _⟩ (fun gE hg => ?_)
          have e1 : fowI l wn = nI k := by unfold fowI; rw [← hn, stopAt_eq hj (decide_eq_false c35) hk, if_pos hk]
          exact ⟨by rw [e1], by rw [hg.2]; exact hP⟩
  refine r_aload_n (pc := 0) dX0_firstOtherWhen_0 rfl ?_
  refine r_Vi (pc := 1) (μ' := mX5_length) dX0_firstOtherWhen_1 nX0_50 iX5_length vX5_length kX5_length rfl rfl (rr (by decide) rfl) rfl ⟨Nat.zero_le _, Nat.zero_le _⟩ (fun g' q => ct_Row_length (hL2 g' q.2) q) ?_
  refine r_aload_n (pc := 4) dX0_firstOtherWhen_4 rfl ?_
  refine r_getf (pc := 5) (k := 0) dX0_firstOtherWhen_5 hX0 eX0 (by decide) fX0_14 (fun _ q => q.1.o) rfl ?_
  refine r_Vi (pc := 8) (μ' := mX5_length) dX0_firstOtherWhen_8 nX0_50 iX5_length vX5_length kX5_length rfl rfl (rr (by decide) rfl) rfl ⟨Nat.zero_le _, Nat.zero_le _⟩ (fun g' q => ct_Row_length q.1.2.2.1 q) ?_
  refine r_mmin (pc := 11) dX0_firstOtherWhen_11 nX0_65 ma_s_min z_math ma_c_min ⟨(Nat.le_of_ble_eq_true rfl), (Nat.le_of_ble_eq_true rfl)⟩ (Nat.le_of_ble_eq_true rfl) ⟨Nat.zero_le _, Nat.zero_le _⟩ rfl ?_
  rw [min_eq (by omega) (by omega), ← hn]
  refine r_istore_n (pc := 14) dX0_firstOtherWhen_14 rfl (Nat.le_of_ble_eq_true rfl) rfl ?_
  dsimp only [lset]
  refine r_iconst (pc := 15) (v := 0) dX0_firstOtherWhen_15 (by decide) ?_
  refine r_istore_n (pc := 16) dX0_firstOtherWhen_16 rfl (Nat.le_of_ble_eq_true rfl) rfl ?_
  dsimp only [lset]
  exact L 0 (Nat.zero_le _) (fun j hj => absurd hj (Nat.not_lt_zero j))
set_option maxHeartbeats 4000000 in
theorem ct_Ceil_take {c2 : Nat} (hR : CeilI c ro st mi he le wh si ca wn wt g) (hR2 : CeilI c2 ro2 st2 mi2 he2 le2 wh2 si2 ca2 wn2 wt2 g) (hd : c + 5 ≤ c2 ∨ c2 + 5 ≤ c) (hP : ∀ g', CeilI c ro2 st2 mi2 he2 le2 wh2 si2 0 wn2 wt2 g' → Off c 5 g g' → P' g') : CV 3 0 0 mX0_take c [.ref c2] g (fun v g' => v = none ∧ P' g') := by
  have h1 := hR2.2.2.1.2.1
  have h2 := hR2.2.2.2.2.1
  refine ⟨hR.V, ?_⟩
  refine ct_of (by decide) (fun _ _ => Nat.le_of_ble_eq_true rfl) ?_
  dsimp only [pad, ent]
  refine aw_P (P' := fun g' => CeilI c ro st mi he le wh si ca wn wt g' ∧ Off c 5 g g') (fun g' e => by subst e; exact ⟨hR, Off.rf _ _ _⟩) ?_
  refine r_aload_n (pc := 0) dX0_take_0 rfl ?_
  refine r_getf (pc := 1) (k := 0) dX0_take_1 hX0 eX0 (by decide) fX0_14 (fun _ q => q.1.o) rfl ?_
  refine r_aload_n (pc := 4) dX0_take_4 rfl ?_
  refine r_getf (pc := 5) (k := 0) dX0_take_5 hX0 eX0 (by decide) fX0_14 (fun _ q => (hR2.off q.2 (by omega)).o) rfl ?_
  refine r_Vv (pc := 8) (μ' := mX5_take) dX0_take_8 nX0_89 iX5_take vX5_take kX5_take rfl rfl (rr (by decide) rfl) rfl ⟨Nat.zero_le _, Nat.zero_le _⟩ (fun g' q => ct_Row_take (P' := fun g' => CeilI c ro st mi he le wh si ca wn2 wt g' ∧ Off c 5 g g') q.1.2.2.1 (hR2.off q.2 (by omega)).2.2.1 (by omega) (fun g2 a b => by rw [take_all h1] at a; exact ⟨q.1.setN a b, q.2.tr (b.wide (by omega) (by omega))⟩)) ?_
  refine r_aload_n (pc := 11) dX0_take_11 rfl ?_
  refine r_getf (pc := 12) (k := 1) dX0_take_12 hX0 eX0 (by decide) fX0_18 (fun _ q => q.1.o) rfl ?_
  refine r_aload_n (pc := 15) dX0_take_15 rfl ?_
  refine r_getf (pc := 16) (k := 1) dX0_take_16 hX0 eX0 (by decide) fX0_18 (fun _ q => (hR2.off q.2 (by omega)).o) rfl ?_
  refine r_Vv (pc := 19) (μ' := mX5_take) dX0_take_19 nX0_89 iX5_take vX5_take kX5_take rfl rfl (rr (by decide) rfl) rfl ⟨Nat.zero_le _, Nat.zero_le _⟩ (fun g' q => ct_Row_take (P' := fun g' => CeilI c ro st mi he le wh si ca wn2 wt2 g' ∧ Off c 5 g g') q.1.2.2.2 (hR2.off q.2 (by omega)).2.2.2 (by omega) (fun g2 a b => by rw [take_all h2] at a; exact ⟨q.1.setT a b, q.2.tr (b.wide (by omega) (by omega))⟩)) ?_
  refine r_aload_n (pc := 22) dX0_take_22 rfl ?_
  refine r_aload_n (pc := 23) dX0_take_23 rfl ?_
  refine r_getf (pc := 24) (k := 2) dX0_take_24 hX0 eX0 (by decide) fX0_21 (fun _ q => (hR2.off q.2 (by omega)).o) rfl ?_
  refine r_putf (pc := 27) (k := 2) (P' := fun g' => CeilI c ro2 st mi he le wh si ca wn2 wt2 g' ∧ Off c 5 g g') tyX0 dX0_take_27 hX0 tyX0_ok nmX0 eX0 (by decide) fX0_21 rfl rfl (fun _ _ => rfl) (fun _ _ => rfl) (Nat.le_of_ble_eq_true rfl) (fun _ q => q.1.o) (fun _ q => ⟨q.1.put, q.2.set (by omega) (by omega)⟩) ?_
  refine r_aload_n (pc := 30) dX0_take_30 rfl ?_
  refine r_aload_n (pc := 31) dX0_take_31 rfl ?_
  refine r_getf (pc := 32) (k := 3) dX0_take_32 hX0 eX0 (by decide) fX0_25 (fun _ q => (hR2.off q.2 (by omega)).o) rfl ?_
  refine r_putf (pc := 35) (k := 3) (P' := fun g' => CeilI c ro2 st2 mi he le wh si ca wn2 wt2 g' ∧ Off c 5 g g') tyX0 dX0_take_35 hX0 tyX0_ok nmX0 eX0 (by decide) fX0_25 rfl rfl (fun _ _ => rfl) (fun _ _ => rfl) (Nat.le_of_ble_eq_true rfl) (fun _ q => q.1.o) (fun _ q => ⟨q.1.put, q.2.set (by omega) (by omega)⟩) ?_
  refine r_aload_n (pc := 38) dX0_take_38 rfl ?_
  refine r_aload_n (pc := 39) dX0_take_39 rfl ?_
  refine r_getf (pc := 40) (k := 4) dX0_take_40 hX0 eX0 (by decide) fX0_28 (fun _ q => (hR2.off q.2 (by omega)).o) rfl ?_
  refine r_putf (pc := 43) (k := 4) (P' := fun g' => CeilI c ro2 st2 mi2 he le wh si ca wn2 wt2 g' ∧ Off c 5 g g') tyX0 dX0_take_43 hX0 tyX0_ok nmX0 eX0 (by decide) fX0_28 rfl rfl (fun _ _ => rfl) (fun _ _ => rfl) (Nat.le_of_ble_eq_true rfl) (fun _ q => q.1.o) (fun _ q => ⟨q.1.put, q.2.set (by omega) (by omega)⟩) ?_
  refine r_aload_n (pc := 46) dX0_take_46 rfl ?_
  refine r_aload_n (pc := 47) dX0_take_47 rfl ?_
  refine r_getf (pc := 48) (k := 5) dX0_take_48 hX0 eX0 (by decide) fX0_31 (fun _ q => (hR2.off q.2 (by omega)).o) rfl ?_
  refine r_putf (pc := 51) (k := 5) (P' := fun g' => CeilI c ro2 st2 mi2 he2 le wh si ca wn2 wt2 g' ∧ Off c 5 g g') tyX0 dX0_take_51 hX0 tyX0_ok nmX0 eX0 (by decide) fX0_31 rfl rfl (fun _ _ => rfl) (fun _ _ => rfl) (Nat.le_of_ble_eq_true rfl) (fun _ q => q.1.o) (fun _ q => ⟨q.1.put, q.2.set (by omega) (by omega)⟩) ?_
  refine r_aload_n (pc := 54) dX0_take_54 rfl ?_
  refine r_aload_n (pc := 55) dX0_take_55 rfl ?_
  refine r_getf (pc := 56) (k := 6) dX0_take_56 hX0 eX0 (by decide) fX0_34 (fun _ q => (hR2.off q.2 (by omega)).o) rfl ?_
  refine r_putf (pc := 59) (k := 6) (P' := fun g' => CeilI c ro2 st2 mi2 he2 le2 wh si ca wn2 wt2 g' ∧ Off c 5 g g') tyX0 dX0_take_59 hX0 tyX0_ok nmX0 eX0 (by decide) fX0_34 rfl rfl (fun _ _ => rfl) (fun _ _ => rfl) (Nat.le_of_ble_eq_true rfl) (fun _ q => q.1.o) (fun _ q => ⟨q.1.put, q.2.set (by omega) (by omega)⟩) ?_
  refine r_aload_n (pc := 62) dX0_take_62 rfl ?_
  refine r_aload_n (pc := 63) dX0_take_63 rfl ?_
  refine r_getf (pc := 64) (k := 7) dX0_take_64 hX0 eX0 (by decide) fX0_37 (fun _ q => (hR2.off q.2 (by omega)).o) rfl ?_
  refine r_putf (pc := 67) (k := 7) (P' := fun g' => CeilI c ro2 st2 mi2 he2 le2 wh2 si ca wn2 wt2 g' ∧ Off c 5 g g') tyX0 dX0_take_67 hX0 tyX0_ok nmX0 eX0 (by decide) fX0_37 rfl rfl (fun _ _ => rfl) (fun _ _ => rfl) (Nat.le_of_ble_eq_true rfl) (fun _ q => q.1.o) (fun _ q => ⟨q.1.put, q.2.set (by omega) (by omega)⟩) ?_
  refine r_aload_n (pc := 70) dX0_take_70 rfl ?_
  refine r_aload_n (pc := 71) dX0_take_71 rfl ?_
  refine r_getf (pc := 72) (k := 8) dX0_take_72 hX0 eX0 (by decide) fX0_40 (fun _ q => (hR2.off q.2 (by omega)).o) rfl ?_
  refine r_putf (pc := 75) (k := 8) (P' := fun g' => CeilI c ro2 st2 mi2 he2 le2 wh2 si2 ca wn2 wt2 g' ∧ Off c 5 g g') tyX0 dX0_take_75 hX0 tyX0_ok nmX0 eX0 (by decide) fX0_40 rfl rfl (fun _ _ => rfl) (fun _ _ => rfl) (Nat.le_of_ble_eq_true rfl) (fun _ q => q.1.o) (fun _ q => ⟨q.1.put, q.2.set (by omega) (by omega)⟩) ?_
  refine r_aload_n (pc := 78) dX0_take_78 rfl ?_
  refine r_iconst (pc := 79) (v := 0) dX0_take_79 (by decide) ?_
  refine r_putf (pc := 80) (k := 9) (P' := fun g' => CeilI c ro2 st2 mi2 he2 le2 wh2 si2 0 wn2 wt2 g' ∧ Off c 5 g g') tyX0 dX0_take_80 hX0 tyX0_ok nmX0 eX0 (by decide) fX0_43 rfl rfl (fun _ _ => rfl) (fun _ _ => rfl) (Nat.le_of_ble_eq_true rfl) (fun _ q => q.1.o) (fun _ q => ⟨q.1.put, q.2.set (by omega) (by omega)⟩) ?_
  refine r_return (pc := 83) dX0_take_83 rfl ⟨Nat.zero_le _, Nat.zero_le _⟩ (fun gE hg => ?_)
  exact ⟨rfl, hP _ hg.1 hg.2⟩
end CeilM
end
section
/-! ROLL (Ceiling.paint): in numbers -/
def iI (x : Int) : Int32 := Int32.ofInt x
theorem iI_T {x : Int} (h1 : -2000000000 ≤ x) (h2 : x ≤ 2000000000) : (iI x).toInt = x := by
  unfold iI
  rw [Int32.toInt_ofInt, show Int32.size = 4294967296 from rfl]
  exact Int.bmod_eq_of_le (by omega) (by omega)
theorem iI_nI (n : Nat) : iI (n : Int) = nI n := by
  apply Int32.toInt_inj.mp
  unfold iI nI
  rw [Int32.toInt_ofInt, Int32.toInt_ofNat']
def mfN (kd m k : Nat) : Nat := (mfI (nI kd) (nI m) (nI k)).toInt.toNat
def usesN (kd m : Nat) : Nat := (usesI (nI kd) (nI m)).toInt.toNat
theorem mf_ok : ∀ kd, kd < 7 → ∀ m, m < 10 → ∀ k, k < 6 → mfI (nI kd) (nI m) (nI k) = nI (mfN kd m k) ∧ mfN kd m k ≤ 6 := by decide +kernel
theorem uses_ok : ∀ kd, kd < 7 → ∀ m, m < 10 → usesI (nI kd) (nI m) = nI (usesN kd m) ∧ usesN kd m ≤ 3 ∧ 1 ≤ usesN kd m := by decide +kernel
def tab (ro st : Nat) (f : Nat → Nat → Int32) : List Int32 := (List.range (ro * st)).map fun i => f (i / st) (i % st)
theorem tab_len {ro st : Nat} {f : Nat → Nat → Int32} : (tab ro st f).length = ro * st := by unfold tab; rw [List.length_map, List.length_range]
theorem cell_lt {ro st r s : Nat} (hr : r < ro) (hs : s < st) : r * st + s < ro * st := by
  have : (r + 1) * st ≤ ro * st := Nat.mul_le_mul_right st hr
  rw [Nat.succ_mul] at this
  omega
theorem cell_div {st r s : Nat} (hs : s < st) : (r * st + s) / st = r := by
  rw [Nat.add_comm, Nat.add_mul_div_right _ _ (by omega), Nat.div_eq_of_lt hs, Nat.zero_add]
theorem cell_mod {st r s : Nat} (hs : s < st) : (r * st + s) % st = s := by
  rw [Nat.add_comm, Nat.add_mul_mod_self_right, Nat.mod_eq_of_lt hs]
theorem tab_get {ro st i : Nat} {f : Nat → Nat → Int32} (h : i < ro * st) : (tab ro st f).getD i 0 = f (i / st) (i % st) := by
  unfold tab
  rw [List.getD_eq_getElem?_getD, List.getElem?_map, List.getElem?_range h]; rfl
theorem tab_at {ro st r s : Nat} {f : Nat → Nat → Int32} (hr : r < ro) (hs : s < st) : (tab ro st f).getD (r * st + s) 0 = f r s := by
  rw [tab_get (cell_lt hr hs), cell_div hs, cell_mod hs]
def up2 {α : Type} (f : Nat → Nat → α) (r s : Nat) (x : α) : Nat → Nat → α := fun a b => if a = r ∧ b = s then x else f a b
theorem tab_set {ro st r s : Nat} {f : Nat → Nat → Int32} {x : Int32} (hr : r < ro) (hs : s < st) : (tab ro st f).set (r * st + s) x = tab ro st (up2 f r s x) := by
  refine list_ext (by rw [List.length_set, tab_len, tab_len]) fun i hi => ?_
  rw [List.length_set, tab_len] at hi
  rw [getD_set (by rw [tab_len]; exact cell_lt hr hs), tab_get hi, tab_get hi]
  unfold up2
  by_cases e : i = r * st + s
  · rw [if_pos e, if_pos (by rw [e]; exact ⟨cell_div hs, cell_mod hs⟩)]
  · rw [if_neg e, if_neg (fun q => e (by
      have := Nat.div_add_mod i st
      rw [q.1, q.2, Nat.mul_comm] at this
      exact this.symm))]
theorem tab_congr {ro st : Nat} {f f2 : Nat → Nat → Int32} (h : ∀ r s, r < ro → s < st → f r s = f2 r s) : tab ro st f = tab ro st f2 := by
  refine list_ext (by rw [tab_len, tab_len]) fun i hi => ?_
  rw [tab_len] at hi
  have hst : 0 < st := Nat.pos_of_ne_zero fun q => by subst q; simp at hi
  rw [tab_get hi, tab_get hi]
  exact h _ _ (Nat.div_lt_of_lt_mul (by rw [Nat.mul_comm]; exact hi)) (Nat.mod_lt _ hst)
/-- a ceiling in numbers: rows, strips, minute, heat, left, white, size, cans begun, when (-1: none) and white by row and strip -/
abbrev CK : Type := Nat × Nat × Nat × Nat × Nat × Nat × Nat × Nat × (Nat → Nat → Int) × (Nat → Nat → Nat)
def KOk (K : CK) : Prop := (1 ≤ K.1 ∧ K.1 ≤ 6) ∧ (1 ≤ K.2.1 ∧ K.2.1 ≤ 6) ∧ K.2.2.2.1 ≤ 9 ∧ K.2.2.2.2.1 ≤ 99 ∧ K.2.2.2.2.2.1 ≤ 99 ∧ (1 ≤ K.2.2.2.2.2.2.1 ∧ K.2.2.2.2.2.2.1 ≤ 99) ∧ (∀ r s, K.2.2.2.2.2.2.2.2.2 r s ≤ 99)
def CeilK (c : Nat) (K : CK) (g : AH) : Prop := CeilI c (nI K.1) (nI K.2.1) (nI K.2.2.1) (nI K.2.2.2.1) (nI K.2.2.2.2.1) (nI K.2.2.2.2.2.1) (nI K.2.2.2.2.2.2.1) (nI K.2.2.2.2.2.2.2.1) (tab K.1 K.2.1 fun r s => iI (K.2.2.2.2.2.2.2.2.1 r s)) (tab K.1 K.2.1 fun r s => nI (K.2.2.2.2.2.2.2.2.2 r s)) g
def nwN (wh : Nat) : Nat := if wh < 99 then wh + 1 else 0
/-- the can for one more CELL: left, white, cans begun -/
def canN (u si le wh ca : Nat) : Nat × Nat × Nat := if le < u then (si - u, nwN wh, ca + 1) else (le - u, wh, ca)
def rowN (up : Bool) (ro k : Nat) : Nat := if up then ro - 1 - k else k
/-- the k-th CELL of a STRIP -/
def cellK (kd m s : Nat) (up : Bool) (k : Nat) (K : CK) : CK :=
  match K with
  | (ro, st, mi, he, le, wh, si, ca, w, v) => (ro, st, mi + mfN kd m k, he, (canN (usesN kd m) si le wh ca).1, (canN (usesN kd m) si le wh ca).2.1, si, (canN (usesN kd m) si le wh ca).2.2, up2 w (rowN up ro k) s ((mi + mfN kd m k : Nat) : Int), up2 v (rowN up ro k) s (canN (usesN kd m) si le wh ca).2.1)
def paintN (kd m s : Nat) (up : Bool) (K : CK) : Nat → CK
  | 0 => K
  | k + 1 => cellK kd m s up k (paintN kd m s up K k)
/-- a STRIP is ROLLED -/
def paintK (kd m s : Nat) (up : Bool) (K : CK) : CK := paintN kd m s up K K.1
theorem cellK_ok {kd m s k : Nat} {up : Bool} {K : CK} (h : KOk K) : KOk (cellK kd m s up k K) ∧ (cellK kd m s up k K).1 = K.1 ∧ (cellK kd m s up k K).2.1 = K.2.1 ∧ (cellK kd m s up k K).2.2.2.1 = K.2.2.2.1 ∧ (cellK kd m s up k K).2.2.2.2.2.2.1 = K.2.2.2.2.2.2.1 := by
  obtain ⟨ro, st, mi, he, le, wh, si, ca, w, v⟩ := K
  obtain ⟨h1, h2, h3, h4, h5, h6, h7⟩ := h
  dsimp only at h1 h2 h3 h4 h5 h6 h7
  have hw : (canN (usesN kd m) si le wh ca).2.1 ≤ 99 := by
    unfold canN nwN
    split
    · dsimp only; split <;> omega
    · exact h5
  refine ⟨⟨h1, h2, h3, ?_, hw, h6, fun r s2 => ?_⟩, rfl, rfl, rfl, rfl⟩
  · show (canN (usesN kd m) si le wh ca).1 ≤ 99
    unfold canN
    split <;> dsimp only <;> omega
  · show up2 v _ s _ r s2 ≤ 99
    unfold up2
    split
    · exact hw
    · exact h7 r s2
theorem paintN_ok {kd m s : Nat} {up : Bool} {K : CK} (h : KOk K) : ∀ k, KOk (paintN kd m s up K k) ∧ (paintN kd m s up K k).1 = K.1 ∧ (paintN kd m s up K k).2.1 = K.2.1 ∧ (paintN kd m s up K k).2.2.2.1 = K.2.2.2.1 ∧ (paintN kd m s up K k).2.2.2.2.2.2.1 = K.2.2.2.2.2.2.1
  | 0 => ⟨h, rfl, rfl, rfl, rfl⟩
  | k + 1 => by
    obtain ⟨a, b, c, d, e⟩ := paintN_ok (kd := kd) (m := m) (s := s) (up := up) h k
    obtain ⟨a2, b2, c2, d2, e2⟩ := cellK_ok (kd := kd) (m := m) (s := s) (up := up) (k := k) a
    exact ⟨a2, b2.trans b, c2.trans c, d2.trans d, e2.trans e⟩
theorem lt_nI2 {a b : Nat} (ha : a ≤ 4000) (hb : b ≤ 4000) : nI a < nI b ↔ a < b := by rw [fa_lt, nI_T ha, nI_T hb]; omega
theorem nI_sub' {a b : Nat} (h : b ≤ a) : nI a - nI b = nI (a - b) := pk_sub h
theorem max_sub {a u : Nat} (ha : a ≤ 99) (hu : u ≤ 3) : (if (0 : Int32) < nI a - nI u then nI a - nI u else 0) = nI (a - u) := by
  have e : (nI a - nI u).toInt = (a : Int) - u := by
    rw [Int32.toInt_sub, nI_T (by omega), nI_T (by omega)]
    exact Int.bmod_eq_of_le (by omega) (by omega)
  by_cases h : (0 : Int32) < nI a - nI u
  · rw [if_pos h]
    have := fa_lt.mp h
    rw [e, t0] at this
    exact nI_sub' (by omega)
  · rw [if_neg h]
    have : ¬ (0 : Int) < (nI a - nI u).toInt := fun q => h (fa_lt.mpr q)
    rw [e] at this
    rw [show a - u = 0 by omega]
    rfl
theorem nw_eq {wh : Nat} (h : wh ≤ 99) : nwI (nI wh) = nI (nwN wh) := by
  unfold nwI nwN
  by_cases e : wh < 99
  · rw [if_pos e, if_pos (fa_lt.mpr (by rw [nI_T (by omega)]; show (wh : Int) < 99; omega)), nI_s]
  · rw [if_neg e, if_neg (fun q => by have := fa_lt.mp q; rw [nI_T (by omega), show (99 : Int32).toInt = 99 from rfl] at this; omega)]; rfl
theorem up2_f {α β : Type} (h : α → β) (f : Nat → Nat → α) (r s : Nat) (x : α) : (fun a b => h (up2 f r s x a b)) = up2 (fun a b => h (f a b)) r s (h x) := by
  funext a b
  unfold up2
  split <;> rfl
set_option maxHeartbeats 8000000 in
theorem ct_Ceil_paint {c kd m s : Nat} {up : Bool} {K : CK} {g : AH} {P' : AH → Prop} (hK : CeilK c K g) (ok : KOk K) (hkd : kd < 7) (hm : m < 10) (hs : s < K.2.1) (hP : ∀ g', CeilK c (paintK kd m s up K) g' → Off c 5 g g' → P' g') : CV 3 0 0 mX0_paint c [.int (nI kd), .int (nI m), .int (nI s), .int (b2i up)] g (fun v g' => v = none ∧ P' g') := by
  refine ⟨hK.V, ?_⟩
  refine ct_of (by decide) (fun _ _ => Nat.le_of_ble_eq_true rfl) ?_
  dsimp only [pad, ent]
  obtain ⟨hu, hu2, hu3⟩ := uses_ok kd hkd m hm
  obtain ⟨u, hue⟩ : ∃ u, u = usesN kd m := ⟨_, rfl⟩
  rw [← hue] at hu hu2 hu3
  have L : ∀ k, k ≤ K.1 → AW (fun _ => True) (rmd 3 0 0) mX0_paint 0 0 10 [some (.ref c), some (.int (nI kd)), some (.int (nI m)), some (.int (nI s)), some (.int (b2i up)), some (.int (nI u)), some (.int (nI k)), none] [] (fun g' => CeilK c (paintN kd m s up K k) g' ∧ Off c 5 g g') (fun v g' => v = none ∧ P' g') := by
    refine up_loop ?_ ?_
    · obtain ⟨-, hro, -⟩ := paintN_ok (kd := kd) (m := m) (s := s) (up := up) ok K.1
      refine r_iload (pc := 10) dX0_paint_10 rfl ?_
      refine r_aload_n (pc := 12) dX0_paint_12 rfl ?_
      refine r_getf (pc := 13) (k := 2) dX0_paint_13 hX0 eX0 (by decide) fX0_21 (fun _ q => CeilI.o q.1) rfl ?_
      rw [hro]
      refine r_icmp_ge (pc := 16) 123 dX0_paint_16 (by decide) (fun c16 => ?_) (fun c16 => ?_)
      · skip
        refine r_return (pc := 123) dX0_paint_123 rfl ⟨Nat.zero_le _, Nat.zero_le _⟩ (fun gE hg => ?_)
        exact ⟨rfl, hP _ hg.1 hg.2⟩
      · skip
        exact absurd (fa_le.mpr (Int.le_refl _)) c16
    · intro k hk ih
      obtain ⟨ok2, hro, hst, -, hsi⟩ := paintN_ok (kd := kd) (m := m) (s := s) (up := up) ok k
      have hn : paintN kd m s up K (k + 1) = cellK kd m s up k (paintN kd m s up K k) := rfl
      rw [hn] at ih
      obtain ⟨K', hK'⟩ : ∃ K', K' = paintN kd m s up K k := ⟨_, rfl⟩
      rw [← hK'] at ih ok2 hro hst hsi ⊢
      obtain ⟨ro, st, mi, he, le, wh, si, ca, w, v⟩ := K'
      dsimp only at hro hst hsi
      obtain ⟨o1, o2, o3, o4, o5, o6, o7⟩ := ok2
      dsimp only at o1 o2 o3 o4 o5 o6 o7
      obtain ⟨hmf, hmf2⟩ := mf_ok kd hkd m hm k (by omega)
      have hTk := nI_T (n := k) (by omega)
      have hTro := nI_T (n := ro) (by omega)
      have hr : rowN up ro k < ro := by unfold rowN; split <;> omega
      have hs2 : s < st := by omega
      have hcl := cell_lt (ro := ro) (st := st) hr hs2
      have hc36 : ro * st ≤ 36 := Nat.mul_le_mul (show ro ≤ 6 by omega) (show st ≤ 6 by omega)
      unfold cellK at ih
      rw [← hue] at ih
      dsimp only at ih
      -- behind the can
      have J : ∀ a b cc : Nat, a ≤ 99 → canN u si le wh ca = (a - u, b, cc) → AW (fun _ => True) (rmd 3 0 0) mX0_paint 0 0 32 [some (.ref c), some (.int (nI kd)), some (.int (nI m)), some (.int (nI s)), some (.int (b2i up)), some (.int (nI u)), some (.int (nI k)), none] [] (fun g' => CeilI c (nI ro) (nI st) (nI mi) (nI he) (nI a) (nI b) (nI si) (nI cc) (tab ro st fun r s => iI (w r s)) (tab ro st fun r s => nI (v r s)) g' ∧ Off c 5 g g') (fun v g' => v = none ∧ P' g') := by
        intro a b cc ha hcan
        rw [hcan] at ih
        dsimp only at ih
        have Z : AW (fun _ => True) (rmd 3 0 0) mX0_paint 0 0 82 [some (.ref c), some (.int (nI kd)), some (.int (nI m)), some (.int (nI s)), some (.int (b2i up)), some (.int (nI u)), some (.int (nI k)), none] [.int (nI (rowN up ro k))] (fun g' => CeilI c (nI ro) (nI st) (nI (mi + mfN kd m k)) (nI he) (nI (a - u)) (nI b) (nI si) (nI cc) (tab ro st fun r s => iI (w r s)) (tab ro st fun r s => nI (v r s)) g' ∧ Off c 5 g g') (fun v g' => v = none ∧ P' g') := by
          refine r_aload_n (pc := 82) dX0_paint_82 rfl ?_
          refine r_getf (pc := 83) (k := 3) dX0_paint_83 hX0 eX0 (by decide) fX0_25 (fun _ q => q.1.o) rfl ?_
          refine r_imul (pc := 86) dX0_paint_86 ?_
          refine r_iload_n (pc := 87) dX0_paint_87 rfl ?_
          refine r_iadd (pc := 88) dX0_paint_88 ?_
          rw [pk_mul, nI_add]
          refine r_istore (pc := 89) dX0_paint_89 (Nat.le_of_ble_eq_true rfl) rfl ?_
          dsimp only [lset]
          refine r_aload_n (pc := 91) dX0_paint_91 rfl ?_
          refine r_getf (pc := 92) (k := 0) dX0_paint_92 hX0 eX0 (by decide) fX0_14 (fun _ q => q.1.o) rfl ?_
          refine r_iload (pc := 95) dX0_paint_95 rfl ?_
          refine r_aload_n (pc := 97) dX0_paint_97 rfl ?_
          refine r_getf (pc := 98) (k := 4) dX0_paint_98 hX0 eX0 (by decide) fX0_28 (fun _ q => q.1.o) rfl ?_
          refine r_Vv (pc := 101) (μ' := mX5_write) dX0_paint_101 nX0_86 iX5_write vX5_write kX5_write rfl rfl (rr (by decide) rfl) rfl ⟨Nat.zero_le _, Nat.zero_le _⟩ (fun g' q => ct_Row_write (P' := fun g' => CeilI c (nI ro) (nI st) (nI (mi + mfN kd m k)) (nI he) (nI (a - u)) (nI b) (nI si) (nI cc) (tab ro st fun r2 s2 => iI (up2 w (rowN up ro k) s ((mi + mfN kd m k : Nat) : Int) r2 s2)) (tab ro st fun r s => nI (v r s)) g' ∧ Off c 5 g g') q.1.2.2.1 (fun g2 a b => by
                rw [wrL_nI (by omega), tab_set hr hs2, ← iI_nI, ← up2_f iI] at a
                exact ⟨q.1.setN a b, q.2.tr (b.wide (by omega) (by omega))⟩)) ?_
          refine r_aload_n (pc := 104) dX0_paint_104 rfl ?_
          refine r_getf (pc := 105) (k := 1) dX0_paint_105 hX0 eX0 (by decide) fX0_18 (fun _ q => q.1.o) rfl ?_
          refine r_iload (pc := 108) dX0_paint_108 rfl ?_
          refine r_aload_n (pc := 110) dX0_paint_110 rfl ?_
          refine r_getf (pc := 111) (k := 7) dX0_paint_111 hX0 eX0 (by decide) fX0_37 (fun _ q => q.1.o) rfl ?_
          refine r_Vv (pc := 114) (μ' := mX5_write) dX0_paint_114 nX0_86 iX5_write vX5_write kX5_write rfl rfl (rr (by decide) rfl) rfl ⟨Nat.zero_le _, Nat.zero_le _⟩ (fun g' q => ct_Row_write (P' := fun g' => CeilI c (nI ro) (nI st) (nI (mi + mfN kd m k)) (nI he) (nI (a - u)) (nI b) (nI si) (nI cc) (tab ro st fun r2 s2 => iI (up2 w (rowN up ro k) s ((mi + mfN kd m k : Nat) : Int) r2 s2)) (tab ro st fun r2 s2 => nI (up2 v (rowN up ro k) s b r2 s2)) g' ∧ Off c 5 g g') q.1.2.2.2 (fun g2 x y => by
                rw [wrL_nI (by omega), tab_set hr hs2, ← up2_f nI] at x
                exact ⟨q.1.setT x y, q.2.tr (y.wide (by omega) (by omega))⟩)) ?_
          refine r_iinc1 (pc := 117) dX0_paint_117 rfl (Nat.le_of_ble_eq_true rfl) rfl ?_
          dsimp only [lset]
          refine r_goto (pc := 120) 10 dX0_paint_120 (by decide) ?_
          rw [nI_s]
          exact aw_dr 7 rfl ih
        refine r_aload_n (pc := 32) dX0_paint_32 rfl ?_
        refine r_iconst (pc := 33) (v := 0) dX0_paint_33 (by decide) ?_
        refine r_aload_n (pc := 34) dX0_paint_34 rfl ?_
        refine r_getf (pc := 35) (k := 6) dX0_paint_35 hX0 eX0 (by decide) fX0_34 (fun _ q => q.1.o) rfl ?_
        refine r_iload (pc := 38) dX0_paint_38 rfl ?_
        refine r_isub (pc := 40) dX0_paint_40 ?_
        skip
        refine r_mmax (pc := 41) dX0_paint_41 nX0_79 ma_s_max z_math ma_c_max ⟨(Nat.le_of_ble_eq_true rfl), (Nat.le_of_ble_eq_true rfl)⟩ (Nat.le_of_ble_eq_true rfl) ⟨Nat.zero_le _, Nat.zero_le _⟩ rfl ?_
        rw [max_sub ha hu2]
        refine r_putf (pc := 44) (k := 6) (P' := fun g' => CeilI c (nI ro) (nI st) (nI mi) (nI he) (nI (a - u)) (nI b) (nI si) (nI cc) (tab ro st fun r s => iI (w r s)) (tab ro st fun r s => nI (v r s)) g' ∧ Off c 5 g g') tyX0 dX0_paint_44 hX0 tyX0_ok nmX0 eX0 (by decide) fX0_34 rfl rfl (fun _ _ => rfl) (fun _ _ => rfl) (Nat.le_of_ble_eq_true rfl) (fun _ q => q.1.o) (fun _ q => ⟨q.1.put, q.2.set (by omega) (by omega)⟩) ?_
        refine r_aload_n (pc := 47) dX0_paint_47 rfl ?_
        refine r_dup (pc := 48) dX0_paint_48 rfl ?_
        refine r_getf (pc := 49) (k := 4) dX0_paint_49 hX0 eX0 (by decide) fX0_28 (fun _ q => q.1.o) rfl ?_
        refine r_iload_n (pc := 52) dX0_paint_52 rfl ?_
        refine r_iload_n (pc := 53) dX0_paint_53 rfl ?_
        refine r_iload (pc := 54) dX0_paint_54 rfl ?_
        refine r_Sp (pc := 56) (μ' := mX3_minutesFor) dX0_paint_56 nX0_82 sX3_minutesFor kX3_minutesFor rfl rfl (rr (by decide) rfl) rfl ⟨Nat.zero_le _, Nat.zero_le _⟩ (fun h => ct_Kinds_minutesFor h) ?_
        rw [hmf]
        refine r_iadd (pc := 59) dX0_paint_59 ?_
        rw [nI_add]
        refine r_putf (pc := 60) (k := 4) (P' := fun g' => CeilI c (nI ro) (nI st) (nI (mi + mfN kd m k)) (nI he) (nI (a - u)) (nI b) (nI si) (nI cc) (tab ro st fun r s => iI (w r s)) (tab ro st fun r s => nI (v r s)) g' ∧ Off c 5 g g') tyX0 dX0_paint_60 hX0 tyX0_ok nmX0 eX0 (by decide) fX0_28 rfl rfl (fun _ _ => rfl) (fun _ _ => rfl) (Nat.le_of_ble_eq_true rfl) (fun _ q => q.1.o) (fun _ q => ⟨q.1.put, q.2.set (by omega) (by omega)⟩) ?_
        refine r_iload (pc := 63) dX0_paint_63 rfl ?_
        refine r_if_eq (pc := 65) 80 dX0_paint_65 (by decide) (fun c65 => ?_) (fun c65 => ?_)
        · skip
          have e0 : up = false := by
            cases up with
            | false => rfl
            | true => exact absurd c65 (by decide)
          rw [show rowN up ro k = k by unfold rowN; rw [e0]; rfl] at Z
          refine r_iload (pc := 80) dX0_paint_80 rfl ?_
          first
          | exact Z
          | (rw [show nI ro - 1 - nI k = nI (ro - 1 - k) by rw [show (1 : Int32) = nI 1 from rfl, nI_sub' (by omega), nI_sub' (by omega)]]; exact Z)
        · skip
          have e0 : up = true := by
            cases up with
            | true => rfl
            | false => exact absurd (show b2i false = 0 from rfl) c65
          rw [show rowN up ro k = ro - 1 - k by unfold rowN; rw [e0]; rfl] at Z
          refine r_aload_n (pc := 68) dX0_paint_68 rfl ?_
          refine r_getf (pc := 69) (k := 2) dX0_paint_69 hX0 eX0 (by decide) fX0_21 (fun _ q => q.1.o) rfl ?_
          refine r_iconst (pc := 72) (v := 1) dX0_paint_72 (by decide) ?_
          refine r_isub (pc := 73) dX0_paint_73 ?_
          refine r_iload (pc := 74) dX0_paint_74 rfl ?_
          refine r_isub (pc := 76) dX0_paint_76 ?_
          refine r_goto (pc := 77) 82 dX0_paint_77 (by decide) ?_
          first
          | exact Z
          | (rw [show nI ro - 1 - nI k = nI (ro - 1 - k) by rw [show (1 : Int32) = nI 1 from rfl, nI_sub' (by omega), nI_sub' (by omega)]]; exact Z)
      refine r_iload (pc := 10) dX0_paint_10 rfl ?_
      refine r_aload_n (pc := 12) dX0_paint_12 rfl ?_
      refine r_getf (pc := 13) (k := 2) dX0_paint_13 hX0 eX0 (by decide) fX0_21 (fun _ q => CeilI.o q.1) rfl ?_
      refine r_icmp_ge (pc := 16) 123 dX0_paint_16 (by decide) (fun c16 => ?_) (fun c16 => ?_)
      · skip
        exact absurd c16 (fun q => by have := fa_le.mp q; rw [hTk] at this; dsimp only at this; omega)
      · skip
        refine r_aload_n (pc := 19) dX0_paint_19 rfl ?_
        refine r_getf (pc := 20) (k := 6) dX0_paint_20 hX0 eX0 (by decide) fX0_34 (fun _ q => CeilI.o q.1) rfl ?_
        refine r_iload (pc := 23) dX0_paint_23 rfl ?_
        refine r_icmp_ge (pc := 25) 32 dX0_paint_25 (by decide) (fun c25 => ?_) (fun c25 => ?_)
        · skip
          exact J le wh ca o4 (by unfold canN; rw [if_neg (fun q => by have := fa_le.mp c25; rw [nI_T (by omega), nI_T (by dsimp only; omega)] at this; dsimp only at this; omega)])
        · skip
          have kl : le < u := by
            have : ¬ (nI u).toInt ≤ (nI le).toInt := fun q => c25 (fa_le.mpr q)
            rw [nI_T (by omega), nI_T (by omega)] at this
            omega
          refine r_aload_n (pc := 28) dX0_paint_28 rfl ?_
          refine r_Vv (pc := 29) (μ' := mX0_openCan) dX0_paint_29 nX0_76 iX0_openCan vX0_openCan kX0_openCan rfl rfl (rr (by decide) rfl) rfl ⟨Nat.zero_le _, Nat.zero_le _⟩ (fun g' q => ct_Ceil_openCan (P' := fun g' => CeilI c (nI ro) (nI st) (nI mi) (nI he) (nI si) (nI (nwN wh)) (nI si) (nI (ca + 1)) (tab ro st fun r s => iI (w r s)) (tab ro st fun r s => nI (v r s)) g' ∧ Off c 5 g g') q.1 (fun g2 x y => by rw [nw_eq o5, nI_s] at x; exact ⟨x, q.2.tr y⟩)) ?_
          exact J si (nwN wh) (ca + 1) o6.2 (by unfold canN; rw [if_pos kl])
  refine aw_P (P' := fun g' => CeilK c K g' ∧ Off c 5 g g') (fun g' e => by subst e; exact ⟨hK, Off.rf _ _ _⟩) ?_
  refine r_iload_n (pc := 0) dX0_paint_0 rfl ?_
  refine r_iload_n (pc := 1) dX0_paint_1 rfl ?_
  refine r_Sp (pc := 2) (μ' := mX3_uses) dX0_paint_2 nX0_71 sX3_uses kX3_uses rfl rfl (rr (by decide) rfl) rfl ⟨Nat.zero_le _, Nat.zero_le _⟩ (fun h => ct_Kinds_uses h) ?_
  rw [hu]
  refine r_istore (pc := 5) dX0_paint_5 (Nat.le_of_ble_eq_true rfl) rfl ?_
  dsimp only [lset]
  refine r_iconst (pc := 7) (v := 0) dX0_paint_7 (by decide) ?_
  refine r_istore (pc := 8) dX0_paint_8 (Nat.le_of_ble_eq_true rfl) rfl ?_
  dsimp only [lset]
  exact L 0 (Nat.zero_le _)
end
section
/-! TEXTS (OneGoCeiling$Text): steps, a stack; what a text gives -/
def TextAt (t : Nat) (use : Int32) (l : List Int32) (g : AH) : Prop := t < g.1 ∧ g.2 t = .inr (.inr (7, [.int use, .ref (t + 1), .ref (t + 3)])) ∧ RowAt (t + 1) 50 l g ∧ ∃ sk, RowAt (t + 3) 50 sk g
theorem TextAt.o {t : Nat} {use : Int32} {l : List Int32} {g : AH} (q : TextAt t use l g) : t < g.1 ∧ g.2 t = .inr (.inr (7, [.int use, .ref (t + 1), .ref (t + 3)])) := ⟨q.1, q.2.1⟩
theorem TextAt.V {t : Nat} {use : Int32} {l : List Int32} {g : AH} (q : TextAt t use l g) : ∃ (fs : List Value) (T : u_T) (N : Nat), t < g.1 ∧ g.2 t = .inr (.inr (7, fs)) ∧ vwCl[7]? = some (RX8, T, N) := ⟨_, _, _, q.1, q.2.1, rfl⟩
theorem TextAt.off {t : Nat} {use : Int32} {l : List Int32} {h g : AH} (q : TextAt t use l h) {lo w : Nat} (o : Off lo w h g) (hd : t + 5 ≤ lo ∨ lo + w ≤ t) : TextAt t use l g := by
  obtain ⟨q1, q2, q3, sk, q4⟩ := q
  exact ⟨by rw [o.1]; exact q1, by rw [o.2 t (by omega)]; exact q2, q3.off o (by omega), sk, q4.off o (by omega)⟩
theorem TextAt.setL {t : Nat} {use : Int32} {l l' : List Int32} {h g : AH} (q : TextAt t use l h) (hR : RowAt (t + 1) 50 l' g) (o : Off (t + 1) 2 h g) : TextAt t use l' g := by
  obtain ⟨q1, q2, q3, sk, q4⟩ := q
  exact ⟨by rw [o.1]; exact q1, by rw [o.2 t (by omega)]; exact q2, hR, sk, q4.off o (by omega)⟩
def heldI (v : Int32) : Int32 := if (0 : Int32) < (if v < 99 then v else 99) then (if v < 99 then v else 99) else 0
def joinI (s x y : Int32) : Int32 :=
  if s = 38 then (if x = 0 then 0 else if y = 0 then 0 else 1) else if s = 42 then x * y else if s = 43 then x + y else if s = 45 then x - y
  else if s = 47 then (if y = 0 then 0 else x / y) else if s = 60 then (if x < y then 1 else 0) else if s = 61 then (if x = y then 1 else 0) else if s = 62 then (if y < x then 1 else 0) else if s = 124 then (if x = 0 then (if y = 0 then 0 else 1) else 1) else (if y = 0 then 0 else x % y)
def nameI (use s : Int32) : Int32 := if s = 114 then 0 else if s = 115 then 1 else if s = (if use = 0 then 104 else 119) then 2 else -1
def stepS (a b c s : Int32) (stk : List Int32) : Option (List Int32) :=
  if s < 10000 then some (s :: stk) else if s < 20000 then some ((if s = 10000 then a else if s = 10001 then b else c) :: stk)
  else if s = 20033 then (match stk with | x :: r => some ((if x = 0 then 1 else 0) :: r) | [] => none)
  else (match stk with | y :: x :: r => some (joinI (s - 20000) x y :: r) | _ => none)
def runS (a b c : Int32) : List Int32 → List Int32 → Option (List Int32)
  | [], stk => some stk
  | s :: l, stk => match stepS a b c s stk with
    | some stk' => runS a b c l stk'
    | none => none
set_option maxHeartbeats 4000000 in
theorem ct_Text_held {k : Int32} (g : AH) : CT 2 0 0 mX8_held [.int k] g (fun v g' => v = some (.int (heldI k)) ∧ g' = g) := by
  refine ct_of (by decide) (fun _ _ => Nat.le_of_ble_eq_true rfl) ?_
  dsimp only [pad, ent]
  refine r_iconst (pc := 0) (v := 0) dX8_held_0 (by decide) ?_
  refine r_bipush (pc := 1) (v := 99) dX8_held_1 (by decide) ?_
  refine r_iload_n (pc := 3) dX8_held_3 rfl ?_
  refine r_mmin (pc := 4) dX8_held_4 nX8_51 ma_s_min z_math ma_c_min ⟨(Nat.le_of_ble_eq_true rfl), (Nat.le_of_ble_eq_true rfl)⟩ (Nat.le_of_ble_eq_true rfl) ⟨Nat.zero_le _, Nat.zero_le _⟩ rfl ?_
  refine r_mmax (pc := 7) dX8_held_7 nX8_57 ma_s_max z_math ma_c_max ⟨(Nat.le_of_ble_eq_true rfl), (Nat.le_of_ble_eq_true rfl)⟩ (Nat.le_of_ble_eq_true rfl) ⟨Nat.zero_le _, Nat.zero_le _⟩ rfl ?_
  refine r_ireturn (pc := 10) (ty := .int) dX8_held_10 rfl rfl ⟨Nat.zero_le _, Nat.zero_le _⟩ (fun gE hg => ?_)
  exact ⟨rfl, hg⟩
set_option maxHeartbeats 4000000 in
theorem ct_Text_join {s x y : Int32} (g : AH) : CT 1 0 0 mX8_join [.int s, .int x, .int y] g (fun v g' => v = some (.int (joinI s x y)) ∧ g' = g) := by
  refine ct_of (by decide) (fun _ _ => Nat.le_of_ble_eq_true rfl) ?_
  dsimp only [pad, ent]
  unfold joinI
  refine r_iload_n (pc := 0) dX8_join_0 rfl ?_
  by_cases s1_0 : s = 38
  · skip
    refine r_lookup (pc := 1) (off := 97) 98 dX8_join_1 (by decide) (by rw [s1_0]; decide) (by decide) ?_
    subst s1_0
    refine r_iload_n (pc := 98) dX8_join_98 rfl ?_
    refine r_if_eq (pc := 99) 110 dX8_join_99 (by decide) (fun c99 => ?_) (fun c99 => ?_)
    · skip
      refine r_iconst (pc := 110) (v := 0) dX8_join_110 (by decide) ?_
      refine r_ireturn (pc := 111) (ty := .int) dX8_join_111 rfl rfl ⟨Nat.zero_le _, Nat.zero_le _⟩ (fun gE hg => ?_)
      refine ⟨?_, hg⟩
      simp (decide := true) only [*, if_true, if_false, not_true_eq_false, not_false_eq_true]
    · skip
      refine r_iload_n (pc := 102) dX8_join_102 rfl ?_
      refine r_if_eq (pc := 103) 110 dX8_join_103 (by decide) (fun c103 => ?_) (fun c103 => ?_)
      · skip
        refine r_iconst (pc := 110) (v := 0) dX8_join_110 (by decide) ?_
        refine r_ireturn (pc := 111) (ty := .int) dX8_join_111 rfl rfl ⟨Nat.zero_le _, Nat.zero_le _⟩ (fun gE hg => ?_)
        refine ⟨?_, hg⟩
        simp (decide := true) only [*, if_true, if_false, not_true_eq_false, not_false_eq_true]
      · skip
        refine r_iconst (pc := 106) (v := 1) dX8_join_106 (by decide) ?_
        refine r_goto (pc := 107) 111 dX8_join_107 (by decide) ?_
        refine r_ireturn (pc := 111) (ty := .int) dX8_join_111 rfl rfl ⟨Nat.zero_le _, Nat.zero_le _⟩ (fun gE hg => ?_)
        refine ⟨?_, hg⟩
        simp (decide := true) only [*, if_true, if_false, not_true_eq_false, not_false_eq_true]
  by_cases s1_1 : s = 42
  · skip
    refine r_lookup (pc := 1) (off := 152) 153 dX8_join_1 (by decide) (by rw [s1_1]; decide) (by decide) ?_
    subst s1_1
    refine r_iload_n (pc := 153) dX8_join_153 rfl ?_
    refine r_iload_n (pc := 154) dX8_join_154 rfl ?_
    refine r_imul (pc := 155) dX8_join_155 ?_
    refine r_ireturn (pc := 156) (ty := .int) dX8_join_156 rfl rfl ⟨Nat.zero_le _, Nat.zero_le _⟩ (fun gE hg => ?_)
    refine ⟨?_, hg⟩
    simp (decide := true) only [*, if_true, if_false, not_true_eq_false, not_false_eq_true]
  by_cases s1_2 : s = 43
  · skip
    refine r_lookup (pc := 1) (off := 144) 145 dX8_join_1 (by decide) (by rw [s1_2]; decide) (by decide) ?_
    subst s1_2
    refine r_iload_n (pc := 145) dX8_join_145 rfl ?_
    refine r_iload_n (pc := 146) dX8_join_146 rfl ?_
    refine r_iadd (pc := 147) dX8_join_147 ?_
    refine r_ireturn (pc := 148) (ty := .int) dX8_join_148 rfl rfl ⟨Nat.zero_le _, Nat.zero_le _⟩ (fun gE hg => ?_)
    refine ⟨?_, hg⟩
    simp (decide := true) only [*, if_true, if_false, not_true_eq_false, not_false_eq_true]
  by_cases s1_3 : s = 45
  · skip
    refine r_lookup (pc := 1) (off := 148) 149 dX8_join_1 (by decide) (by rw [s1_3]; decide) (by decide) ?_
    subst s1_3
    refine r_iload_n (pc := 149) dX8_join_149 rfl ?_
    refine r_iload_n (pc := 150) dX8_join_150 rfl ?_
    refine r_isub (pc := 151) dX8_join_151 ?_
    refine r_ireturn (pc := 152) (ty := .int) dX8_join_152 rfl rfl ⟨Nat.zero_le _, Nat.zero_le _⟩ (fun gE hg => ?_)
    refine ⟨?_, hg⟩
    simp (decide := true) only [*, if_true, if_false, not_true_eq_false, not_false_eq_true]
  by_cases s1_4 : s = 47
  · skip
    refine r_lookup (pc := 1) (off := 156) 157 dX8_join_1 (by decide) (by rw [s1_4]; decide) (by decide) ?_
    subst s1_4
    refine r_iload_n (pc := 157) dX8_join_157 rfl ?_
    refine r_if_ne (pc := 158) 165 dX8_join_158 (by decide) (fun c158 => ?_) (fun c158 => ?_)
    · skip
      refine r_iload_n (pc := 165) dX8_join_165 rfl ?_
      refine r_iload_n (pc := 166) dX8_join_166 rfl ?_
      refine r_idiv (pc := 167) dX8_join_167 c158 ?_
      refine r_ireturn (pc := 168) (ty := .int) dX8_join_168 rfl rfl ⟨Nat.zero_le _, Nat.zero_le _⟩ (fun gE hg => ?_)
      refine ⟨?_, hg⟩
      simp (decide := true) only [*, if_true, if_false, not_true_eq_false, not_false_eq_true]
    · skip
      refine r_iconst (pc := 161) (v := 0) dX8_join_161 (by decide) ?_
      refine r_goto (pc := 162) 168 dX8_join_162 (by decide) ?_
      refine r_ireturn (pc := 168) (ty := .int) dX8_join_168 rfl rfl ⟨Nat.zero_le _, Nat.zero_le _⟩ (fun gE hg => ?_)
      refine ⟨?_, hg⟩
      simp (decide := true) only [*, if_true, if_false, not_true_eq_false, not_false_eq_true]
  by_cases s1_5 : s = 60
  · skip
    refine r_lookup (pc := 1) (off := 111) 112 dX8_join_1 (by decide) (by rw [s1_5]; decide) (by decide) ?_
    subst s1_5
    refine r_iload_n (pc := 112) dX8_join_112 rfl ?_
    refine r_iload_n (pc := 113) dX8_join_113 rfl ?_
    refine r_icmp_ge (pc := 114) 121 dX8_join_114 (by decide) (fun c114 => ?_) (fun c114 => ?_)
    · skip
      rw [if_neg (Int32.not_lt.mpr c114)]
      refine r_iconst (pc := 121) (v := 0) dX8_join_121 (by decide) ?_
      refine r_ireturn (pc := 122) (ty := .int) dX8_join_122 rfl rfl ⟨Nat.zero_le _, Nat.zero_le _⟩ (fun gE hg => ?_)
      refine ⟨?_, hg⟩
      simp (decide := true) only [*, if_true, if_false, not_true_eq_false, not_false_eq_true]
    · skip
      rw [if_pos (Int32.not_le.mp c114)]
      refine r_iconst (pc := 117) (v := 1) dX8_join_117 (by decide) ?_
      refine r_goto (pc := 118) 122 dX8_join_118 (by decide) ?_
      refine r_ireturn (pc := 122) (ty := .int) dX8_join_122 rfl rfl ⟨Nat.zero_le _, Nat.zero_le _⟩ (fun gE hg => ?_)
      refine ⟨?_, hg⟩
      simp (decide := true) only [*, if_true, if_false, not_true_eq_false, not_false_eq_true]
  by_cases s1_6 : s = 61
  · skip
    refine r_lookup (pc := 1) (off := 122) 123 dX8_join_1 (by decide) (by rw [s1_6]; decide) (by decide) ?_
    subst s1_6
    refine r_iload_n (pc := 123) dX8_join_123 rfl ?_
    refine r_iload_n (pc := 124) dX8_join_124 rfl ?_
    refine r_icmp_ne (pc := 125) 132 dX8_join_125 (by decide) (fun c125 => ?_) (fun c125 => ?_)
    · skip
      refine r_iconst (pc := 132) (v := 0) dX8_join_132 (by decide) ?_
      refine r_ireturn (pc := 133) (ty := .int) dX8_join_133 rfl rfl ⟨Nat.zero_le _, Nat.zero_le _⟩ (fun gE hg => ?_)
      refine ⟨?_, hg⟩
      simp (decide := true) only [*, if_true, if_false, not_true_eq_false, not_false_eq_true]
    · skip
      refine r_iconst (pc := 128) (v := 1) dX8_join_128 (by decide) ?_
      refine r_goto (pc := 129) 133 dX8_join_129 (by decide) ?_
      refine r_ireturn (pc := 133) (ty := .int) dX8_join_133 rfl rfl ⟨Nat.zero_le _, Nat.zero_le _⟩ (fun gE hg => ?_)
      refine ⟨?_, hg⟩
      simp (decide := true) only [*, if_true, if_false, not_true_eq_false, not_false_eq_true]
  by_cases s1_7 : s = 62
  · skip
    refine r_lookup (pc := 1) (off := 133) 134 dX8_join_1 (by decide) (by rw [s1_7]; decide) (by decide) ?_
    subst s1_7
    refine r_iload_n (pc := 134) dX8_join_134 rfl ?_
    refine r_iload_n (pc := 135) dX8_join_135 rfl ?_
    refine r_icmp_le (pc := 136) 143 dX8_join_136 (by decide) (fun c136 => ?_) (fun c136 => ?_)
    · skip
      rw [if_neg (Int32.not_lt.mpr c136)]
      refine r_iconst (pc := 143) (v := 0) dX8_join_143 (by decide) ?_
      refine r_ireturn (pc := 144) (ty := .int) dX8_join_144 rfl rfl ⟨Nat.zero_le _, Nat.zero_le _⟩ (fun gE hg => ?_)
      refine ⟨?_, hg⟩
      simp (decide := true) only [*, if_true, if_false, not_true_eq_false, not_false_eq_true]
    · skip
      rw [if_pos (Int32.not_le.mp c136)]
      refine r_iconst (pc := 139) (v := 1) dX8_join_139 (by decide) ?_
      refine r_goto (pc := 140) 144 dX8_join_140 (by decide) ?_
      refine r_ireturn (pc := 144) (ty := .int) dX8_join_144 rfl rfl ⟨Nat.zero_le _, Nat.zero_le _⟩ (fun gE hg => ?_)
      refine ⟨?_, hg⟩
      simp (decide := true) only [*, if_true, if_false, not_true_eq_false, not_false_eq_true]
  by_cases s1_8 : s = 124
  · skip
    refine r_lookup (pc := 1) (off := 83) 84 dX8_join_1 (by decide) (by rw [s1_8]; decide) (by decide) ?_
    subst s1_8
    refine r_iload_n (pc := 84) dX8_join_84 rfl ?_
    refine r_if_ne (pc := 85) 92 dX8_join_85 (by decide) (fun c85 => ?_) (fun c85 => ?_)
    · skip
      refine r_iconst (pc := 92) (v := 1) dX8_join_92 (by decide) ?_
      refine r_goto (pc := 93) 97 dX8_join_93 (by decide) ?_
      refine r_ireturn (pc := 97) (ty := .int) dX8_join_97 rfl rfl ⟨Nat.zero_le _, Nat.zero_le _⟩ (fun gE hg => ?_)
      refine ⟨?_, hg⟩
      simp (decide := true) only [*, if_true, if_false, not_true_eq_false, not_false_eq_true]
    · skip
      refine r_iload_n (pc := 88) dX8_join_88 rfl ?_
      refine r_if_eq (pc := 89) 96 dX8_join_89 (by decide) (fun c89 => ?_) (fun c89 => ?_)
      · skip
        refine r_iconst (pc := 96) (v := 0) dX8_join_96 (by decide) ?_
        refine r_ireturn (pc := 97) (ty := .int) dX8_join_97 rfl rfl ⟨Nat.zero_le _, Nat.zero_le _⟩ (fun gE hg => ?_)
        refine ⟨?_, hg⟩
        simp (decide := true) only [*, if_true, if_false, not_true_eq_false, not_false_eq_true]
      · skip
        refine r_iconst (pc := 92) (v := 1) dX8_join_92 (by decide) ?_
        refine r_goto (pc := 93) 97 dX8_join_93 (by decide) ?_
        refine r_ireturn (pc := 97) (ty := .int) dX8_join_97 rfl rfl ⟨Nat.zero_le _, Nat.zero_le _⟩ (fun gE hg => ?_)
        refine ⟨?_, hg⟩
        simp (decide := true) only [*, if_true, if_false, not_true_eq_false, not_false_eq_true]
  have t1_0 : ¬ (s).toInt = 38 := fun q => s1_0 (Int32.toInt_inj.mp q)
  have t1_1 : ¬ (s).toInt = 42 := fun q => s1_1 (Int32.toInt_inj.mp q)
  have t1_2 : ¬ (s).toInt = 43 := fun q => s1_2 (Int32.toInt_inj.mp q)
  have t1_3 : ¬ (s).toInt = 45 := fun q => s1_3 (Int32.toInt_inj.mp q)
  have t1_4 : ¬ (s).toInt = 47 := fun q => s1_4 (Int32.toInt_inj.mp q)
  have t1_5 : ¬ (s).toInt = 60 := fun q => s1_5 (Int32.toInt_inj.mp q)
  have t1_6 : ¬ (s).toInt = 61 := fun q => s1_6 (Int32.toInt_inj.mp q)
  have t1_7 : ¬ (s).toInt = 62 := fun q => s1_7 (Int32.toInt_inj.mp q)
  have t1_8 : ¬ (s).toInt = 124 := fun q => s1_8 (Int32.toInt_inj.mp q)
  refine r_lookup (pc := 1) (off := 168) 169 dX8_join_1 (by decide) (by simp [Op.lookupswitch.offset, t1_0, t1_1, t1_2, t1_3, t1_4, t1_5, t1_6, t1_7, t1_8] <;> omega) (by decide) ?_
  rw [if_neg s1_0, if_neg s1_1, if_neg s1_2, if_neg s1_3, if_neg s1_4, if_neg s1_5, if_neg s1_6, if_neg s1_7, if_neg s1_8]
  refine r_iload_n (pc := 169) dX8_join_169 rfl ?_
  refine r_if_ne (pc := 170) 177 dX8_join_170 (by decide) (fun c170 => ?_) (fun c170 => ?_)
  · skip
    refine r_iload_n (pc := 177) dX8_join_177 rfl ?_
    refine r_iload_n (pc := 178) dX8_join_178 rfl ?_
    refine r_irem' (pc := 179) dX8_join_179 c170 ?_
    refine r_ireturn (pc := 180) (ty := .int) dX8_join_180 rfl rfl ⟨Nat.zero_le _, Nat.zero_le _⟩ (fun gE hg => ?_)
    refine ⟨?_, hg⟩
    simp (decide := true) only [*, if_true, if_false, not_true_eq_false, not_false_eq_true]
  · skip
    refine r_iconst (pc := 173) (v := 0) dX8_join_173 (by decide) ?_
    refine r_goto (pc := 174) 180 dX8_join_174 (by decide) ?_
    refine r_ireturn (pc := 180) (ty := .int) dX8_join_180 rfl rfl ⟨Nat.zero_le _, Nat.zero_le _⟩ (fun gE hg => ?_)
    refine ⟨?_, hg⟩
    simp (decide := true) only [*, if_true, if_false, not_true_eq_false, not_false_eq_true]
set_option maxHeartbeats 4000000 in
theorem ct_Text_nameOf {t : Nat} {use s : Int32} {l : List Int32} {g : AH} {P' : AH → Prop} (hR : TextAt t use l g) (hP : P' g) : CV 1 0 0 mX8_nameOf t [.int s] g (fun v g' => v = some (.int (nameI use s)) ∧ P' g') := by
  refine ⟨hR.V, ?_⟩
  refine ct_of (by decide) (fun _ _ => Nat.le_of_ble_eq_true rfl) ?_
  dsimp only [pad, ent]
  unfold nameI
  refine aw_P (P' := fun g' => TextAt t use l g' ∧ g' = g) (fun g' e => by subst e; exact ⟨hR, rfl⟩) ?_
  refine r_iload_n (pc := 0) dX8_nameOf_0 rfl ?_
  refine r_bipush (pc := 1) (v := 114) dX8_nameOf_1 (by decide) ?_
  refine r_icmp_ne (pc := 3) 8 dX8_nameOf_3 (by decide) (fun c3 => ?_) (fun c3 => ?_)
  · skip
    rw [if_neg c3]
    refine r_iload_n (pc := 8) dX8_nameOf_8 rfl ?_
    refine r_bipush (pc := 9) (v := 115) dX8_nameOf_9 (by decide) ?_
    refine r_icmp_ne (pc := 11) 16 dX8_nameOf_11 (by decide) (fun c11 => ?_) (fun c11 => ?_)
    · skip
      rw [if_neg c11]
      refine r_iload_n (pc := 16) dX8_nameOf_16 rfl ?_
      refine r_aload_n (pc := 17) dX8_nameOf_17 rfl ?_
      refine r_getf (pc := 18) (k := 0) dX8_nameOf_18 hX8 eX8 (by decide) fX8_21 (fun _ q => q.1.o) rfl ?_
      refine r_if_ne (pc := 21) 29 dX8_nameOf_21 (by decide) (fun c21 => ?_) (fun c21 => ?_)
      · skip
        rw [if_neg c21]
        refine r_bipush (pc := 29) (v := 119) dX8_nameOf_29 (by decide) ?_
        refine r_icmp_ne (pc := 31) 38 dX8_nameOf_31 (by decide) (fun c31 => ?_) (fun c31 => ?_)
        · skip
          rw [if_neg c31]
          refine r_iconst (pc := 38) (v := (-1)) dX8_nameOf_38 (by decide) ?_
          refine r_ireturn (pc := 39) (ty := .int) dX8_nameOf_39 rfl rfl ⟨Nat.zero_le _, Nat.zero_le _⟩ (fun gE hg => ?_)
          exact ⟨rfl, by rw [hg.2]; exact hP⟩
        · skip
          rw [if_pos c31]
          refine r_iconst (pc := 34) (v := 2) dX8_nameOf_34 (by decide) ?_
          refine r_goto (pc := 35) 39 dX8_nameOf_35 (by decide) ?_
          refine r_ireturn (pc := 39) (ty := .int) dX8_nameOf_39 rfl rfl ⟨Nat.zero_le _, Nat.zero_le _⟩ (fun gE hg => ?_)
          exact ⟨rfl, by rw [hg.2]; exact hP⟩
      · skip
        rw [if_pos c21]
        refine r_bipush (pc := 24) (v := 104) dX8_nameOf_24 (by decide) ?_
        refine r_goto (pc := 26) 31 dX8_nameOf_26 (by decide) ?_
        refine r_icmp_ne (pc := 31) 38 dX8_nameOf_31 (by decide) (fun c31 => ?_) (fun c31 => ?_)
        · skip
          rw [if_neg c31]
          refine r_iconst (pc := 38) (v := (-1)) dX8_nameOf_38 (by decide) ?_
          refine r_ireturn (pc := 39) (ty := .int) dX8_nameOf_39 rfl rfl ⟨Nat.zero_le _, Nat.zero_le _⟩ (fun gE hg => ?_)
          exact ⟨rfl, by rw [hg.2]; exact hP⟩
        · skip
          rw [if_pos c31]
          refine r_iconst (pc := 34) (v := 2) dX8_nameOf_34 (by decide) ?_
          refine r_goto (pc := 35) 39 dX8_nameOf_35 (by decide) ?_
          refine r_ireturn (pc := 39) (ty := .int) dX8_nameOf_39 rfl rfl ⟨Nat.zero_le _, Nat.zero_le _⟩ (fun gE hg => ?_)
          exact ⟨rfl, by rw [hg.2]; exact hP⟩
    · skip
      rw [if_pos c11]
      refine r_iconst (pc := 14) (v := 1) dX8_nameOf_14 (by decide) ?_
      refine r_ireturn (pc := 15) (ty := .int) dX8_nameOf_15 rfl rfl ⟨Nat.zero_le _, Nat.zero_le _⟩ (fun gE hg => ?_)
      exact ⟨rfl, by rw [hg.2]; exact hP⟩
  · skip
    rw [if_pos c3]
    refine r_iconst (pc := 6) (v := 0) dX8_nameOf_6 (by decide) ?_
    refine r_ireturn (pc := 7) (ty := .int) dX8_nameOf_7 rfl rfl ⟨Nat.zero_le _, Nat.zero_le _⟩ (fun gE hg => ?_)
    exact ⟨rfl, by rw [hg.2]; exact hP⟩
set_option maxHeartbeats 4000000 in
theorem ct_Text_takeSteps {t r cap2 : Nat} {use : Int32} {l l2 : List Int32} {g : AH} {P' : AH → Prop} (hR : TextAt t use l g) (hR2 : RowAt r cap2 l2 g) (hd : r + 2 ≤ t ∨ t + 5 ≤ r) (hc : l2.length ≤ 50) (hP : ∀ g', TextAt t use l2 g' → Off t 5 g g' → P' g') : CV 3 0 0 mX8_takeSteps t [.ref r] g (fun v g' => v = none ∧ P' g') := by
  refine ⟨hR.V, ?_⟩
  refine ct_of (by decide) (fun _ _ => Nat.le_of_ble_eq_true rfl) ?_
  dsimp only [pad, ent]
  refine aw_P (P' := fun g' => TextAt t use l g' ∧ g' = g) (fun g' e => by subst e; exact ⟨hR, rfl⟩) ?_
  refine r_aload_n (pc := 0) dX8_takeSteps_0 rfl ?_
  refine r_getf (pc := 1) (k := 1) dX8_takeSteps_1 hX8 eX8 (by decide) fX8_14 (fun _ q => q.1.o) rfl ?_
  refine r_aload_n (pc := 4) dX8_takeSteps_4 rfl ?_
  refine r_Vv (pc := 5) (μ' := mX5_take) dX8_takeSteps_5 nX8_25 iX5_take vX5_take kX5_take rfl rfl (rr (by decide) rfl) rfl ⟨Nat.zero_le _, Nat.zero_le _⟩ (fun g' q => ct_Row_take (cap2 := cap2) (l2 := l2) q.1.2.2.1 (by rw [q.2]; exact hR2) (by omega) (fun g2 a b => by rw [take_all hc] at a; rw [q.2] at b; exact hP g2 (hR.setL a b) (b.wide (by omega) (by omega)))) ?_
  refine r_return (pc := 8) dX8_takeSteps_8 rfl ⟨Nat.zero_le _, Nat.zero_le _⟩ (fun gE hg => ?_)
  exact ⟨rfl, hg⟩
set_option maxHeartbeats 4000000 in
theorem ct_Text_take {t t2 : Nat} {use use2 : Int32} {l l2 : List Int32} {g : AH} {P' : AH → Prop} (hR : TextAt t use l g) (hR2 : TextAt t2 use2 l2 g) (hd : t + 5 ≤ t2 ∨ t2 + 5 ≤ t) (hP : ∀ g', TextAt t use l2 g' → Off t 5 g g' → P' g') : CV 3 0 0 mX8_take t [.ref t2] g (fun v g' => v = none ∧ P' g') := by
  refine ⟨hR.V, ?_⟩
  refine ct_of (by decide) (fun _ _ => Nat.le_of_ble_eq_true rfl) ?_
  dsimp only [pad, ent]
  have hc := hR2.2.2.1.2.1
  refine aw_P (P' := fun g' => TextAt t use l g' ∧ g' = g) (fun g' e => by subst e; exact ⟨hR, rfl⟩) ?_
  refine r_aload_n (pc := 0) dX8_take_0 rfl ?_
  refine r_getf (pc := 1) (k := 1) dX8_take_1 hX8 eX8 (by decide) fX8_14 (fun _ q => q.1.o) rfl ?_
  refine r_aload_n (pc := 4) dX8_take_4 rfl ?_
  refine r_getf (pc := 5) (k := 1) dX8_take_5 hX8 eX8 (by decide) fX8_14 (fun _ q => q.2.symm ▸ hR2.o) rfl ?_
  refine r_Vv (pc := 8) (μ' := mX5_take) dX8_take_8 nX8_25 iX5_take vX5_take kX5_take rfl rfl (rr (by decide) rfl) rfl ⟨Nat.zero_le _, Nat.zero_le _⟩ (fun g' q => ct_Row_take (cap2 := 50) (l2 := l2) q.1.2.2.1 (by rw [q.2]; exact hR2.2.2.1) (by omega) (fun g2 a b => by rw [take_all hc] at a; rw [q.2] at b; exact hP g2 (hR.setL a b) (b.wide (by omega) (by omega)))) ?_
  refine r_return (pc := 11) dX8_take_11 rfl ⟨Nat.zero_le _, Nat.zero_le _⟩ (fun gE hg => ?_)
  exact ⟨rfl, hg⟩
/-- what a text of these steps gives -/
def lawI (use : Int32) (l : List Int32) (a b c : Int32) : Int32 := if l.length = 0 then heldI (if use = 0 then 10 - c else 1 + c) else heldI (((runS a b c l []).getD []).headD 0)
theorem subadd1 (x : Int32) : x - 1 + 1 = x := Int32.sub_add_cancel x 1
theorem getD_cons {x : Int32} {l : List Int32} {j : Nat} : (x :: l).getD (j + 1) 0 = l.getD j 0 := rfl
set_option maxHeartbeats 8000000 in
theorem ct_Text_value {t : Nat} {use a b c x : Int32} {l : List Int32} {g : AH} {P' : AH → Prop} (hR : TextAt t use l g) (hrun : l.length = 0 ∨ runS a b c l [] = some [x]) (hP : ∀ g', TextAt t use l g' → Off t 5 g g' → P' g') : CV 4 0 0 mX8_value t [.int a, .int b, .int c] g (fun v g' => v = some (.int (lawI use l a b c)) ∧ P' g') := by
  refine ⟨hR.V, ?_⟩
  refine ct_of (by decide) (fun _ _ => Nat.le_of_ble_eq_true rfl) ?_
  dsimp only [pad, ent]
  have hl := hR.2.2.1.2.1
  have hTn := nI_T (n := l.length) (by omega)
  have L : ∀ (rest : List Int32) (i : Nat) (stk : List Int32), l.drop i = rest → i ≤ l.length → stk.length ≤ i → runS a b c rest stk = some [x] → ∀ S : List Int32, S.length = l.length → (∀ j, j < stk.length → S.getD j 0 = stk.getD (stk.length - 1 - j) 0) → AW (fun _ => True) (rmd 4 0 0) mX8_value 0 0 52 [some (.ref t), some (.int a), some (.int b), some (.int c), some (.int (nI stk.length - 1)), some (.int (nI i)), none] [] (fun g' => (t < g'.1 ∧ g'.2 t = .inr (.inr (7, [.int use, .ref (t + 1), .ref (t + 3)])) ∧ RowAt (t + 1) 50 l g' ∧ RowAt (t + 3) 50 S g') ∧ Off t 5 g g') (fun v g' => v = some (.int (heldI x)) ∧ P' g') := by
    intro rest
    induction rest with
    | nil =>
      intro i stk hi hil hsl hrun S hS hSv
      have hil2 : i = l.length := by
        have := congrArg List.length hi
        rw [List.length_drop, List.length_nil] at this
        omega
      subst hil2
      have hst : stk = [x] := Option.some.inj hrun
      subst hst
      have h0 := hSv 0 Nat.one_pos
      refine r_iload (pc := 52) dX8_value_52 rfl ?_
      refine r_aload_n (pc := 54) dX8_value_54 rfl ?_
      refine r_getf (pc := 55) (k := 1) dX8_value_55 hX8 eX8 (by decide) fX8_14 (fun _ q => ⟨q.1.1, q.1.2.1⟩) rfl ?_
      refine r_Vi (pc := 58) (μ' := mX5_length) dX8_value_58 nX8_29 iX5_length vX5_length kX5_length rfl rfl (rr (by decide) rfl) rfl ⟨Nat.zero_le _, Nat.zero_le _⟩ (fun g' q => ct_Row_length q.1.2.2.1 q) ?_
      refine r_icmp_ge (pc := 61) 232 dX8_value_61 (by decide) (fun c61 => ?_) (fun c61 => ?_)
      · skip
        refine r_aload_n (pc := 232) dX8_value_232 rfl ?_
        refine r_getf (pc := 233) (k := 2) dX8_value_233 hX8 eX8 (by decide) fX8_18 (fun _ q => ⟨q.1.1, q.1.2.1⟩) rfl ?_
        refine r_iload (pc := 236) dX8_value_236 rfl ?_
        refine r_Vi (pc := 238) (μ' := mX5_at) dX8_value_238 nX8_41 iX5_at vX5_at kX5_at rfl rfl (rr (by decide) rfl) rfl ⟨Nat.zero_le _, Nat.zero_le _⟩ (fun g' q => ct_Row_at q.1.2.2.2 q) ?_
        rw [show nI [x].length - 1 = nI 0 from nI_pred 0, atL_nI (by omega), h0]
        refine r_Sp (pc := 241) (μ' := mX8_held) dX8_value_241 nX8_33 sX8_held kX8_held rfl rfl (rr (by decide) rfl) rfl ⟨Nat.zero_le _, Nat.zero_le _⟩ (fun h => ct_Text_held h) ?_
        refine r_ireturn (pc := 244) (ty := .int) dX8_value_244 rfl rfl ⟨Nat.zero_le _, Nat.zero_le _⟩ (fun gE hg => ?_)
        exact ⟨rfl, hP _ ⟨hg.1.1, hg.1.2.1, hg.1.2.2.1, S, hg.1.2.2.2⟩ hg.2⟩
      · skip
        exact absurd (fa_le.mpr (Int.le_refl _)) c61
    | cons s rest ih =>
      intro i stk hi hil hsl hrun S hS hSv
      have hil2 : i < l.length := by
        have := congrArg List.length hi
        rw [List.length_drop, List.length_cons] at this
        omega
      have hTi := nI_T (n := i) (by omega)
      have hs : l.getD i 0 = s := by
        have e : (l.drop i).getD 0 0 = s := by rw [hi]; rfl
        rw [List.getD_eq_getElem?_getD, List.getElem?_drop, Nat.add_zero] at e
        rw [List.getD_eq_getElem?_getD]; exact e
      have hi2 : l.drop (i + 1) = rest := by
        have e : (l.drop i).drop 1 = rest := by rw [hi]; rfl
        rw [List.drop_drop] at e; exact e
      -- a step done: on
      have go : ∀ (stk' : List Int32), stepS a b c s stk = some stk' → stk'.length ≤ i + 1 → ∀ S' : List Int32, S'.length = l.length → (∀ j, j < stk'.length → S'.getD j 0 = stk'.getD (stk'.length - 1 - j) 0) → AW (fun _ => True) (rmd 4 0 0) mX8_value 0 0 226 [some (.ref t), some (.int a), some (.int b), some (.int c), some (.int (nI stk'.length - 1)), some (.int (nI i)), some (.int s)] [] (fun g' => (t < g'.1 ∧ g'.2 t = .inr (.inr (7, [.int use, .ref (t + 1), .ref (t + 3)])) ∧ RowAt (t + 1) 50 l g' ∧ RowAt (t + 3) 50 S' g') ∧ Off t 5 g g') (fun v g' => v = some (.int (heldI x)) ∧ P' g') := by
        intro stk' h1 h2 S' h3 h4
        rw [runS, h1] at hrun
        refine r_iinc1 (pc := 226) dX8_value_226 rfl (Nat.le_of_ble_eq_true rfl) rfl ?_
        dsimp only [lset]
        refine r_goto (pc := 229) 52 dX8_value_229 (by decide) ?_
        rw [nI_s]
        exact aw_dr 6 rfl (ih (i + 1) stk' hi2 (by omega) h2 hrun S' h3 h4)
      have sv : ∀ (S' : List Int32) (g' g2 : AH), ((t < g'.1 ∧ g'.2 t = .inr (.inr (7, [.int use, .ref (t + 1), .ref (t + 3)])) ∧ RowAt (t + 1) 50 l g' ∧ RowAt (t + 3) 50 S g') ∧ Off t 5 g g') → RowAt (t + 3) 50 S' g2 → Off (t + 3) 2 g' g2 → ((t < g2.1 ∧ g2.2 t = .inr (.inr (7, [.int use, .ref (t + 1), .ref (t + 3)])) ∧ RowAt (t + 1) 50 l g2 ∧ RowAt (t + 3) 50 S' g2) ∧ Off t 5 g g2) := by
        intro S' g' g2 q h1 h2
        exact ⟨⟨by rw [h2.1]; exact q.1.1, by rw [h2.2 t (by omega)]; exact q.1.2.1, q.1.2.2.1.off h2 (by omega), h1⟩, q.2.tr (h2.wide (by omega) (by omega))⟩
      -- a number is laid on the stack
      have push : ∀ v : Int32, stepS a b c s stk = some (v :: stk) → AW (fun _ => True) (rmd 4 0 0) mX8_value 0 0 226 [some (.ref t), some (.int a), some (.int b), some (.int c), some (.int (nI stk.length)), some (.int (nI i)), some (.int s)] [] (fun g' => (t < g'.1 ∧ g'.2 t = .inr (.inr (7, [.int use, .ref (t + 1), .ref (t + 3)])) ∧ RowAt (t + 1) 50 l g' ∧ RowAt (t + 3) 50 (S.set stk.length v) g') ∧ Off t 5 g g') (fun v g' => v = some (.int (heldI x)) ∧ P' g') := by
        intro v h1
        have := go (v :: stk) h1 (by rw [List.length_cons]; omega) (S.set stk.length v) (by rw [List.length_set]; exact hS) (fun j hj => by
          rw [List.length_cons] at hj ⊢
          rw [getD_set (by omega)]
          by_cases e : j = stk.length
          · rw [if_pos e, e, show stk.length + 1 - 1 - stk.length = 0 by omega]; rfl
          · rw [if_neg e, hSv j (by omega), show stk.length + 1 - 1 - j = (stk.length - 1 - j) + 1 by omega, getD_cons])
        rw [List.length_cons, show nI (stk.length + 1) - 1 = nI stk.length from nI_pred _] at this
        exact this
      refine r_iload (pc := 52) dX8_value_52 rfl ?_
      refine r_aload_n (pc := 54) dX8_value_54 rfl ?_
      refine r_getf (pc := 55) (k := 1) dX8_value_55 hX8 eX8 (by decide) fX8_14 (fun _ q => ⟨q.1.1, q.1.2.1⟩) rfl ?_
      refine r_Vi (pc := 58) (μ' := mX5_length) dX8_value_58 nX8_29 iX5_length vX5_length kX5_length rfl rfl (rr (by decide) rfl) rfl ⟨Nat.zero_le _, Nat.zero_le _⟩ (fun g' q => ct_Row_length q.1.2.2.1 q) ?_
      refine r_icmp_ge (pc := 61) 232 dX8_value_61 (by decide) (fun c61 => ?_) (fun c61 => ?_)
      · skip
        exact absurd c61 (fun q => by have := fa_le.mp q; omega)
      · skip
        refine r_aload_n (pc := 64) dX8_value_64 rfl ?_
        refine r_getf (pc := 65) (k := 1) dX8_value_65 hX8 eX8 (by decide) fX8_14 (fun _ q => ⟨q.1.1, q.1.2.1⟩) rfl ?_
        refine r_iload (pc := 68) dX8_value_68 rfl ?_
        refine r_Vi (pc := 70) (μ' := mX5_at) dX8_value_70 nX8_41 iX5_at vX5_at kX5_at rfl rfl (rr (by decide) rfl) rfl ⟨Nat.zero_le _, Nat.zero_le _⟩ (fun g' q => ct_Row_at q.1.2.2.1 q) ?_
        rw [atL_nI (show i ≤ 4000 by omega), hs]
        refine r_istore (pc := 73) dX8_value_73 (Nat.le_of_ble_eq_true rfl) rfl ?_
        dsimp only [lset]
        refine r_iload (pc := 75) dX8_value_75 rfl ?_
        refine r_sipush (pc := 77) (v := 10000) dX8_value_77 (by decide) ?_
        refine r_icmp_ge (pc := 80) 100 dX8_value_80 (by decide) (fun c80 => ?_) (fun c80 => ?_)
        · skip
          have k80 : ¬ s < 10000 := fun q => Int32.not_lt.mpr c80 q
          refine r_iload (pc := 100) dX8_value_100 rfl ?_
          refine r_sipush (pc := 102) (v := 20000) dX8_value_102 (by decide) ?_
          refine r_icmp_ge (pc := 105) 148 dX8_value_105 (by decide) (fun c105 => ?_) (fun c105 => ?_)
          · skip
            have k105 : ¬ s < 20000 := fun q => Int32.not_lt.mpr c105 q
            refine r_iload (pc := 148) dX8_value_148 rfl ?_
            refine r_sipush (pc := 150) (v := 20033) dX8_value_150 (by decide) ?_
            refine r_icmp_ne (pc := 153) 185 dX8_value_153 (by decide) (fun c153 => ?_) (fun c153 => ?_)
            · skip
              obtain ⟨y, z, r, hr⟩ : ∃ y z r, stk = y :: z :: r := by
                cases stk with
                | nil => rw [runS, show stepS a b c s [] = none by unfold stepS; rw [if_neg k80, if_neg k105, if_neg c153]] at hrun; cases hrun
                | cons y r => cases r with
                  | nil => rw [runS, show stepS a b c s [y] = none by unfold stepS; rw [if_neg k80, if_neg k105, if_neg c153]] at hrun; cases hrun
                  | cons z r => exact ⟨y, z, r, rfl⟩
              subst hr
              rw [List.length_cons, List.length_cons] at hsl
              have hy := hSv (r.length + 1) (by rw [List.length_cons, List.length_cons]; omega)
              rw [List.length_cons, List.length_cons, show r.length + 1 + 1 - 1 - (r.length + 1) = 0 by omega] at hy
              have hz := hSv r.length (by rw [List.length_cons, List.length_cons]; omega)
              rw [List.length_cons, List.length_cons, show r.length + 1 + 1 - 1 - r.length = 1 by omega] at hz
              have hst : stepS a b c s (y :: z :: r) = some (joinI (s - 20000) z y :: r) := by unfold stepS; rw [if_neg k80, if_neg k105, if_neg c153]
              have go2 := go _ hst (by rw [List.length_cons]; omega) (S.set r.length (joinI (s - 20000) z y)) (by rw [List.length_set]; exact hS) (fun j hj => by
                rw [List.length_cons] at hj ⊢
                rw [getD_set (by omega)]
                by_cases e : j = r.length
                · rw [if_pos e, e, show r.length + 1 - 1 - r.length = 0 by omega]; rfl
                · rw [if_neg e, hSv j (by rw [List.length_cons, List.length_cons]; omega), List.length_cons, List.length_cons, show r.length + 1 + 1 - 1 - j = (r.length - 1 - j) + 1 + 1 by omega, getD_cons, getD_cons, show r.length + 1 - 1 - j = (r.length - 1 - j) + 1 by omega, getD_cons])
              rw [List.length_cons, show nI (r.length + 1) - 1 = nI r.length from nI_pred _] at go2
              rw [List.length_cons, List.length_cons, show nI (r.length + 1 + 1) - 1 = nI (r.length + 1) from nI_pred _]
              refine r_iincm (pc := 185) dX8_value_185 rfl (Nat.le_of_ble_eq_true rfl) rfl ?_
              dsimp only [lset]
              rw [show nI (r.length + 1) - 1 = nI r.length from nI_pred _]
              refine r_aload_n (pc := 188) dX8_value_188 rfl ?_
              refine r_getf (pc := 189) (k := 2) dX8_value_189 hX8 eX8 (by decide) fX8_18 (fun _ q => ⟨q.1.1, q.1.2.1⟩) rfl ?_
              refine r_iload (pc := 192) dX8_value_192 rfl ?_
              refine r_iload (pc := 194) dX8_value_194 rfl ?_
              refine r_sipush (pc := 196) (v := 20000) dX8_value_196 (by decide) ?_
              refine r_isub (pc := 199) dX8_value_199 ?_
              refine r_aload_n (pc := 200) dX8_value_200 rfl ?_
              refine r_getf (pc := 201) (k := 2) dX8_value_201 hX8 eX8 (by decide) fX8_18 (fun _ q => ⟨q.1.1, q.1.2.1⟩) rfl ?_
              refine r_iload (pc := 204) dX8_value_204 rfl ?_
              refine r_Vi (pc := 206) (μ' := mX5_at) dX8_value_206 nX8_41 iX5_at vX5_at kX5_at rfl rfl (rr (by decide) rfl) rfl ⟨Nat.zero_le _, Nat.zero_le _⟩ (fun g' q => ct_Row_at q.1.2.2.2 q) ?_
              refine r_aload_n (pc := 209) dX8_value_209 rfl ?_
              refine r_getf (pc := 210) (k := 2) dX8_value_210 hX8 eX8 (by decide) fX8_18 (fun _ q => ⟨q.1.1, q.1.2.1⟩) rfl ?_
              refine r_iload (pc := 213) dX8_value_213 rfl ?_
              refine r_iconst (pc := 215) (v := 1) dX8_value_215 (by decide) ?_
              refine r_iadd (pc := 216) dX8_value_216 ?_
              rw [nI_s]
              refine r_Vi (pc := 217) (μ' := mX5_at) dX8_value_217 nX8_41 iX5_at vX5_at kX5_at rfl rfl (rr (by decide) rfl) rfl ⟨Nat.zero_le _, Nat.zero_le _⟩ (fun g' q => ct_Row_at q.1.2.2.2 q) ?_
              rw [atL_nI (show r.length ≤ 4000 by omega), atL_nI (show r.length + 1 ≤ 4000 by omega), hy, hz]
              refine r_Sp (pc := 220) (μ' := mX8_join) dX8_value_220 nX8_47 sX8_join kX8_join rfl rfl (rr (by decide) rfl) rfl ⟨Nat.zero_le _, Nat.zero_le _⟩ (fun h => ct_Text_join h) ?_
              refine r_Vv (pc := 223) (μ' := mX5_write) dX8_value_223 nX8_44 iX5_write vX5_write kX5_write rfl rfl (rr (by decide) rfl) rfl ⟨Nat.zero_le _, Nat.zero_le _⟩ (fun g' q => ct_Row_write q.1.2.2.2 (fun g2 h1 h2 => sv _ g' g2 q (by rw [wrL_nI (show r.length ≤ 4000 by omega)] at h1; exact h1) h2)) ?_
              exact go2
            · skip
              obtain ⟨y, r, hr⟩ : ∃ y r, stk = y :: r := by
                cases stk with
                | cons y r => exact ⟨y, r, rfl⟩
                | nil => rw [runS, show stepS a b c s [] = none by unfold stepS; rw [if_neg k80, if_neg k105, if_pos c153]] at hrun; cases hrun
              subst hr
              rw [List.length_cons] at hsl
              have hy := hSv r.length (by rw [List.length_cons]; omega)
              rw [List.length_cons, show r.length + 1 - 1 - r.length = 0 by omega] at hy
              have hst : stepS a b c s (y :: r) = some ((if y = 0 then 1 else 0) :: r) := by unfold stepS; rw [if_neg k80, if_neg k105, if_pos c153]
              have go2 := go _ hst (by rw [List.length_cons]; omega) (S.set r.length (if y = 0 then 1 else 0)) (by rw [List.length_set]; exact hS) (fun j hj => by
                rw [List.length_cons] at hj ⊢
                rw [getD_set (by omega)]
                by_cases e : j = r.length
                · rw [if_pos e, e, show r.length + 1 - 1 - r.length = 0 by omega]; rfl
                · rw [if_neg e, hSv j (by rw [List.length_cons]; omega), List.length_cons, show r.length + 1 - 1 - j = (r.length - 1 - j) + 1 by omega, getD_cons, getD_cons])
              rw [List.length_cons, show nI (r.length + 1) - 1 = nI r.length from nI_pred _] at go2
              rw [List.length_cons, show nI (r.length + 1) - 1 = nI r.length from nI_pred _]
              refine r_aload_n (pc := 156) dX8_value_156 rfl ?_
              refine r_getf (pc := 157) (k := 2) dX8_value_157 hX8 eX8 (by decide) fX8_18 (fun _ q => ⟨q.1.1, q.1.2.1⟩) rfl ?_
              refine r_iload (pc := 160) dX8_value_160 rfl ?_
              refine r_aload_n (pc := 162) dX8_value_162 rfl ?_
              refine r_getf (pc := 163) (k := 2) dX8_value_163 hX8 eX8 (by decide) fX8_18 (fun _ q => ⟨q.1.1, q.1.2.1⟩) rfl ?_
              refine r_iload (pc := 166) dX8_value_166 rfl ?_
              refine r_Vi (pc := 168) (μ' := mX5_at) dX8_value_168 nX8_41 iX5_at vX5_at kX5_at rfl rfl (rr (by decide) rfl) rfl ⟨Nat.zero_le _, Nat.zero_le _⟩ (fun g' q => ct_Row_at q.1.2.2.2 q) ?_
              rw [atL_nI (show r.length ≤ 4000 by omega), hy]
              refine r_if_ne (pc := 171) 178 dX8_value_171 (by decide) (fun c171 => ?_) (fun c171 => ?_)
              · skip
                have e0 : (0 : Int32) = (if y = 0 then 1 else 0) := (if_neg c171).symm
                refine r_iconst (pc := 178) (v := 0) dX8_value_178 (by decide) ?_
                rw [e0]
                refine r_Vv (pc := 179) (μ' := mX5_write) dX8_value_179 nX8_44 iX5_write vX5_write kX5_write rfl rfl (rr (by decide) rfl) rfl ⟨Nat.zero_le _, Nat.zero_le _⟩ (fun g' q => ct_Row_write q.1.2.2.2 (fun g2 h1 h2 => sv _ g' g2 q (by rw [wrL_nI (show r.length ≤ 4000 by omega)] at h1; exact h1) h2)) ?_
                exact r_goto (pc := 182) 226 dX8_value_182 (by decide) go2
              · skip
                have e0 : (1 : Int32) = (if y = 0 then 1 else 0) := (if_pos c171).symm
                refine r_iconst (pc := 174) (v := 1) dX8_value_174 (by decide) ?_
                refine r_goto (pc := 175) 179 dX8_value_175 (by decide) ?_
                rw [e0]
                refine r_Vv (pc := 179) (μ' := mX5_write) dX8_value_179 nX8_44 iX5_write vX5_write kX5_write rfl rfl (rr (by decide) rfl) rfl ⟨Nat.zero_le _, Nat.zero_le _⟩ (fun g' q => ct_Row_write q.1.2.2.2 (fun g2 h1 h2 => sv _ g' g2 q (by rw [wrL_nI (show r.length ≤ 4000 by omega)] at h1; exact h1) h2)) ?_
                exact r_goto (pc := 182) 226 dX8_value_182 (by decide) go2
          · skip
            have k105 : s < 20000 := Int32.not_le.mp c105
            refine r_iinc1 (pc := 108) dX8_value_108 rfl (Nat.le_of_ble_eq_true rfl) rfl ?_
            dsimp only [lset]
            rw [subadd1]
            refine r_aload_n (pc := 111) dX8_value_111 rfl ?_
            refine r_getf (pc := 112) (k := 2) dX8_value_112 hX8 eX8 (by decide) fX8_18 (fun _ q => ⟨q.1.1, q.1.2.1⟩) rfl ?_
            refine r_iload (pc := 115) dX8_value_115 rfl ?_
            refine r_iload (pc := 117) dX8_value_117 rfl ?_
            refine r_sipush (pc := 119) (v := 10000) dX8_value_119 (by decide) ?_
            refine r_icmp_ne (pc := 122) 129 dX8_value_122 (by decide) (fun c122 => ?_) (fun c122 => ?_)
            · skip
              refine r_iload (pc := 129) dX8_value_129 rfl ?_
              refine r_sipush (pc := 131) (v := 10001) dX8_value_131 (by decide) ?_
              refine r_icmp_ne (pc := 134) 141 dX8_value_134 (by decide) (fun c134 => ?_) (fun c134 => ?_)
              · skip
                have hv : stepS a b c s stk = some (c :: stk) := by unfold stepS; rw [if_neg k80, if_pos k105, if_neg c122, if_neg c134]
                refine r_iload_n (pc := 141) dX8_value_141 rfl ?_
                refine r_Vv (pc := 142) (μ' := mX5_write) dX8_value_142 nX8_44 iX5_write vX5_write kX5_write rfl rfl (rr (by decide) rfl) rfl ⟨Nat.zero_le _, Nat.zero_le _⟩ (fun g' q => ct_Row_write q.1.2.2.2 (fun g2 h1 h2 => sv _ g' g2 q (by rw [wrL_nI (show stk.length ≤ 4000 by omega)] at h1; exact h1) h2)) ?_
                exact r_goto (pc := 145) 226 dX8_value_145 (by decide) (push _ hv)
              · skip
                have hv : stepS a b c s stk = some (b :: stk) := by unfold stepS; rw [if_neg k80, if_pos k105, if_neg c122, if_pos c134]
                refine r_iload_n (pc := 137) dX8_value_137 rfl ?_
                refine r_goto (pc := 138) 142 dX8_value_138 (by decide) ?_
                refine r_Vv (pc := 142) (μ' := mX5_write) dX8_value_142 nX8_44 iX5_write vX5_write kX5_write rfl rfl (rr (by decide) rfl) rfl ⟨Nat.zero_le _, Nat.zero_le _⟩ (fun g' q => ct_Row_write q.1.2.2.2 (fun g2 h1 h2 => sv _ g' g2 q (by rw [wrL_nI (show stk.length ≤ 4000 by omega)] at h1; exact h1) h2)) ?_
                exact r_goto (pc := 145) 226 dX8_value_145 (by decide) (push _ hv)
            · skip
              have hv : stepS a b c s stk = some (a :: stk) := by unfold stepS; rw [if_neg k80, if_pos k105, if_pos c122]
              refine r_iload_n (pc := 125) dX8_value_125 rfl ?_
              refine r_goto (pc := 126) 142 dX8_value_126 (by decide) ?_
              refine r_Vv (pc := 142) (μ' := mX5_write) dX8_value_142 nX8_44 iX5_write vX5_write kX5_write rfl rfl (rr (by decide) rfl) rfl ⟨Nat.zero_le _, Nat.zero_le _⟩ (fun g' q => ct_Row_write q.1.2.2.2 (fun g2 h1 h2 => sv _ g' g2 q (by rw [wrL_nI (show stk.length ≤ 4000 by omega)] at h1; exact h1) h2)) ?_
              exact r_goto (pc := 145) 226 dX8_value_145 (by decide) (push _ hv)
        · skip
          have k80 : s < 10000 := Int32.not_le.mp c80
          refine r_iinc1 (pc := 83) dX8_value_83 rfl (Nat.le_of_ble_eq_true rfl) rfl ?_
          dsimp only [lset]
          rw [subadd1]
          refine r_aload_n (pc := 86) dX8_value_86 rfl ?_
          refine r_getf (pc := 87) (k := 2) dX8_value_87 hX8 eX8 (by decide) fX8_18 (fun _ q => ⟨q.1.1, q.1.2.1⟩) rfl ?_
          refine r_iload (pc := 90) dX8_value_90 rfl ?_
          refine r_iload (pc := 92) dX8_value_92 rfl ?_
          refine r_Vv (pc := 94) (μ' := mX5_write) dX8_value_94 nX8_44 iX5_write vX5_write kX5_write rfl rfl (rr (by decide) rfl) rfl ⟨Nat.zero_le _, Nat.zero_le _⟩ (fun g' q => ct_Row_write (P' := fun g2 => (t < g2.1 ∧ g2.2 t = .inr (.inr (7, [.int use, .ref (t + 1), .ref (t + 3)])) ∧ RowAt (t + 1) 50 l g2 ∧ RowAt (t + 3) 50 (S.set stk.length s) g2) ∧ Off t 5 g g2) q.1.2.2.2 (fun g2 h1 h2 => sv _ g' g2 q (by rw [wrL_nI (by omega)] at h1; exact h1) h2)) ?_
          exact r_goto (pc := 97) 226 dX8_value_97 (by decide) (push s (by unfold stepS; rw [if_pos k80]))
  refine aw_P (P' := fun g' => TextAt t use l g' ∧ Off t 5 g g') (fun g' e => by subst e; exact ⟨hR, Off.rf _ _ _⟩) ?_
  unfold lawI
  refine r_aload_n (pc := 0) dX8_value_0 rfl ?_
  refine r_getf (pc := 1) (k := 1) dX8_value_1 hX8 eX8 (by decide) fX8_14 (fun _ q => q.1.o) rfl ?_
  refine r_Vi (pc := 4) (μ' := mX5_length) dX8_value_4 nX8_29 iX5_length vX5_length kX5_length rfl rfl (rr (by decide) rfl) rfl ⟨Nat.zero_le _, Nat.zero_le _⟩ (fun g' q => ct_Row_length q.1.2.2.1 q) ?_
  refine r_if_ne (pc := 7) 31 dX8_value_7 (by decide) (fun c7 => ?_) (fun c7 => ?_)
  · skip
    have k7 : ¬ l.length = 0 := fun q => c7 (by rw [q]; rfl)
    rw [if_neg k7]
    have hrun2 := hrun.resolve_left k7
    rw [hrun2]
    refine aw_P (P' := fun g' => ∃ sk, (t < g'.1 ∧ g'.2 t = .inr (.inr (7, [.int use, .ref (t + 1), .ref (t + 3)])) ∧ RowAt (t + 1) 50 l g' ∧ RowAt (t + 3) 50 sk g') ∧ Off t 5 g g') (fun g' q => by
      obtain ⟨⟨q1, q2, q3, sk, q4⟩, q5⟩ := q
      exact ⟨sk, ⟨q1, q2, q3, q4⟩, q5⟩) (aw_ex fun sk => ?_)
    refine r_aload_n (pc := 31) dX8_value_31 rfl ?_
    refine r_getf (pc := 32) (k := 2) dX8_value_32 hX8 eX8 (by decide) fX8_18 (fun _ q => ⟨q.1.1, q.1.2.1⟩) rfl ?_
    refine r_aload_n (pc := 35) dX8_value_35 rfl ?_
    refine r_getf (pc := 36) (k := 1) dX8_value_36 hX8 eX8 (by decide) fX8_14 (fun _ q => ⟨q.1.1, q.1.2.1⟩) rfl ?_
    refine r_Vi (pc := 39) (μ' := mX5_length) dX8_value_39 nX8_29 iX5_length vX5_length kX5_length rfl rfl (rr (by decide) rfl) rfl ⟨Nat.zero_le _, Nat.zero_le _⟩ (fun g' q => ct_Row_length q.1.2.2.1 q) ?_
    refine r_iconst (pc := 42) (v := 0) dX8_value_42 (by decide) ?_
    refine r_Vv (pc := 43) (μ' := mX5_fill) dX8_value_43 nX8_37 iX5_fill vX5_fill kX5_fill rfl rfl (rr (by decide) rfl) rfl ⟨Nat.zero_le _, Nat.zero_le _⟩ (fun g' q => ct_Row_fill (P' := fun g2 => (t < g2.1 ∧ g2.2 t = .inr (.inr (7, [.int use, .ref (t + 1), .ref (t + 3)])) ∧ RowAt (t + 1) 50 l g2 ∧ RowAt (t + 3) 50 (List.replicate (clampI (nI l.length) 50) 0) g2) ∧ Off t 5 g g2) q.1.2.2.2 (fun g2 h1 h2 => ⟨⟨by rw [h2.1]; exact q.1.1, by rw [h2.2 t (by omega)]; exact q.1.2.1, q.1.2.2.1.off h2 (by omega), h1⟩, q.2.tr (h2.wide (by omega) (by omega))⟩)) ?_
    refine r_iconst (pc := 46) (v := (-1)) dX8_value_46 (by decide) ?_
    refine r_istore (pc := 47) dX8_value_47 (Nat.le_of_ble_eq_true rfl) rfl ?_
    dsimp only [lset]
    refine r_iconst (pc := 49) (v := 0) dX8_value_49 (by decide) ?_
    refine r_istore (pc := 50) dX8_value_50 (Nat.le_of_ble_eq_true rfl) rfl ?_
    dsimp only [lset]
    exact L l 0 [] rfl (Nat.zero_le _) (Nat.le_refl _) hrun2 _ (by rw [List.length_replicate]; unfold clampI; rw [hTn]; omega) (fun j hj => absurd hj (Nat.not_lt_zero j))
  · skip
    have k7 : l.length = 0 := by have := fa_eq.mp c7; rw [t0] at this; omega
    rw [if_pos k7]
    refine r_aload_n (pc := 10) dX8_value_10 rfl ?_
    refine r_getf (pc := 11) (k := 0) dX8_value_11 hX8 eX8 (by decide) fX8_21 (fun _ q => q.1.o) rfl ?_
    refine r_if_ne (pc := 14) 24 dX8_value_14 (by decide) (fun c14 => ?_) (fun c14 => ?_)
    · skip
      rw [if_neg c14]
      refine r_iconst (pc := 24) (v := 1) dX8_value_24 (by decide) ?_
      refine r_iload_n (pc := 25) dX8_value_25 rfl ?_
      refine r_iadd (pc := 26) dX8_value_26 ?_
      refine r_Sp (pc := 27) (μ' := mX8_held) dX8_value_27 nX8_33 sX8_held kX8_held rfl rfl (rr (by decide) rfl) rfl ⟨Nat.zero_le _, Nat.zero_le _⟩ (fun h => ct_Text_held h) ?_
      refine r_ireturn (pc := 30) (ty := .int) dX8_value_30 rfl rfl ⟨Nat.zero_le _, Nat.zero_le _⟩ (fun gE hg => ?_)
      exact ⟨rfl, hP _ hg.1 hg.2⟩
    · skip
      rw [if_pos c14]
      refine r_bipush (pc := 17) (v := 10) dX8_value_17 (by decide) ?_
      refine r_iload_n (pc := 19) dX8_value_19 rfl ?_
      refine r_isub (pc := 20) dX8_value_20 ?_
      refine r_goto (pc := 21) 27 dX8_value_21 (by decide) ?_
      refine r_Sp (pc := 27) (μ' := mX8_held) dX8_value_27 nX8_33 sX8_held kX8_held rfl rfl (rr (by decide) rfl) rfl ⟨Nat.zero_le _, Nat.zero_le _⟩ (fun h => ct_Text_held h) ?_
      refine r_ireturn (pc := 30) (ty := .int) dX8_value_30 rfl rfl ⟨Nat.zero_le _, Nat.zero_le _⟩ (fun gE hg => ?_)
      exact ⟨rfl, hP _ hg.1 hg.2⟩
end
section
theorem dX4_init_0 : decode cX4_init 0 = .ok (.aload_n 0, 1) := by decide +kernel
theorem dX4_init_1 : decode cX4_init 1 = .ok (.invokespecial 1, 3) := by decide +kernel
theorem dX4_init_4 : decode cX4_init 4 = .ok (.aload_n 0, 1) := by decide +kernel
theorem dX4_init_5 : decode cX4_init 5 = .ok (.new 7, 3) := by decide +kernel
theorem dX4_init_8 : decode cX4_init 8 = .ok (.dup, 1) := by decide +kernel
theorem dX4_init_9 : decode cX4_init 9 = .ok (.bipush 50, 2) := by decide +kernel
theorem dX4_init_11 : decode cX4_init 11 = .ok (.invokespecial 11, 3) := by decide +kernel
theorem dX4_init_14 : decode cX4_init 14 = .ok (.putfield 14, 3) := by decide +kernel
theorem dX4_init_17 : decode cX4_init 17 = .ok (.aload_n 0, 1) := by decide +kernel
theorem dX4_init_18 : decode cX4_init 18 = .ok (.aload_n 0, 1) := by decide +kernel
theorem dX4_init_19 : decode cX4_init 19 = .ok (.getfield 14, 3) := by decide +kernel
theorem dX4_init_22 : decode cX4_init 22 = .ok (.putfield 20, 3) := by decide +kernel
theorem dX4_init_25 : decode cX4_init 25 = .ok (.aload_n 0, 1) := by decide +kernel
theorem dX4_init_26 : decode cX4_init 26 = .ok (.aconst_null, 1) := by decide +kernel
theorem dX4_init_27 : decode cX4_init 27 = .ok (.putfield 23, 3) := by decide +kernel
theorem dX4_init_30 : decode cX4_init 30 = .ok (.aload_n 0, 1) := by decide +kernel
theorem dX4_init_31 : decode cX4_init 31 = .ok (.iconst 0, 1) := by decide +kernel
theorem dX4_init_32 : decode cX4_init 32 = .ok (.putfield 27, 3) := by decide +kernel
theorem dX4_init_35 : decode cX4_init 35 = .ok (.aload_n 0, 1) := by decide +kernel
theorem dX4_init_36 : decode cX4_init 36 = .ok (.iconst 1, 1) := by decide +kernel
theorem dX4_init_37 : decode cX4_init 37 = .ok (.putfield 31, 3) := by decide +kernel
theorem dX4_init_40 : decode cX4_init 40 = .ok (.return_, 1) := by decide +kernel
theorem dX4_read_0 : decode cX4_read 0 = .ok (.aload_n 0, 1) := by decide +kernel
theorem dX4_read_1 : decode cX4_read 1 = .ok (.aload_n 1, 1) := by decide +kernel
theorem dX4_read_2 : decode cX4_read 2 = .ok (.putfield 20, 3) := by decide +kernel
theorem dX4_read_5 : decode cX4_read 5 = .ok (.aload_n 0, 1) := by decide +kernel
theorem dX4_read_6 : decode cX4_read 6 = .ok (.aload_n 2, 1) := by decide +kernel
theorem dX4_read_7 : decode cX4_read 7 = .ok (.putfield 23, 3) := by decide +kernel
theorem dX4_read_10 : decode cX4_read 10 = .ok (.aload_n 0, 1) := by decide +kernel
theorem dX4_read_11 : decode cX4_read 11 = .ok (.iconst 0, 1) := by decide +kernel
theorem dX4_read_12 : decode cX4_read 12 = .ok (.putfield 27, 3) := by decide +kernel
theorem dX4_read_15 : decode cX4_read 15 = .ok (.aload_n 0, 1) := by decide +kernel
theorem dX4_read_16 : decode cX4_read 16 = .ok (.iconst 1, 1) := by decide +kernel
theorem dX4_read_17 : decode cX4_read 17 = .ok (.putfield 31, 3) := by decide +kernel
theorem dX4_read_20 : decode cX4_read 20 = .ok (.aload_n 0, 1) := by decide +kernel
theorem dX4_read_21 : decode cX4_read 21 = .ok (.getfield 14, 3) := by decide +kernel
theorem dX4_read_24 : decode cX4_read 24 = .ok (.invokevirtual 35, 3) := by decide +kernel
theorem dX4_read_27 : decode cX4_read 27 = .ok (.aload_n 0, 1) := by decide +kernel
theorem dX4_read_28 : decode cX4_read 28 = .ok (.iconst 0, 1) := by decide +kernel
theorem dX4_read_29 : decode cX4_read 29 = .ok (.invokevirtual 38, 3) := by decide +kernel
theorem dX4_read_32 : decode cX4_read 32 = .ok (.aload_n 0, 1) := by decide +kernel
theorem dX4_read_33 : decode cX4_read 33 = .ok (.getfield 31, 3) := by decide +kernel
theorem dX4_read_36 : decode cX4_read 36 = .ok (.ifCond .eq 17, 3) := by decide +kernel
theorem dX4_read_39 : decode cX4_read 39 = .ok (.aload_n 0, 1) := by decide +kernel
theorem dX4_read_40 : decode cX4_read 40 = .ok (.getfield 27, 3) := by decide +kernel
theorem dX4_read_43 : decode cX4_read 43 = .ok (.aload_n 0, 1) := by decide +kernel
theorem dX4_read_44 : decode cX4_read 44 = .ok (.getfield 20, 3) := by decide +kernel
theorem dX4_read_47 : decode cX4_read 47 = .ok (.invokevirtual 41, 3) := by decide +kernel
theorem dX4_read_50 : decode cX4_read 50 = .ok (.if_icmp .ge 8, 3) := by decide +kernel
theorem dX4_read_53 : decode cX4_read 53 = .ok (.aload_n 0, 1) := by decide +kernel
theorem dX4_read_54 : decode cX4_read 54 = .ok (.getfield 27, 3) := by decide +kernel
theorem dX4_read_57 : decode cX4_read 57 = .ok (.ireturn, 1) := by decide +kernel
theorem dX4_read_58 : decode cX4_read 58 = .ok (.aload_n 2, 1) := by decide +kernel
theorem dX4_read_59 : decode cX4_read 59 = .ok (.aload_n 0, 1) := by decide +kernel
theorem dX4_read_60 : decode cX4_read 60 = .ok (.getfield 14, 3) := by decide +kernel
theorem dX4_read_63 : decode cX4_read 63 = .ok (.invokevirtual 45, 3) := by decide +kernel
theorem dX4_read_66 : decode cX4_read 66 = .ok (.iconst (-1), 1) := by decide +kernel
theorem dX4_read_67 : decode cX4_read 67 = .ok (.ireturn, 1) := by decide +kernel
theorem dX4_next_0 : decode cX4_next 0 = .ok (.aload_n 0, 1) := by decide +kernel
theorem dX4_next_1 : decode cX4_next 1 = .ok (.getfield 20, 3) := by decide +kernel
theorem dX4_next_4 : decode cX4_next 4 = .ok (.aload_n 0, 1) := by decide +kernel
theorem dX4_next_5 : decode cX4_next 5 = .ok (.getfield 27, 3) := by decide +kernel
theorem dX4_next_8 : decode cX4_next 8 = .ok (.invokevirtual 49, 3) := by decide +kernel
theorem dX4_next_11 : decode cX4_next 11 = .ok (.ifCond .eq 17, 3) := by decide +kernel
theorem dX4_next_14 : decode cX4_next 14 = .ok (.aload_n 0, 1) := by decide +kernel
theorem dX4_next_15 : decode cX4_next 15 = .ok (.getfield 20, 3) := by decide +kernel
theorem dX4_next_18 : decode cX4_next 18 = .ok (.aload_n 0, 1) := by decide +kernel
theorem dX4_next_19 : decode cX4_next 19 = .ok (.getfield 27, 3) := by decide +kernel
theorem dX4_next_22 : decode cX4_next 22 = .ok (.invokevirtual 53, 3) := by decide +kernel
theorem dX4_next_25 : decode cX4_next 25 = .ok (.goto 4, 3) := by decide +kernel
theorem dX4_next_28 : decode cX4_next 28 = .ok (.iconst (-1), 1) := by decide +kernel
theorem dX4_next_29 : decode cX4_next 29 = .ok (.ireturn, 1) := by decide +kernel
theorem dX4_nextIs_0 : decode cX4_nextIs 0 = .ok (.aload_n 0, 1) := by decide +kernel
theorem dX4_nextIs_1 : decode cX4_nextIs 1 = .ok (.getfield 31, 3) := by decide +kernel
theorem dX4_nextIs_4 : decode cX4_nextIs 4 = .ok (.ifCond .eq 15, 3) := by decide +kernel
theorem dX4_nextIs_7 : decode cX4_nextIs 7 = .ok (.aload_n 0, 1) := by decide +kernel
theorem dX4_nextIs_8 : decode cX4_nextIs 8 = .ok (.invokevirtual 56, 3) := by decide +kernel
theorem dX4_nextIs_11 : decode cX4_nextIs 11 = .ok (.iload_n 1, 1) := by decide +kernel
theorem dX4_nextIs_12 : decode cX4_nextIs 12 = .ok (.if_icmp .ne 7, 3) := by decide +kernel
theorem dX4_nextIs_15 : decode cX4_nextIs 15 = .ok (.iconst 1, 1) := by decide +kernel
theorem dX4_nextIs_16 : decode cX4_nextIs 16 = .ok (.goto 4, 3) := by decide +kernel
theorem dX4_nextIs_19 : decode cX4_nextIs 19 = .ok (.iconst 0, 1) := by decide +kernel
theorem dX4_nextIs_20 : decode cX4_nextIs 20 = .ok (.ireturn, 1) := by decide +kernel
theorem dX4_emit_0 : decode cX4_emit 0 = .ok (.aload_n 0, 1) := by decide +kernel
theorem dX4_emit_1 : decode cX4_emit 1 = .ok (.getfield 14, 3) := by decide +kernel
theorem dX4_emit_4 : decode cX4_emit 4 = .ok (.sipush 20000, 3) := by decide +kernel
theorem dX4_emit_7 : decode cX4_emit 7 = .ok (.iload_n 1, 1) := by decide +kernel
theorem dX4_emit_8 : decode cX4_emit 8 = .ok (.iadd, 1) := by decide +kernel
theorem dX4_emit_9 : decode cX4_emit 9 = .ok (.invokevirtual 59, 3) := by decide +kernel
theorem dX4_emit_12 : decode cX4_emit 12 = .ok (.pop, 1) := by decide +kernel
theorem dX4_emit_13 : decode cX4_emit 13 = .ok (.return_, 1) := by decide +kernel
theorem dX4_readT_0 : decode cX4_readT 0 = .ok (.aload_n 0, 1) := by decide +kernel
theorem dX4_readT_1 : decode cX4_readT 1 = .ok (.iload_n 1, 1) := by decide +kernel
theorem dX4_readT_2 : decode cX4_readT 2 = .ok (.invokevirtual 62, 3) := by decide +kernel
theorem dX4_readT_5 : decode cX4_readT 5 = .ok (.iconst 0, 1) := by decide +kernel
theorem dX4_readT_6 : decode cX4_readT 6 = .ok (.istore_n 2, 1) := by decide +kernel
theorem dX4_readT_7 : decode cX4_readT 7 = .ok (.iload_n 2, 1) := by decide +kernel
theorem dX4_readT_8 : decode cX4_readT 8 = .ok (.bipush 50, 2) := by decide +kernel
theorem dX4_readT_10 : decode cX4_readT 10 = .ok (.if_icmp .ge 39, 3) := by decide +kernel
theorem dX4_readT_13 : decode cX4_readT 13 = .ok (.aload_n 0, 1) := by decide +kernel
theorem dX4_readT_14 : decode cX4_readT 14 = .ok (.bipush 124, 2) := by decide +kernel
theorem dX4_readT_16 : decode cX4_readT 16 = .ok (.invokevirtual 65, 3) := by decide +kernel
theorem dX4_readT_19 : decode cX4_readT 19 = .ok (.ifCond .eq 30, 3) := by decide +kernel
theorem dX4_readT_22 : decode cX4_readT 22 = .ok (.aload_n 0, 1) := by decide +kernel
theorem dX4_readT_23 : decode cX4_readT 23 = .ok (.dup, 1) := by decide +kernel
theorem dX4_readT_24 : decode cX4_readT 24 = .ok (.getfield 27, 3) := by decide +kernel
theorem dX4_readT_27 : decode cX4_readT 27 = .ok (.iconst 1, 1) := by decide +kernel
theorem dX4_readT_28 : decode cX4_readT 28 = .ok (.iadd, 1) := by decide +kernel
theorem dX4_readT_29 : decode cX4_readT 29 = .ok (.putfield 27, 3) := by decide +kernel
theorem dX4_readT_32 : decode cX4_readT 32 = .ok (.aload_n 0, 1) := by decide +kernel
theorem dX4_readT_33 : decode cX4_readT 33 = .ok (.iload_n 1, 1) := by decide +kernel
theorem dX4_readT_34 : decode cX4_readT 34 = .ok (.invokevirtual 62, 3) := by decide +kernel
theorem dX4_readT_37 : decode cX4_readT 37 = .ok (.aload_n 0, 1) := by decide +kernel
theorem dX4_readT_38 : decode cX4_readT 38 = .ok (.bipush 124, 2) := by decide +kernel
theorem dX4_readT_40 : decode cX4_readT 40 = .ok (.invokevirtual 68, 3) := by decide +kernel
theorem dX4_readT_43 : decode cX4_readT 43 = .ok (.iinc 2 1, 3) := by decide +kernel
theorem dX4_readT_46 : decode cX4_readT 46 = .ok (.goto (-39), 3) := by decide +kernel
theorem dX4_readT_49 : decode cX4_readT 49 = .ok (.return_, 1) := by decide +kernel
theorem dX4_readA_0 : decode cX4_readA 0 = .ok (.aload_n 0, 1) := by decide +kernel
theorem dX4_readA_1 : decode cX4_readA 1 = .ok (.iload_n 1, 1) := by decide +kernel
theorem dX4_readA_2 : decode cX4_readA 2 = .ok (.invokevirtual 71, 3) := by decide +kernel
theorem dX4_readA_5 : decode cX4_readA 5 = .ok (.iconst 0, 1) := by decide +kernel
theorem dX4_readA_6 : decode cX4_readA 6 = .ok (.istore_n 2, 1) := by decide +kernel
theorem dX4_readA_7 : decode cX4_readA 7 = .ok (.iload_n 2, 1) := by decide +kernel
theorem dX4_readA_8 : decode cX4_readA 8 = .ok (.bipush 50, 2) := by decide +kernel
theorem dX4_readA_10 : decode cX4_readA 10 = .ok (.if_icmp .ge 39, 3) := by decide +kernel
theorem dX4_readA_13 : decode cX4_readA 13 = .ok (.aload_n 0, 1) := by decide +kernel
theorem dX4_readA_14 : decode cX4_readA 14 = .ok (.bipush 38, 2) := by decide +kernel
theorem dX4_readA_16 : decode cX4_readA 16 = .ok (.invokevirtual 65, 3) := by decide +kernel
theorem dX4_readA_19 : decode cX4_readA 19 = .ok (.ifCond .eq 30, 3) := by decide +kernel
theorem dX4_readA_22 : decode cX4_readA 22 = .ok (.aload_n 0, 1) := by decide +kernel
theorem dX4_readA_23 : decode cX4_readA 23 = .ok (.dup, 1) := by decide +kernel
theorem dX4_readA_24 : decode cX4_readA 24 = .ok (.getfield 27, 3) := by decide +kernel
theorem dX4_readA_27 : decode cX4_readA 27 = .ok (.iconst 1, 1) := by decide +kernel
theorem dX4_readA_28 : decode cX4_readA 28 = .ok (.iadd, 1) := by decide +kernel
theorem dX4_readA_29 : decode cX4_readA 29 = .ok (.putfield 27, 3) := by decide +kernel
theorem dX4_readA_32 : decode cX4_readA 32 = .ok (.aload_n 0, 1) := by decide +kernel
theorem dX4_readA_33 : decode cX4_readA 33 = .ok (.iload_n 1, 1) := by decide +kernel
theorem dX4_readA_34 : decode cX4_readA 34 = .ok (.invokevirtual 71, 3) := by decide +kernel
theorem dX4_readA_37 : decode cX4_readA 37 = .ok (.aload_n 0, 1) := by decide +kernel
theorem dX4_readA_38 : decode cX4_readA 38 = .ok (.bipush 38, 2) := by decide +kernel
theorem dX4_readA_40 : decode cX4_readA 40 = .ok (.invokevirtual 68, 3) := by decide +kernel
theorem dX4_readA_43 : decode cX4_readA 43 = .ok (.iinc 2 1, 3) := by decide +kernel
theorem dX4_readA_46 : decode cX4_readA 46 = .ok (.goto (-39), 3) := by decide +kernel
theorem dX4_readA_49 : decode cX4_readA 49 = .ok (.return_, 1) := by decide +kernel
theorem dX4_readB_0 : decode cX4_readB 0 = .ok (.aload_n 0, 1) := by decide +kernel
theorem dX4_readB_1 : decode cX4_readB 1 = .ok (.iload_n 1, 1) := by decide +kernel
theorem dX4_readB_2 : decode cX4_readB 2 = .ok (.invokevirtual 74, 3) := by decide +kernel
theorem dX4_readB_5 : decode cX4_readB 5 = .ok (.aload_n 0, 1) := by decide +kernel
theorem dX4_readB_6 : decode cX4_readB 6 = .ok (.invokevirtual 56, 3) := by decide +kernel
theorem dX4_readB_9 : decode cX4_readB 9 = .ok (.istore_n 2, 1) := by decide +kernel
theorem dX4_readB_10 : decode cX4_readB 10 = .ok (.aload_n 0, 1) := by decide +kernel
theorem dX4_readB_11 : decode cX4_readB 11 = .ok (.bipush 60, 2) := by decide +kernel
theorem dX4_readB_13 : decode cX4_readB 13 = .ok (.invokevirtual 65, 3) := by decide +kernel
theorem dX4_readB_16 : decode cX4_readB 16 = .ok (.ifCond .ne 21, 3) := by decide +kernel
theorem dX4_readB_19 : decode cX4_readB 19 = .ok (.aload_n 0, 1) := by decide +kernel
theorem dX4_readB_20 : decode cX4_readB 20 = .ok (.bipush 61, 2) := by decide +kernel
theorem dX4_readB_22 : decode cX4_readB 22 = .ok (.invokevirtual 65, 3) := by decide +kernel
theorem dX4_readB_25 : decode cX4_readB 25 = .ok (.ifCond .ne 12, 3) := by decide +kernel
theorem dX4_readB_28 : decode cX4_readB 28 = .ok (.aload_n 0, 1) := by decide +kernel
theorem dX4_readB_29 : decode cX4_readB 29 = .ok (.bipush 62, 2) := by decide +kernel
theorem dX4_readB_31 : decode cX4_readB 31 = .ok (.invokevirtual 65, 3) := by decide +kernel
theorem dX4_readB_34 : decode cX4_readB 34 = .ok (.ifCond .eq 23, 3) := by decide +kernel
theorem dX4_readB_37 : decode cX4_readB 37 = .ok (.aload_n 0, 1) := by decide +kernel
theorem dX4_readB_38 : decode cX4_readB 38 = .ok (.dup, 1) := by decide +kernel
theorem dX4_readB_39 : decode cX4_readB 39 = .ok (.getfield 27, 3) := by decide +kernel
theorem dX4_readB_42 : decode cX4_readB 42 = .ok (.iconst 1, 1) := by decide +kernel
theorem dX4_readB_43 : decode cX4_readB 43 = .ok (.iadd, 1) := by decide +kernel
theorem dX4_readB_44 : decode cX4_readB 44 = .ok (.putfield 27, 3) := by decide +kernel
theorem dX4_readB_47 : decode cX4_readB 47 = .ok (.aload_n 0, 1) := by decide +kernel
theorem dX4_readB_48 : decode cX4_readB 48 = .ok (.iload_n 1, 1) := by decide +kernel
theorem dX4_readB_49 : decode cX4_readB 49 = .ok (.invokevirtual 74, 3) := by decide +kernel
theorem dX4_readB_52 : decode cX4_readB 52 = .ok (.aload_n 0, 1) := by decide +kernel
theorem dX4_readB_53 : decode cX4_readB 53 = .ok (.iload_n 2, 1) := by decide +kernel
theorem dX4_readB_54 : decode cX4_readB 54 = .ok (.invokevirtual 68, 3) := by decide +kernel
theorem dX4_readB_57 : decode cX4_readB 57 = .ok (.return_, 1) := by decide +kernel
theorem dX4_readS_0 : decode cX4_readS 0 = .ok (.aload_n 0, 1) := by decide +kernel
theorem dX4_readS_1 : decode cX4_readS 1 = .ok (.iload_n 1, 1) := by decide +kernel
theorem dX4_readS_2 : decode cX4_readS 2 = .ok (.invokevirtual 77, 3) := by decide +kernel
theorem dX4_readS_5 : decode cX4_readS 5 = .ok (.iconst 0, 1) := by decide +kernel
theorem dX4_readS_6 : decode cX4_readS 6 = .ok (.istore_n 2, 1) := by decide +kernel
theorem dX4_readS_7 : decode cX4_readS 7 = .ok (.iload_n 2, 1) := by decide +kernel
theorem dX4_readS_8 : decode cX4_readS 8 = .ok (.bipush 50, 2) := by decide +kernel
theorem dX4_readS_10 : decode cX4_readS 10 = .ok (.if_icmp .ge 52, 3) := by decide +kernel
theorem dX4_readS_13 : decode cX4_readS 13 = .ok (.aload_n 0, 1) := by decide +kernel
theorem dX4_readS_14 : decode cX4_readS 14 = .ok (.bipush 43, 2) := by decide +kernel
theorem dX4_readS_16 : decode cX4_readS 16 = .ok (.invokevirtual 65, 3) := by decide +kernel
theorem dX4_readS_19 : decode cX4_readS 19 = .ok (.ifCond .ne 12, 3) := by decide +kernel
theorem dX4_readS_22 : decode cX4_readS 22 = .ok (.aload_n 0, 1) := by decide +kernel
theorem dX4_readS_23 : decode cX4_readS 23 = .ok (.bipush 45, 2) := by decide +kernel
theorem dX4_readS_25 : decode cX4_readS 25 = .ok (.invokevirtual 65, 3) := by decide +kernel
theorem dX4_readS_28 : decode cX4_readS 28 = .ok (.ifCond .eq 34, 3) := by decide +kernel
theorem dX4_readS_31 : decode cX4_readS 31 = .ok (.aload_n 0, 1) := by decide +kernel
theorem dX4_readS_32 : decode cX4_readS 32 = .ok (.invokevirtual 56, 3) := by decide +kernel
theorem dX4_readS_35 : decode cX4_readS 35 = .ok (.istore_n 3, 1) := by decide +kernel
theorem dX4_readS_36 : decode cX4_readS 36 = .ok (.aload_n 0, 1) := by decide +kernel
theorem dX4_readS_37 : decode cX4_readS 37 = .ok (.dup, 1) := by decide +kernel
theorem dX4_readS_38 : decode cX4_readS 38 = .ok (.getfield 27, 3) := by decide +kernel
theorem dX4_readS_41 : decode cX4_readS 41 = .ok (.iconst 1, 1) := by decide +kernel
theorem dX4_readS_42 : decode cX4_readS 42 = .ok (.iadd, 1) := by decide +kernel
theorem dX4_readS_43 : decode cX4_readS 43 = .ok (.putfield 27, 3) := by decide +kernel
theorem dX4_readS_46 : decode cX4_readS 46 = .ok (.aload_n 0, 1) := by decide +kernel
theorem dX4_readS_47 : decode cX4_readS 47 = .ok (.iload_n 1, 1) := by decide +kernel
theorem dX4_readS_48 : decode cX4_readS 48 = .ok (.invokevirtual 77, 3) := by decide +kernel
theorem dX4_readS_51 : decode cX4_readS 51 = .ok (.aload_n 0, 1) := by decide +kernel
theorem dX4_readS_52 : decode cX4_readS 52 = .ok (.iload_n 3, 1) := by decide +kernel
theorem dX4_readS_53 : decode cX4_readS 53 = .ok (.invokevirtual 68, 3) := by decide +kernel
theorem dX4_readS_56 : decode cX4_readS 56 = .ok (.iinc 2 1, 3) := by decide +kernel
theorem dX4_readS_59 : decode cX4_readS 59 = .ok (.goto (-52), 3) := by decide +kernel
theorem dX4_readS_62 : decode cX4_readS 62 = .ok (.return_, 1) := by decide +kernel
theorem dX4_readP_0 : decode cX4_readP 0 = .ok (.aload_n 0, 1) := by decide +kernel
theorem dX4_readP_1 : decode cX4_readP 1 = .ok (.iload_n 1, 1) := by decide +kernel
theorem dX4_readP_2 : decode cX4_readP 2 = .ok (.invokevirtual 80, 3) := by decide +kernel
theorem dX4_readP_5 : decode cX4_readP 5 = .ok (.iconst 0, 1) := by decide +kernel
theorem dX4_readP_6 : decode cX4_readP 6 = .ok (.istore_n 2, 1) := by decide +kernel
theorem dX4_readP_7 : decode cX4_readP 7 = .ok (.iload_n 2, 1) := by decide +kernel
theorem dX4_readP_8 : decode cX4_readP 8 = .ok (.bipush 50, 2) := by decide +kernel
theorem dX4_readP_10 : decode cX4_readP 10 = .ok (.if_icmp .ge 61, 3) := by decide +kernel
theorem dX4_readP_13 : decode cX4_readP 13 = .ok (.aload_n 0, 1) := by decide +kernel
theorem dX4_readP_14 : decode cX4_readP 14 = .ok (.bipush 42, 2) := by decide +kernel
theorem dX4_readP_16 : decode cX4_readP 16 = .ok (.invokevirtual 65, 3) := by decide +kernel
theorem dX4_readP_19 : decode cX4_readP 19 = .ok (.ifCond .ne 21, 3) := by decide +kernel
theorem dX4_readP_22 : decode cX4_readP 22 = .ok (.aload_n 0, 1) := by decide +kernel
theorem dX4_readP_23 : decode cX4_readP 23 = .ok (.bipush 47, 2) := by decide +kernel
theorem dX4_readP_25 : decode cX4_readP 25 = .ok (.invokevirtual 65, 3) := by decide +kernel
theorem dX4_readP_28 : decode cX4_readP 28 = .ok (.ifCond .ne 12, 3) := by decide +kernel
theorem dX4_readP_31 : decode cX4_readP 31 = .ok (.aload_n 0, 1) := by decide +kernel
theorem dX4_readP_32 : decode cX4_readP 32 = .ok (.bipush 37, 2) := by decide +kernel
theorem dX4_readP_34 : decode cX4_readP 34 = .ok (.invokevirtual 65, 3) := by decide +kernel
theorem dX4_readP_37 : decode cX4_readP 37 = .ok (.ifCond .eq 34, 3) := by decide +kernel
theorem dX4_readP_40 : decode cX4_readP 40 = .ok (.aload_n 0, 1) := by decide +kernel
theorem dX4_readP_41 : decode cX4_readP 41 = .ok (.invokevirtual 56, 3) := by decide +kernel
theorem dX4_readP_44 : decode cX4_readP 44 = .ok (.istore_n 3, 1) := by decide +kernel
theorem dX4_readP_45 : decode cX4_readP 45 = .ok (.aload_n 0, 1) := by decide +kernel
theorem dX4_readP_46 : decode cX4_readP 46 = .ok (.dup, 1) := by decide +kernel
theorem dX4_readP_47 : decode cX4_readP 47 = .ok (.getfield 27, 3) := by decide +kernel
theorem dX4_readP_50 : decode cX4_readP 50 = .ok (.iconst 1, 1) := by decide +kernel
theorem dX4_readP_51 : decode cX4_readP 51 = .ok (.iadd, 1) := by decide +kernel
theorem dX4_readP_52 : decode cX4_readP 52 = .ok (.putfield 27, 3) := by decide +kernel
theorem dX4_readP_55 : decode cX4_readP 55 = .ok (.aload_n 0, 1) := by decide +kernel
theorem dX4_readP_56 : decode cX4_readP 56 = .ok (.iload_n 1, 1) := by decide +kernel
theorem dX4_readP_57 : decode cX4_readP 57 = .ok (.invokevirtual 80, 3) := by decide +kernel
theorem dX4_readP_60 : decode cX4_readP 60 = .ok (.aload_n 0, 1) := by decide +kernel
theorem dX4_readP_61 : decode cX4_readP 61 = .ok (.iload_n 3, 1) := by decide +kernel
theorem dX4_readP_62 : decode cX4_readP 62 = .ok (.invokevirtual 68, 3) := by decide +kernel
theorem dX4_readP_65 : decode cX4_readP 65 = .ok (.iinc 2 1, 3) := by decide +kernel
theorem dX4_readP_68 : decode cX4_readP 68 = .ok (.goto (-61), 3) := by decide +kernel
theorem dX4_readP_71 : decode cX4_readP 71 = .ok (.return_, 1) := by decide +kernel
theorem dX4_readQ_0 : decode cX4_readQ 0 = .ok (.aload_n 0, 1) := by decide +kernel
theorem dX4_readQ_1 : decode cX4_readQ 1 = .ok (.invokevirtual 56, 3) := by decide +kernel
theorem dX4_readQ_4 : decode cX4_readQ 4 = .ok (.istore_n 2, 1) := by decide +kernel
theorem dX4_readQ_5 : decode cX4_readQ 5 = .ok (.aload_n 0, 1) := by decide +kernel
theorem dX4_readQ_6 : decode cX4_readQ 6 = .ok (.getfield 31, 3) := by decide +kernel
theorem dX4_readQ_9 : decode cX4_readQ 9 = .ok (.ifCond .ne 4, 3) := by decide +kernel
theorem dX4_readQ_12 : decode cX4_readQ 12 = .ok (.return_, 1) := by decide +kernel
theorem dX4_readQ_13 : decode cX4_readQ 13 = .ok (.iload_n 2, 1) := by decide +kernel
theorem dX4_readQ_14 : decode cX4_readQ 14 = .ok (.invokestatic 83, 3) := by decide +kernel
theorem dX4_readQ_17 : decode cX4_readQ 17 = .ok (.ifCond .eq 10, 3) := by decide +kernel
theorem dX4_readQ_20 : decode cX4_readQ 20 = .ok (.aload_n 0, 1) := by decide +kernel
theorem dX4_readQ_21 : decode cX4_readQ 21 = .ok (.invokevirtual 86, 3) := by decide +kernel
theorem dX4_readQ_24 : decode cX4_readQ 24 = .ok (.goto 154, 3) := by decide +kernel
theorem dX4_readQ_27 : decode cX4_readQ 27 = .ok (.aload_n 0, 1) := by decide +kernel
theorem dX4_readQ_28 : decode cX4_readQ 28 = .ok (.getfield 23, 3) := by decide +kernel
theorem dX4_readQ_31 : decode cX4_readQ 31 = .ok (.ifnull 47, 3) := by decide +kernel
theorem dX4_readQ_34 : decode cX4_readQ 34 = .ok (.aload_n 0, 1) := by decide +kernel
theorem dX4_readQ_35 : decode cX4_readQ 35 = .ok (.getfield 23, 3) := by decide +kernel
theorem dX4_readQ_38 : decode cX4_readQ 38 = .ok (.iload_n 2, 1) := by decide +kernel
theorem dX4_readQ_39 : decode cX4_readQ 39 = .ok (.invokevirtual 89, 3) := by decide +kernel
theorem dX4_readQ_42 : decode cX4_readQ 42 = .ok (.ifCond .lt 36, 3) := by decide +kernel
theorem dX4_readQ_45 : decode cX4_readQ 45 = .ok (.aload_n 0, 1) := by decide +kernel
theorem dX4_readQ_46 : decode cX4_readQ 46 = .ok (.dup, 1) := by decide +kernel
theorem dX4_readQ_47 : decode cX4_readQ 47 = .ok (.getfield 27, 3) := by decide +kernel
theorem dX4_readQ_50 : decode cX4_readQ 50 = .ok (.iconst 1, 1) := by decide +kernel
theorem dX4_readQ_51 : decode cX4_readQ 51 = .ok (.iadd, 1) := by decide +kernel
theorem dX4_readQ_52 : decode cX4_readQ 52 = .ok (.putfield 27, 3) := by decide +kernel
theorem dX4_readQ_55 : decode cX4_readQ 55 = .ok (.aload_n 0, 1) := by decide +kernel
theorem dX4_readQ_56 : decode cX4_readQ 56 = .ok (.getfield 14, 3) := by decide +kernel
theorem dX4_readQ_59 : decode cX4_readQ 59 = .ok (.sipush 10000, 3) := by decide +kernel
theorem dX4_readQ_62 : decode cX4_readQ 62 = .ok (.aload_n 0, 1) := by decide +kernel
theorem dX4_readQ_63 : decode cX4_readQ 63 = .ok (.getfield 23, 3) := by decide +kernel
theorem dX4_readQ_66 : decode cX4_readQ 66 = .ok (.iload_n 2, 1) := by decide +kernel
theorem dX4_readQ_67 : decode cX4_readQ 67 = .ok (.invokevirtual 89, 3) := by decide +kernel
theorem dX4_readQ_70 : decode cX4_readQ 70 = .ok (.iadd, 1) := by decide +kernel
theorem dX4_readQ_71 : decode cX4_readQ 71 = .ok (.invokevirtual 59, 3) := by decide +kernel
theorem dX4_readQ_74 : decode cX4_readQ 74 = .ok (.pop, 1) := by decide +kernel
theorem dX4_readQ_75 : decode cX4_readQ 75 = .ok (.goto 103, 3) := by decide +kernel
theorem dX4_readQ_78 : decode cX4_readQ 78 = .ok (.iload_n 2, 1) := by decide +kernel
theorem dX4_readQ_79 : decode cX4_readQ 79 = .ok (.bipush 33, 2) := by decide +kernel
theorem dX4_readQ_81 : decode cX4_readQ 81 = .ok (.if_icmp .ne 34, 3) := by decide +kernel
theorem dX4_readQ_84 : decode cX4_readQ 84 = .ok (.iload_n 1, 1) := by decide +kernel
theorem dX4_readQ_85 : decode cX4_readQ 85 = .ok (.iconst 5, 1) := by decide +kernel
theorem dX4_readQ_86 : decode cX4_readQ 86 = .ok (.if_icmp .ge 29, 3) := by decide +kernel
theorem dX4_readQ_89 : decode cX4_readQ 89 = .ok (.aload_n 0, 1) := by decide +kernel
theorem dX4_readQ_90 : decode cX4_readQ 90 = .ok (.dup, 1) := by decide +kernel
theorem dX4_readQ_91 : decode cX4_readQ 91 = .ok (.getfield 27, 3) := by decide +kernel
theorem dX4_readQ_94 : decode cX4_readQ 94 = .ok (.iconst 1, 1) := by decide +kernel
theorem dX4_readQ_95 : decode cX4_readQ 95 = .ok (.iadd, 1) := by decide +kernel
theorem dX4_readQ_96 : decode cX4_readQ 96 = .ok (.putfield 27, 3) := by decide +kernel
theorem dX4_readQ_99 : decode cX4_readQ 99 = .ok (.aload_n 0, 1) := by decide +kernel
theorem dX4_readQ_100 : decode cX4_readQ 100 = .ok (.iload_n 1, 1) := by decide +kernel
theorem dX4_readQ_101 : decode cX4_readQ 101 = .ok (.iconst 1, 1) := by decide +kernel
theorem dX4_readQ_102 : decode cX4_readQ 102 = .ok (.iadd, 1) := by decide +kernel
theorem dX4_readQ_103 : decode cX4_readQ 103 = .ok (.invokevirtual 80, 3) := by decide +kernel
theorem dX4_readQ_106 : decode cX4_readQ 106 = .ok (.aload_n 0, 1) := by decide +kernel
theorem dX4_readQ_107 : decode cX4_readQ 107 = .ok (.bipush 33, 2) := by decide +kernel
theorem dX4_readQ_109 : decode cX4_readQ 109 = .ok (.invokevirtual 68, 3) := by decide +kernel
theorem dX4_readQ_112 : decode cX4_readQ 112 = .ok (.goto 66, 3) := by decide +kernel
theorem dX4_readQ_115 : decode cX4_readQ 115 = .ok (.iload_n 2, 1) := by decide +kernel
theorem dX4_readQ_116 : decode cX4_readQ 116 = .ok (.bipush 40, 2) := by decide +kernel
theorem dX4_readQ_118 : decode cX4_readQ 118 = .ok (.if_icmp .ne 55, 3) := by decide +kernel
theorem dX4_readQ_121 : decode cX4_readQ 121 = .ok (.iload_n 1, 1) := by decide +kernel
theorem dX4_readQ_122 : decode cX4_readQ 122 = .ok (.iconst 5, 1) := by decide +kernel
theorem dX4_readQ_123 : decode cX4_readQ 123 = .ok (.if_icmp .ge 50, 3) := by decide +kernel
theorem dX4_readQ_126 : decode cX4_readQ 126 = .ok (.aload_n 0, 1) := by decide +kernel
theorem dX4_readQ_127 : decode cX4_readQ 127 = .ok (.dup, 1) := by decide +kernel
theorem dX4_readQ_128 : decode cX4_readQ 128 = .ok (.getfield 27, 3) := by decide +kernel
theorem dX4_readQ_131 : decode cX4_readQ 131 = .ok (.iconst 1, 1) := by decide +kernel
theorem dX4_readQ_132 : decode cX4_readQ 132 = .ok (.iadd, 1) := by decide +kernel
theorem dX4_readQ_133 : decode cX4_readQ 133 = .ok (.putfield 27, 3) := by decide +kernel
theorem dX4_readQ_136 : decode cX4_readQ 136 = .ok (.aload_n 0, 1) := by decide +kernel
theorem dX4_readQ_137 : decode cX4_readQ 137 = .ok (.iload_n 1, 1) := by decide +kernel
theorem dX4_readQ_138 : decode cX4_readQ 138 = .ok (.iconst 1, 1) := by decide +kernel
theorem dX4_readQ_139 : decode cX4_readQ 139 = .ok (.iadd, 1) := by decide +kernel
theorem dX4_readQ_140 : decode cX4_readQ 140 = .ok (.invokevirtual 38, 3) := by decide +kernel
theorem dX4_readQ_143 : decode cX4_readQ 143 = .ok (.aload_n 0, 1) := by decide +kernel
theorem dX4_readQ_144 : decode cX4_readQ 144 = .ok (.bipush 41, 2) := by decide +kernel
theorem dX4_readQ_146 : decode cX4_readQ 146 = .ok (.invokevirtual 65, 3) := by decide +kernel
theorem dX4_readQ_149 : decode cX4_readQ 149 = .ok (.ifCond .eq 16, 3) := by decide +kernel
theorem dX4_readQ_152 : decode cX4_readQ 152 = .ok (.aload_n 0, 1) := by decide +kernel
theorem dX4_readQ_153 : decode cX4_readQ 153 = .ok (.dup, 1) := by decide +kernel
theorem dX4_readQ_154 : decode cX4_readQ 154 = .ok (.getfield 27, 3) := by decide +kernel
theorem dX4_readQ_157 : decode cX4_readQ 157 = .ok (.iconst 1, 1) := by decide +kernel
theorem dX4_readQ_158 : decode cX4_readQ 158 = .ok (.iadd, 1) := by decide +kernel
theorem dX4_readQ_159 : decode cX4_readQ 159 = .ok (.putfield 27, 3) := by decide +kernel
theorem dX4_readQ_162 : decode cX4_readQ 162 = .ok (.goto 16, 3) := by decide +kernel
theorem dX4_readQ_165 : decode cX4_readQ 165 = .ok (.aload_n 0, 1) := by decide +kernel
theorem dX4_readQ_166 : decode cX4_readQ 166 = .ok (.iconst 0, 1) := by decide +kernel
theorem dX4_readQ_167 : decode cX4_readQ 167 = .ok (.putfield 31, 3) := by decide +kernel
theorem dX4_readQ_170 : decode cX4_readQ 170 = .ok (.goto 8, 3) := by decide +kernel
theorem dX4_readQ_173 : decode cX4_readQ 173 = .ok (.aload_n 0, 1) := by decide +kernel
theorem dX4_readQ_174 : decode cX4_readQ 174 = .ok (.iconst 0, 1) := by decide +kernel
theorem dX4_readQ_175 : decode cX4_readQ 175 = .ok (.putfield 31, 3) := by decide +kernel
theorem dX4_readQ_178 : decode cX4_readQ 178 = .ok (.return_, 1) := by decide +kernel
theorem dX4_readNumber_0 : decode cX4_readNumber 0 = .ok (.iconst 0, 1) := by decide +kernel
theorem dX4_readNumber_1 : decode cX4_readNumber 1 = .ok (.istore_n 1, 1) := by decide +kernel
theorem dX4_readNumber_2 : decode cX4_readNumber 2 = .ok (.iconst 0, 1) := by decide +kernel
theorem dX4_readNumber_3 : decode cX4_readNumber 3 = .ok (.istore_n 2, 1) := by decide +kernel
theorem dX4_readNumber_4 : decode cX4_readNumber 4 = .ok (.iload_n 2, 1) := by decide +kernel
theorem dX4_readNumber_5 : decode cX4_readNumber 5 = .ok (.iconst 4, 1) := by decide +kernel
theorem dX4_readNumber_6 : decode cX4_readNumber 6 = .ok (.if_icmp .ge 42, 3) := by decide +kernel
theorem dX4_readNumber_9 : decode cX4_readNumber 9 = .ok (.aload_n 0, 1) := by decide +kernel
theorem dX4_readNumber_10 : decode cX4_readNumber 10 = .ok (.invokevirtual 56, 3) := by decide +kernel
theorem dX4_readNumber_13 : decode cX4_readNumber 13 = .ok (.invokestatic 83, 3) := by decide +kernel
theorem dX4_readNumber_16 : decode cX4_readNumber 16 = .ok (.ifCond .eq 32, 3) := by decide +kernel
theorem dX4_readNumber_19 : decode cX4_readNumber 19 = .ok (.iload_n 1, 1) := by decide +kernel
theorem dX4_readNumber_20 : decode cX4_readNumber 20 = .ok (.bipush 10, 2) := by decide +kernel
theorem dX4_readNumber_22 : decode cX4_readNumber 22 = .ok (.imul, 1) := by decide +kernel
theorem dX4_readNumber_23 : decode cX4_readNumber 23 = .ok (.aload_n 0, 1) := by decide +kernel
theorem dX4_readNumber_24 : decode cX4_readNumber 24 = .ok (.invokevirtual 56, 3) := by decide +kernel
theorem dX4_readNumber_27 : decode cX4_readNumber 27 = .ok (.iadd, 1) := by decide +kernel
theorem dX4_readNumber_28 : decode cX4_readNumber 28 = .ok (.bipush 48, 2) := by decide +kernel
theorem dX4_readNumber_30 : decode cX4_readNumber 30 = .ok (.isub, 1) := by decide +kernel
theorem dX4_readNumber_31 : decode cX4_readNumber 31 = .ok (.istore_n 1, 1) := by decide +kernel
theorem dX4_readNumber_32 : decode cX4_readNumber 32 = .ok (.aload_n 0, 1) := by decide +kernel
theorem dX4_readNumber_33 : decode cX4_readNumber 33 = .ok (.dup, 1) := by decide +kernel
theorem dX4_readNumber_34 : decode cX4_readNumber 34 = .ok (.getfield 27, 3) := by decide +kernel
theorem dX4_readNumber_37 : decode cX4_readNumber 37 = .ok (.iconst 1, 1) := by decide +kernel
theorem dX4_readNumber_38 : decode cX4_readNumber 38 = .ok (.iadd, 1) := by decide +kernel
theorem dX4_readNumber_39 : decode cX4_readNumber 39 = .ok (.putfield 27, 3) := by decide +kernel
theorem dX4_readNumber_42 : decode cX4_readNumber 42 = .ok (.iinc 2 1, 3) := by decide +kernel
theorem dX4_readNumber_45 : decode cX4_readNumber 45 = .ok (.goto (-41), 3) := by decide +kernel
theorem dX4_readNumber_48 : decode cX4_readNumber 48 = .ok (.aload_n 0, 1) := by decide +kernel
theorem dX4_readNumber_49 : decode cX4_readNumber 49 = .ok (.getfield 14, 3) := by decide +kernel
theorem dX4_readNumber_52 : decode cX4_readNumber 52 = .ok (.iload_n 1, 1) := by decide +kernel
theorem dX4_readNumber_53 : decode cX4_readNumber 53 = .ok (.invokevirtual 59, 3) := by decide +kernel
theorem dX4_readNumber_56 : decode cX4_readNumber 56 = .ok (.pop, 1) := by decide +kernel
theorem dX4_readNumber_57 : decode cX4_readNumber 57 = .ok (.return_, 1) := by decide +kernel
theorem dX4_isDigit_0 : decode cX4_isDigit 0 = .ok (.iload_n 0, 1) := by decide +kernel
theorem dX4_isDigit_1 : decode cX4_isDigit 1 = .ok (.bipush 48, 2) := by decide +kernel
theorem dX4_isDigit_3 : decode cX4_isDigit 3 = .ok (.if_icmp .lt 13, 3) := by decide +kernel
theorem dX4_isDigit_6 : decode cX4_isDigit 6 = .ok (.iload_n 0, 1) := by decide +kernel
theorem dX4_isDigit_7 : decode cX4_isDigit 7 = .ok (.bipush 57, 2) := by decide +kernel
theorem dX4_isDigit_9 : decode cX4_isDigit 9 = .ok (.if_icmp .gt 7, 3) := by decide +kernel
theorem dX4_isDigit_12 : decode cX4_isDigit 12 = .ok (.iconst 1, 1) := by decide +kernel
theorem dX4_isDigit_13 : decode cX4_isDigit 13 = .ok (.goto 4, 3) := by decide +kernel
theorem dX4_isDigit_16 : decode cX4_isDigit 16 = .ok (.iconst 0, 1) := by decide +kernel
theorem dX4_isDigit_17 : decode cX4_isDigit 17 = .ok (.ireturn, 1) := by decide +kernel
theorem dX10_init_0 : decode cX10_init 0 = .ok (.aload_n 0, 1) := by decide +kernel
theorem dX10_init_1 : decode cX10_init 1 = .ok (.invokespecial 1, 3) := by decide +kernel
theorem dX10_init_4 : decode cX10_init 4 = .ok (.aload_n 0, 1) := by decide +kernel
theorem dX10_init_5 : decode cX10_init 5 = .ok (.new 7, 3) := by decide +kernel
theorem dX10_init_8 : decode cX10_init 8 = .ok (.dup, 1) := by decide +kernel
theorem dX10_init_9 : decode cX10_init 9 = .ok (.bipush 40, 2) := by decide +kernel
theorem dX10_init_11 : decode cX10_init 11 = .ok (.invokespecial 11, 3) := by decide +kernel
theorem dX10_init_14 : decode cX10_init 14 = .ok (.putfield 14, 3) := by decide +kernel
theorem dX10_init_17 : decode cX10_init 17 = .ok (.aload_n 0, 1) := by decide +kernel
theorem dX10_init_18 : decode cX10_init 18 = .ok (.iconst 0, 1) := by decide +kernel
theorem dX10_init_19 : decode cX10_init 19 = .ok (.putfield 18, 3) := by decide +kernel
theorem dX10_init_22 : decode cX10_init 22 = .ok (.aload_n 0, 1) := by decide +kernel
theorem dX10_init_23 : decode cX10_init 23 = .ok (.iconst 0, 1) := by decide +kernel
theorem dX10_init_24 : decode cX10_init 24 = .ok (.putfield 22, 3) := by decide +kernel
theorem dX10_init_27 : decode cX10_init 27 = .ok (.aload_n 0, 1) := by decide +kernel
theorem dX10_init_28 : decode cX10_init 28 = .ok (.iconst 0, 1) := by decide +kernel
theorem dX10_init_29 : decode cX10_init 29 = .ok (.putfield 25, 3) := by decide +kernel
theorem dX10_init_32 : decode cX10_init 32 = .ok (.return_, 1) := by decide +kernel
theorem dX10_heard_0 : decode cX10_heard 0 = .ok (.aload_n 0, 1) := by decide +kernel
theorem dX10_heard_1 : decode cX10_heard 1 = .ok (.getfield 14, 3) := by decide +kernel
theorem dX10_heard_4 : decode cX10_heard 4 = .ok (.areturn, 1) := by decide +kernel
theorem dX10_speak_0 : decode cX10_speak 0 = .ok (.aload_n 0, 1) := by decide +kernel
theorem dX10_speak_1 : decode cX10_speak 1 = .ok (.getfield 14, 3) := by decide +kernel
theorem dX10_speak_4 : decode cX10_speak 4 = .ok (.invokevirtual 28, 3) := by decide +kernel
theorem dX10_speak_7 : decode cX10_speak 7 = .ok (.aload_n 0, 1) := by decide +kernel
theorem dX10_speak_8 : decode cX10_speak 8 = .ok (.iload_n 2, 1) := by decide +kernel
theorem dX10_speak_9 : decode cX10_speak 9 = .ok (.putfield 18, 3) := by decide +kernel
theorem dX10_speak_12 : decode cX10_speak 12 = .ok (.aload_n 0, 1) := by decide +kernel
theorem dX10_speak_13 : decode cX10_speak 13 = .ok (.aload_n 1, 1) := by decide +kernel
theorem dX10_speak_14 : decode cX10_speak 14 = .ok (.iload_n 2, 1) := by decide +kernel
theorem dX10_speak_15 : decode cX10_speak 15 = .ok (.invokevirtual 31, 3) := by decide +kernel
theorem dX10_speak_18 : decode cX10_speak 18 = .ok (.putfield 22, 3) := by decide +kernel
theorem dX10_speak_21 : decode cX10_speak 21 = .ok (.aload_n 0, 1) := by decide +kernel
theorem dX10_speak_22 : decode cX10_speak 22 = .ok (.aload_n 1, 1) := by decide +kernel
theorem dX10_speak_23 : decode cX10_speak 23 = .ok (.iload_n 2, 1) := by decide +kernel
theorem dX10_speak_24 : decode cX10_speak 24 = .ok (.invokevirtual 37, 3) := by decide +kernel
theorem dX10_speak_27 : decode cX10_speak 27 = .ok (.putfield 25, 3) := by decide +kernel
theorem dX10_speak_30 : decode cX10_speak 30 = .ok (.aload_n 0, 1) := by decide +kernel
theorem dX10_speak_31 : decode cX10_speak 31 = .ok (.iload_n 3, 1) := by decide +kernel
theorem dX10_speak_32 : decode cX10_speak 32 = .ok (.iload 4, 2) := by decide +kernel
theorem dX10_speak_34 : decode cX10_speak 34 = .ok (.iconst 0, 1) := by decide +kernel
theorem dX10_speak_35 : decode cX10_speak 35 = .ok (.invokevirtual 40, 3) := by decide +kernel
theorem dX10_speak_38 : decode cX10_speak 38 = .ok (.ireturn, 1) := by decide +kernel
theorem dX10_own_0 : decode cX10_own 0 = .ok (.aload_n 0, 1) := by decide +kernel
theorem dX10_own_1 : decode cX10_own 1 = .ok (.aload_n 0, 1) := by decide +kernel
theorem dX10_own_2 : decode cX10_own 2 = .ok (.getfield 22, 3) := by decide +kernel
theorem dX10_own_5 : decode cX10_own 5 = .ok (.iload_n 1, 1) := by decide +kernel
theorem dX10_own_6 : decode cX10_own 6 = .ok (.iload_n 2, 1) := by decide +kernel
theorem dX10_own_7 : decode cX10_own 7 = .ok (.iload_n 3, 1) := by decide +kernel
theorem dX10_own_8 : decode cX10_own 8 = .ok (.invokevirtual 44, 3) := by decide +kernel
theorem dX10_own_11 : decode cX10_own 11 = .ok (.ireturn, 1) := by decide +kernel
theorem dX10_from_0 : decode cX10_from 0 = .ok (.iload 4, 2) := by decide +kernel
theorem dX10_from_2 : decode cX10_from 2 = .ok (.bipush 40, 2) := by decide +kernel
theorem dX10_from_4 : decode cX10_from 4 = .ok (.if_icmp .le 5, 3) := by decide +kernel
theorem dX10_from_7 : decode cX10_from 7 = .ok (.iconst 0, 1) := by decide +kernel
theorem dX10_from_8 : decode cX10_from 8 = .ok (.ireturn, 1) := by decide +kernel
theorem dX10_from_9 : decode cX10_from 9 = .ok (.iload_n 1, 1) := by decide +kernel
theorem dX10_from_10 : decode cX10_from 10 = .ok (.istore 5, 2) := by decide +kernel
theorem dX10_from_12 : decode cX10_from 12 = .ok (.iconst 0, 1) := by decide +kernel
theorem dX10_from_13 : decode cX10_from 13 = .ok (.istore 6, 2) := by decide +kernel
theorem dX10_from_15 : decode cX10_from 15 = .ok (.iload 6, 2) := by decide +kernel
theorem dX10_from_17 : decode cX10_from 17 = .ok (.bipush 7, 2) := by decide +kernel
theorem dX10_from_19 : decode cX10_from 19 = .ok (.if_icmp .ge 25, 3) := by decide +kernel
theorem dX10_from_22 : decode cX10_from 22 = .ok (.iload 5, 2) := by decide +kernel
theorem dX10_from_24 : decode cX10_from 24 = .ok (.iload_n 2, 1) := by decide +kernel
theorem dX10_from_25 : decode cX10_from 25 = .ok (.invokestatic 50, 3) := by decide +kernel
theorem dX10_from_28 : decode cX10_from 28 = .ok (.ifCond .ne 16, 3) := by decide +kernel
theorem dX10_from_31 : decode cX10_from 31 = .ok (.iload 5, 2) := by decide +kernel
theorem dX10_from_33 : decode cX10_from 33 = .ok (.invokestatic 54, 3) := by decide +kernel
theorem dX10_from_36 : decode cX10_from 36 = .ok (.istore 5, 2) := by decide +kernel
theorem dX10_from_38 : decode cX10_from 38 = .ok (.iinc 6 1, 3) := by decide +kernel
theorem dX10_from_41 : decode cX10_from 41 = .ok (.goto (-26), 3) := by decide +kernel
theorem dX10_from_44 : decode cX10_from 44 = .ok (.iload 5, 2) := by decide +kernel
theorem dX10_from_46 : decode cX10_from 46 = .ok (.iload_n 2, 1) := by decide +kernel
theorem dX10_from_47 : decode cX10_from 47 = .ok (.invokestatic 50, 3) := by decide +kernel
theorem dX10_from_50 : decode cX10_from 50 = .ok (.istore 6, 2) := by decide +kernel
theorem dX10_from_52 : decode cX10_from 52 = .ok (.aload_n 0, 1) := by decide +kernel
theorem dX10_from_53 : decode cX10_from 53 = .ok (.getfield 14, 3) := by decide +kernel
theorem dX10_from_56 : decode cX10_from 56 = .ok (.iload 6, 2) := by decide +kernel
theorem dX10_from_58 : decode cX10_from 58 = .ok (.invokevirtual 57, 3) := by decide +kernel
theorem dX10_from_61 : decode cX10_from 61 = .ok (.pop, 1) := by decide +kernel
theorem dX10_from_62 : decode cX10_from 62 = .ok (.aload_n 0, 1) := by decide +kernel
theorem dX10_from_63 : decode cX10_from 63 = .ok (.iload 6, 2) := by decide +kernel
theorem dX10_from_65 : decode cX10_from 65 = .ok (.iload 5, 2) := by decide +kernel
theorem dX10_from_67 : decode cX10_from 67 = .ok (.invokestatic 54, 3) := by decide +kernel
theorem dX10_from_70 : decode cX10_from 70 = .ok (.iload_n 3, 1) := by decide +kernel
theorem dX10_from_71 : decode cX10_from 71 = .ok (.iload 4, 2) := by decide +kernel
theorem dX10_from_73 : decode cX10_from 73 = .ok (.iconst 1, 1) := by decide +kernel
theorem dX10_from_74 : decode cX10_from 74 = .ok (.iadd, 1) := by decide +kernel
theorem dX10_from_75 : decode cX10_from 75 = .ok (.invokevirtual 61, 3) := by decide +kernel
theorem dX10_from_78 : decode cX10_from 78 = .ok (.ireturn, 1) := by decide +kernel
theorem dX10_bodyOf_0 : decode cX10_bodyOf 0 = .ok (.iload_n 0, 1) := by decide +kernel
theorem dX10_bodyOf_1 : decode cX10_bodyOf 1 = .ok (.iconst 4, 1) := by decide +kernel
theorem dX10_bodyOf_2 : decode cX10_bodyOf 2 = .ok (.imul, 1) := by decide +kernel
theorem dX10_bodyOf_3 : decode cX10_bodyOf 3 = .ok (.iload_n 1, 1) := by decide +kernel
theorem dX10_bodyOf_4 : decode cX10_bodyOf 4 = .ok (.iadd, 1) := by decide +kernel
theorem dX10_bodyOf_5 : decode cX10_bodyOf 5 = .ok (.istore_n 2, 1) := by decide +kernel
theorem dX10_bodyOf_6 : decode cX10_bodyOf 6 = .ok (.iload_n 2, 1) := by decide +kernel
theorem dX10_bodyOf_7 : decode cX10_bodyOf 7 = .ok (.ifCond .lt 19, 3) := by decide +kernel
theorem dX10_bodyOf_10 : decode cX10_bodyOf 10 = .ok (.iload_n 2, 1) := by decide +kernel
theorem dX10_bodyOf_11 : decode cX10_bodyOf 11 = .ok (.getstatic 64, 3) := by decide +kernel
theorem dX10_bodyOf_14 : decode cX10_bodyOf 14 = .ok (.arraylength, 1) := by decide +kernel
theorem dX10_bodyOf_15 : decode cX10_bodyOf 15 = .ok (.if_icmp .ge 11, 3) := by decide +kernel
theorem dX10_bodyOf_18 : decode cX10_bodyOf 18 = .ok (.getstatic 64, 3) := by decide +kernel
theorem dX10_bodyOf_21 : decode cX10_bodyOf 21 = .ok (.iload_n 2, 1) := by decide +kernel
theorem dX10_bodyOf_22 : decode cX10_bodyOf 22 = .ok (.iaload, 1) := by decide +kernel
theorem dX10_bodyOf_23 : decode cX10_bodyOf 23 = .ok (.goto 4, 3) := by decide +kernel
theorem dX10_bodyOf_26 : decode cX10_bodyOf 26 = .ok (.iconst 0, 1) := by decide +kernel
theorem dX10_bodyOf_27 : decode cX10_bodyOf 27 = .ok (.ireturn, 1) := by decide +kernel
theorem dX10_say_0 : decode cX10_say 0 = .ok (.iload_n 1, 1) := by decide +kernel
theorem dX10_say_1 : decode cX10_say 1 = .ok (.lookupswitch 249 #[(10, 99), (11, 106), (12, 117), (13, 124), (20, 142), (30, 153), (40, 172), (50, 184), (51, 199), (60, 218), (70, 230)], 99) := by decide +kernel
theorem dX10_say_100 : decode cX10_say 100 = .ok (.iload_n 3, 1) := by decide +kernel
theorem dX10_say_101 : decode cX10_say 101 = .ok (.aload_n 0, 1) := by decide +kernel
theorem dX10_say_102 : decode cX10_say 102 = .ok (.getfield 18, 3) := by decide +kernel
theorem dX10_say_105 : decode cX10_say 105 = .ok (.iadd, 1) := by decide +kernel
theorem dX10_say_106 : decode cX10_say 106 = .ok (.ireturn, 1) := by decide +kernel
theorem dX10_say_107 : decode cX10_say 107 = .ok (.aload_n 0, 1) := by decide +kernel
theorem dX10_say_108 : decode cX10_say 108 = .ok (.iconst 0, 1) := by decide +kernel
theorem dX10_say_109 : decode cX10_say 109 = .ok (.iload_n 3, 1) := by decide +kernel
theorem dX10_say_110 : decode cX10_say 110 = .ok (.iload 4, 2) := by decide +kernel
theorem dX10_say_112 : decode cX10_say 112 = .ok (.invokevirtual 40, 3) := by decide +kernel
theorem dX10_say_115 : decode cX10_say 115 = .ok (.iconst 2, 1) := by decide +kernel
theorem dX10_say_116 : decode cX10_say 116 = .ok (.imul, 1) := by decide +kernel
theorem dX10_say_117 : decode cX10_say 117 = .ok (.ireturn, 1) := by decide +kernel
theorem dX10_say_118 : decode cX10_say 118 = .ok (.iload_n 3, 1) := by decide +kernel
theorem dX10_say_119 : decode cX10_say 119 = .ok (.aload_n 0, 1) := by decide +kernel
theorem dX10_say_120 : decode cX10_say 120 = .ok (.getfield 25, 3) := by decide +kernel
theorem dX10_say_123 : decode cX10_say 123 = .ok (.isub, 1) := by decide +kernel
theorem dX10_say_124 : decode cX10_say 124 = .ok (.ireturn, 1) := by decide +kernel
theorem dX10_say_125 : decode cX10_say 125 = .ok (.aload_n 0, 1) := by decide +kernel
theorem dX10_say_126 : decode cX10_say 126 = .ok (.iconst 1, 1) := by decide +kernel
theorem dX10_say_127 : decode cX10_say 127 = .ok (.iload_n 3, 1) := by decide +kernel
theorem dX10_say_128 : decode cX10_say 128 = .ok (.iload 4, 2) := by decide +kernel
theorem dX10_say_130 : decode cX10_say 130 = .ok (.invokevirtual 40, 3) := by decide +kernel
theorem dX10_say_133 : decode cX10_say 133 = .ok (.aload_n 0, 1) := by decide +kernel
theorem dX10_say_134 : decode cX10_say 134 = .ok (.iconst 2, 1) := by decide +kernel
theorem dX10_say_135 : decode cX10_say 135 = .ok (.iload_n 3, 1) := by decide +kernel
theorem dX10_say_136 : decode cX10_say 136 = .ok (.iload 4, 2) := by decide +kernel
theorem dX10_say_138 : decode cX10_say 138 = .ok (.invokevirtual 40, 3) := by decide +kernel
theorem dX10_say_141 : decode cX10_say 141 = .ok (.ixor, 1) := by decide +kernel
theorem dX10_say_142 : decode cX10_say 142 = .ok (.ireturn, 1) := by decide +kernel
theorem dX10_say_143 : decode cX10_say 143 = .ok (.aload_n 0, 1) := by decide +kernel
theorem dX10_say_144 : decode cX10_say 144 = .ok (.iload_n 2, 1) := by decide +kernel
theorem dX10_say_145 : decode cX10_say 145 = .ok (.iconst 2, 1) := by decide +kernel
theorem dX10_say_146 : decode cX10_say 146 = .ok (.iload_n 3, 1) := by decide +kernel
theorem dX10_say_147 : decode cX10_say 147 = .ok (.iload 4, 2) := by decide +kernel
theorem dX10_say_149 : decode cX10_say 149 = .ok (.invokevirtual 44, 3) := by decide +kernel
theorem dX10_say_152 : decode cX10_say 152 = .ok (.ineg, 1) := by decide +kernel
theorem dX10_say_153 : decode cX10_say 153 = .ok (.ireturn, 1) := by decide +kernel
theorem dX10_say_154 : decode cX10_say 154 = .ok (.aload_n 0, 1) := by decide +kernel
theorem dX10_say_155 : decode cX10_say 155 = .ok (.iload_n 2, 1) := by decide +kernel
theorem dX10_say_156 : decode cX10_say 156 = .ok (.iconst 1, 1) := by decide +kernel
theorem dX10_say_157 : decode cX10_say 157 = .ok (.iload_n 3, 1) := by decide +kernel
theorem dX10_say_158 : decode cX10_say 158 = .ok (.iload 4, 2) := by decide +kernel
theorem dX10_say_160 : decode cX10_say 160 = .ok (.invokevirtual 44, 3) := by decide +kernel
theorem dX10_say_163 : decode cX10_say 163 = .ok (.aload_n 0, 1) := by decide +kernel
theorem dX10_say_164 : decode cX10_say 164 = .ok (.iconst 2, 1) := by decide +kernel
theorem dX10_say_165 : decode cX10_say 165 = .ok (.iconst 1, 1) := by decide +kernel
theorem dX10_say_166 : decode cX10_say 166 = .ok (.iload 4, 2) := by decide +kernel
theorem dX10_say_168 : decode cX10_say 168 = .ok (.invokevirtual 40, 3) := by decide +kernel
theorem dX10_say_171 : decode cX10_say 171 = .ok (.isub, 1) := by decide +kernel
theorem dX10_say_172 : decode cX10_say 172 = .ok (.ireturn, 1) := by decide +kernel
theorem dX10_say_173 : decode cX10_say 173 = .ok (.aload_n 0, 1) := by decide +kernel
theorem dX10_say_174 : decode cX10_say 174 = .ok (.iload_n 2, 1) := by decide +kernel
theorem dX10_say_175 : decode cX10_say 175 = .ok (.iconst 0, 1) := by decide +kernel
theorem dX10_say_176 : decode cX10_say 176 = .ok (.iload_n 3, 1) := by decide +kernel
theorem dX10_say_177 : decode cX10_say 177 = .ok (.iload 4, 2) := by decide +kernel
theorem dX10_say_179 : decode cX10_say 179 = .ok (.invokevirtual 44, 3) := by decide +kernel
theorem dX10_say_182 : decode cX10_say 182 = .ok (.iconst 3, 1) := by decide +kernel
theorem dX10_say_183 : decode cX10_say 183 = .ok (.imul, 1) := by decide +kernel
theorem dX10_say_184 : decode cX10_say 184 = .ok (.ireturn, 1) := by decide +kernel
theorem dX10_say_185 : decode cX10_say 185 = .ok (.aload_n 0, 1) := by decide +kernel
theorem dX10_say_186 : decode cX10_say 186 = .ok (.iload_n 2, 1) := by decide +kernel
theorem dX10_say_187 : decode cX10_say 187 = .ok (.iconst 2, 1) := by decide +kernel
theorem dX10_say_188 : decode cX10_say 188 = .ok (.iload_n 3, 1) := by decide +kernel
theorem dX10_say_189 : decode cX10_say 189 = .ok (.iload 4, 2) := by decide +kernel
theorem dX10_say_191 : decode cX10_say 191 = .ok (.invokevirtual 44, 3) := by decide +kernel
theorem dX10_say_194 : decode cX10_say 194 = .ok (.aload_n 0, 1) := by decide +kernel
theorem dX10_say_195 : decode cX10_say 195 = .ok (.getfield 18, 3) := by decide +kernel
theorem dX10_say_198 : decode cX10_say 198 = .ok (.ixor, 1) := by decide +kernel
theorem dX10_say_199 : decode cX10_say 199 = .ok (.ireturn, 1) := by decide +kernel
theorem dX10_say_200 : decode cX10_say 200 = .ok (.aload_n 0, 1) := by decide +kernel
theorem dX10_say_201 : decode cX10_say 201 = .ok (.iconst 1, 1) := by decide +kernel
theorem dX10_say_202 : decode cX10_say 202 = .ok (.iload_n 3, 1) := by decide +kernel
theorem dX10_say_203 : decode cX10_say 203 = .ok (.iload 4, 2) := by decide +kernel
theorem dX10_say_205 : decode cX10_say 205 = .ok (.invokevirtual 40, 3) := by decide +kernel
theorem dX10_say_208 : decode cX10_say 208 = .ok (.aload_n 0, 1) := by decide +kernel
theorem dX10_say_209 : decode cX10_say 209 = .ok (.iload_n 2, 1) := by decide +kernel
theorem dX10_say_210 : decode cX10_say 210 = .ok (.iconst 3, 1) := by decide +kernel
theorem dX10_say_211 : decode cX10_say 211 = .ok (.iload_n 3, 1) := by decide +kernel
theorem dX10_say_212 : decode cX10_say 212 = .ok (.iload 4, 2) := by decide +kernel
theorem dX10_say_214 : decode cX10_say 214 = .ok (.invokevirtual 44, 3) := by decide +kernel
theorem dX10_say_217 : decode cX10_say 217 = .ok (.isub, 1) := by decide +kernel
theorem dX10_say_218 : decode cX10_say 218 = .ok (.ireturn, 1) := by decide +kernel
theorem dX10_say_219 : decode cX10_say 219 = .ok (.aload_n 0, 1) := by decide +kernel
theorem dX10_say_220 : decode cX10_say 220 = .ok (.iload_n 2, 1) := by decide +kernel
theorem dX10_say_221 : decode cX10_say 221 = .ok (.iconst 1, 1) := by decide +kernel
theorem dX10_say_222 : decode cX10_say 222 = .ok (.iload_n 3, 1) := by decide +kernel
theorem dX10_say_223 : decode cX10_say 223 = .ok (.iconst 1, 1) := by decide +kernel
theorem dX10_say_224 : decode cX10_say 224 = .ok (.iadd, 1) := by decide +kernel
theorem dX10_say_225 : decode cX10_say 225 = .ok (.iload 4, 2) := by decide +kernel
theorem dX10_say_227 : decode cX10_say 227 = .ok (.invokevirtual 44, 3) := by decide +kernel
theorem dX10_say_230 : decode cX10_say 230 = .ok (.ireturn, 1) := by decide +kernel
theorem dX10_say_231 : decode cX10_say 231 = .ok (.aload_n 0, 1) := by decide +kernel
theorem dX10_say_232 : decode cX10_say 232 = .ok (.iload_n 2, 1) := by decide +kernel
theorem dX10_say_233 : decode cX10_say 233 = .ok (.iconst 3, 1) := by decide +kernel
theorem dX10_say_234 : decode cX10_say 234 = .ok (.iload_n 3, 1) := by decide +kernel
theorem dX10_say_235 : decode cX10_say 235 = .ok (.iload 4, 2) := by decide +kernel
theorem dX10_say_237 : decode cX10_say 237 = .ok (.invokevirtual 44, 3) := by decide +kernel
theorem dX10_say_240 : decode cX10_say 240 = .ok (.aload_n 0, 1) := by decide +kernel
theorem dX10_say_241 : decode cX10_say 241 = .ok (.iconst 0, 1) := by decide +kernel
theorem dX10_say_242 : decode cX10_say 242 = .ok (.iconst 2, 1) := by decide +kernel
theorem dX10_say_243 : decode cX10_say 243 = .ok (.iload 4, 2) := by decide +kernel
theorem dX10_say_245 : decode cX10_say 245 = .ok (.invokevirtual 40, 3) := by decide +kernel
theorem dX10_say_248 : decode cX10_say 248 = .ok (.isub, 1) := by decide +kernel
theorem dX10_say_249 : decode cX10_say 249 = .ok (.ireturn, 1) := by decide +kernel
theorem dX10_say_250 : decode cX10_say 250 = .ok (.iconst 0, 1) := by decide +kernel
theorem dX10_say_251 : decode cX10_say 251 = .ok (.ireturn, 1) := by decide +kernel
end
section
/-! TEXTS ARE READ (OneGoCeiling$Reader): the place, whether a text goes on, the steps so far -/
abbrev RS : Type := Nat × Bool × List Int32
def nxB (bs : List Int32) (σ : RS) : Int32 := if σ.1 < bs.length then bs.getD σ.1 0 else -1
def adB (σ : RS) : RS := (σ.1 + 1, σ.2.1, σ.2.2)
def psB (x : Int32) (σ : RS) : RS := (σ.1, σ.2.1, addL 50 σ.2.2 x)
def emB (s : Int32) (σ : RS) : RS := (σ.1, σ.2.1, addL 50 σ.2.2 (20000 + s))
def flB (σ : RS) : RS := (σ.1, false, σ.2.2)
def isB (bs : List Int32) (s : Int32) (σ : RS) : Bool := σ.2.1 && decide (nxB bs σ = s)
def digB (c : Int32) : Bool := decide (48 ≤ c.toInt ∧ c.toInt ≤ 57)
def numB (bs : List Int32) : Nat → Int32 → RS → RS
  | 0, v, σ => psB v σ
  | n + 1, v, σ => if digB (nxB bs σ) = true then numB bs n (v * 10 + nxB bs σ - 48) (adB σ) else psB v σ
def chainB (bs : List Int32) (ops : List Int32) (el : RS → RS) : Nat → RS → RS
  | 0, σ => σ
  | n + 1, σ => if σ.2.1 = true ∧ nxB bs σ ∈ ops then chainB bs ops el n (emB (nxB bs σ) (el (adB σ))) else σ
def loopB (bs : List Int32) (ops : List Int32) (el : RS → RS) (σ : RS) : RS := chainB bs ops el 50 (el σ)
def cmpB (bs : List Int32) (el : RS → RS) (σ : RS) : RS := if (el σ).2.1 = true ∧ nxB bs (el σ) ∈ [60, 61, 62] then emB (nxB bs (el σ)) (el (adB (el σ))) else el σ
def allB (bs : List Int32) (q : RS → RS) : RS → RS := loopB bs [124] (loopB bs [38] (cmpB bs (loopB bs [43, 45] (loopB bs [42, 47, 37] q))))
/-- Q, with so many more of ! and ( that may be open -/
def facB (use : Int32) (bs : List Int32) : Nat → RS → RS
  | 0, σ => if σ.2.1 = false then σ else if digB (nxB bs σ) = true then numB bs 4 0 σ else if 0 ≤ nameI use (nxB bs σ) then psB (10000 + nameI use (nxB bs σ)) (adB σ) else flB σ
  | d + 1, σ => if σ.2.1 = false then σ else if digB (nxB bs σ) = true then numB bs 4 0 σ else if 0 ≤ nameI use (nxB bs σ) then psB (10000 + nameI use (nxB bs σ)) (adB σ)
    else if nxB bs σ = 33 then emB 33 (facB use bs d (adB σ)) else if nxB bs σ = 40 then (if isB bs 41 (allB bs (facB use bs d) (adB σ)) = true then adB (allB bs (facB use bs d) (adB σ)) else flB (allB bs (facB use bs d) (adB σ))) else flB σ
def RdAt (ρ tp tt : Nat) (use : Int32) (bs : List Int32) (σ : RS) (g : AH) : Prop :=
  ρ < g.1 ∧ g.2 ρ = .inr (.inr (3, [.ref (ρ + 1), .ref tp, .ref tt, .int (nI σ.1), .int (b2i σ.2.1)])) ∧ RowAt (ρ + 1) 50 σ.2.2 g ∧ RowAt tp 50 bs g ∧ (∃ l, TextAt tt use l g) ∧ σ.1 ≤ bs.length ∧ (tp + 2 ≤ ρ ∨ ρ + 3 ≤ tp) ∧ (tt + 5 ≤ ρ ∨ ρ + 3 ≤ tt)
section Rd
variable {ρ tp tt : Nat} {use : Int32} {bs : List Int32} {σ : RS} {g h : AH} {P' : AH → Prop}
theorem RdAt.o (q : RdAt ρ tp tt use bs σ g) : ρ < g.1 ∧ g.2 ρ = .inr (.inr (3, [.ref (ρ + 1), .ref tp, .ref tt, .int (nI σ.1), .int (b2i σ.2.1)])) := ⟨q.1, q.2.1⟩
theorem RdAt.V (q : RdAt ρ tp tt use bs σ g) : ∃ (fs : List Value) (T : u_T) (N : Nat), ρ < g.1 ∧ g.2 ρ = .inr (.inr (3, fs)) ∧ vwCl[3]? = some (RX4, T, N) := ⟨_, _, _, q.1, q.2.1, rfl⟩
theorem RdAt.put {a : Nat} {f : Bool} (q : RdAt ρ tp tt use bs σ g) (ha : a ≤ bs.length) : RdAt ρ tp tt use bs (a, f, σ.2.2) (hset g ρ (.inr (.inr (3, [.ref (ρ + 1), .ref tp, .ref tt, .int (nI a), .int (b2i f)])))) := by
  obtain ⟨q1, q2, q3, q4, ⟨l, q5⟩, q6, q7, q8⟩ := q
  exact ⟨q1, hset_same _ _ _, q3.off Off.one (by omega), q4.off Off.one (by omega), ⟨l, q5.off Off.one (by omega)⟩, ha, q7, q8⟩
theorem RdAt.setL {l : List Int32} (q : RdAt ρ tp tt use bs σ h) (hR : RowAt (ρ + 1) 50 l g) (o : Off (ρ + 1) 2 h g) : RdAt ρ tp tt use bs (σ.1, σ.2.1, l) g := by
  obtain ⟨q1, q2, q3, q4, ⟨l, q5⟩, q6, q7, q8⟩ := q
  exact ⟨by rw [o.1]; exact q1, by rw [o.2 ρ (by omega)]; exact q2, hR, q4.off o (by omega), ⟨l, q5.off o (by omega)⟩, q6, q7, q8⟩
theorem RdAt.len (q : RdAt ρ tp tt use bs σ g) : bs.length ≤ 50 := q.2.2.2.1.2.1
theorem has_nI {l : List Int32} {n : Nat} (h : n ≤ 4000) : hasL l (nI n) = decide (n < l.length) := by
  unfold hasL
  rw [nI_T h]
  by_cases e : n < l.length
  · rw [decide_eq_true e, decide_eq_true (by omega)]
  · rw [decide_eq_false e, decide_eq_false (by omega)]
theorem b2i_0 {b : Bool} : b2i b = 0 ↔ b = false := by cases b <;> decide
theorem b2i_n0 {b : Bool} : ¬ b2i b = 0 ↔ b = true := by cases b <;> decide
set_option maxHeartbeats 4000000 in
theorem ct_Rd_next (hR : RdAt ρ tp tt use bs σ g) (hP : P' g) : CV 3 0 0 mX4_next ρ [] g (fun v g' => v = some (.int (nxB bs σ)) ∧ P' g') := by
  refine ⟨hR.V, ?_⟩
  refine ct_of (by decide) (fun _ _ => Nat.le_of_ble_eq_true rfl) ?_
  dsimp only [pad, ent]
  have hl := hR.len
  have hσ := hR.2.2.2.2.2.1
  unfold nxB
  refine aw_P (P' := fun g' => RdAt ρ tp tt use bs σ g' ∧ g' = g) (fun g' e => by subst e; exact ⟨hR, rfl⟩) ?_
  refine r_aload_n (pc := 0) dX4_next_0 rfl ?_
  refine r_getf (pc := 1) (k := 1) dX4_next_1 hX4 eX4 (by decide) fX4_20 (fun _ q => q.1.o) rfl ?_
  refine r_aload_n (pc := 4) dX4_next_4 rfl ?_
  refine r_getf (pc := 5) (k := 3) dX4_next_5 hX4 eX4 (by decide) fX4_27 (fun _ q => q.1.o) rfl ?_
  refine r_Vi (pc := 8) (μ' := mX5_has) dX4_next_8 nX4_49 iX5_has vX5_has kX5_has rfl rfl (rr (by decide) rfl) rfl ⟨Nat.zero_le _, Nat.zero_le _⟩ (fun g' q => ct_Row_has q.1.2.2.2.1 q) ?_
  rw [has_nI (show σ.1 ≤ 4000 by omega)]
  refine r_if_eq (pc := 11) 28 dX4_next_11 (by decide) (fun c11 => ?_) (fun c11 => ?_)
  · skip
    have k := of_decide_eq_false (b2i_0.mp c11)
    rw [if_neg k]
    refine r_iconst (pc := 28) (v := (-1)) dX4_next_28 (by decide) ?_
    refine r_ireturn (pc := 29) (ty := .int) dX4_next_29 rfl rfl ⟨Nat.zero_le _, Nat.zero_le _⟩ (fun gE hg => ?_)
    exact ⟨rfl, by rw [hg.2]; exact hP⟩
  · skip
    have k := of_decide_eq_true (b2i_n0.mp c11)
    rw [if_pos k]
    refine r_aload_n (pc := 14) dX4_next_14 rfl ?_
    refine r_getf (pc := 15) (k := 1) dX4_next_15 hX4 eX4 (by decide) fX4_20 (fun _ q => q.1.o) rfl ?_
    refine r_aload_n (pc := 18) dX4_next_18 rfl ?_
    refine r_getf (pc := 19) (k := 3) dX4_next_19 hX4 eX4 (by decide) fX4_27 (fun _ q => q.1.o) rfl ?_
    refine r_Vi (pc := 22) (μ' := mX5_at) dX4_next_22 nX4_53 iX5_at vX5_at kX5_at rfl rfl (rr (by decide) rfl) rfl ⟨Nat.zero_le _, Nat.zero_le _⟩ (fun g' q => ct_Row_at q.1.2.2.2.1 q) ?_
    rw [atL_nI (show σ.1 ≤ 4000 by omega)]
    refine r_goto (pc := 25) 29 dX4_next_25 (by decide) ?_
    refine r_ireturn (pc := 29) (ty := .int) dX4_next_29 rfl rfl ⟨Nat.zero_le _, Nat.zero_le _⟩ (fun gE hg => ?_)
    exact ⟨rfl, by rw [hg.2]; exact hP⟩
set_option maxHeartbeats 4000000 in
theorem ct_Rd_nextIs {s : Int32} (hR : RdAt ρ tp tt use bs σ g) (hP : P' g) : CV 4 0 0 mX4_nextIs ρ [.int s] g (fun v g' => v = some (.int (b2i (isB bs s σ))) ∧ P' g') := by
  refine ⟨hR.V, ?_⟩
  refine ct_of (by decide) (fun _ _ => Nat.le_of_ble_eq_true rfl) ?_
  dsimp only [pad, ent]
  unfold isB
  refine aw_P (P' := fun g' => RdAt ρ tp tt use bs σ g' ∧ g' = g) (fun g' e => by subst e; exact ⟨hR, rfl⟩) ?_
  refine r_aload_n (pc := 0) dX4_nextIs_0 rfl ?_
  refine r_getf (pc := 1) (k := 4) dX4_nextIs_1 hX4 eX4 (by decide) fX4_31 (fun _ q => q.1.o) rfl ?_
  refine r_if_eq (pc := 4) 19 dX4_nextIs_4 (by decide) (fun c4 => ?_) (fun c4 => ?_)
  · skip
    have k := b2i_0.mp c4
    rw [k, Bool.false_and]
    refine r_iconst (pc := 19) (v := 0) dX4_nextIs_19 (by decide) ?_
    refine r_ireturn (pc := 20) (ty := .boolean) dX4_nextIs_20 rfl rfl ⟨Nat.zero_le _, Nat.zero_le _⟩ (fun gE hg => ?_)
    exact ⟨rfl, by rw [hg.2]; exact hP⟩
  · skip
    have k := b2i_n0.mp c4
    rw [k, Bool.true_and]
    refine r_aload_n (pc := 7) dX4_nextIs_7 rfl ?_
    refine r_Vi (pc := 8) (μ' := mX4_next) dX4_nextIs_8 nX4_56 iX4_next vX4_next kX4_next rfl rfl (rr (by decide) rfl) rfl ⟨Nat.zero_le _, Nat.zero_le _⟩ (fun g' q => ct_Rd_next q.1 q) ?_
    refine r_iload_n (pc := 11) dX4_nextIs_11 rfl ?_
    refine r_icmp_ne (pc := 12) 19 dX4_nextIs_12 (by decide) (fun c12 => ?_) (fun c12 => ?_)
    · skip
      rw [decide_eq_false c12]
      refine r_iconst (pc := 19) (v := 0) dX4_nextIs_19 (by decide) ?_
      refine r_ireturn (pc := 20) (ty := .boolean) dX4_nextIs_20 rfl rfl ⟨Nat.zero_le _, Nat.zero_le _⟩ (fun gE hg => ?_)
      exact ⟨rfl, by rw [hg.2]; exact hP⟩
    · skip
      rw [decide_eq_true c12]
      refine r_iconst (pc := 15) (v := 1) dX4_nextIs_15 (by decide) ?_
      refine r_goto (pc := 16) 20 dX4_nextIs_16 (by decide) ?_
      refine r_ireturn (pc := 20) (ty := .boolean) dX4_nextIs_20 rfl rfl ⟨Nat.zero_le _, Nat.zero_le _⟩ (fun gE hg => ?_)
      exact ⟨rfl, by rw [hg.2]; exact hP⟩
set_option maxHeartbeats 4000000 in
theorem ct_Rd_emit {s : Int32} (hR : RdAt ρ tp tt use bs σ g) (hP : ∀ g', RdAt ρ tp tt use bs (emB s σ) g' → Off ρ 3 g g' → P' g') : CV 2 0 0 mX4_emit ρ [.int s] g (fun v g' => v = none ∧ P' g') := by
  refine ⟨hR.V, ?_⟩
  refine ct_of (by decide) (fun _ _ => Nat.le_of_ble_eq_true rfl) ?_
  dsimp only [pad, ent]
  refine aw_P (P' := fun g' => RdAt ρ tp tt use bs σ g' ∧ g' = g) (fun g' e => by subst e; exact ⟨hR, rfl⟩) ?_
  refine r_aload_n (pc := 0) dX4_emit_0 rfl ?_
  refine r_getf (pc := 1) (k := 0) dX4_emit_1 hX4 eX4 (by decide) fX4_14 (fun _ q => q.1.o) rfl ?_
  refine r_sipush (pc := 4) (v := 20000) dX4_emit_4 (by decide) ?_
  refine r_iload_n (pc := 7) dX4_emit_7 rfl ?_
  refine r_iadd (pc := 8) dX4_emit_8 ?_
  refine r_Vi (pc := 9) (μ' := mX5_add) dX4_emit_9 nX4_59 iX5_add vX5_add kX5_add rfl rfl (rr (by decide) rfl) rfl ⟨Nat.zero_le _, Nat.zero_le _⟩ (fun g' q => ct_Row_add q.1.2.2.1 (fun g2 a b => by rw [q.2] at b; exact hP g2 (hR.setL a b) (b.wide (by omega) (by omega)))) ?_
  refine r_pop (pc := 12) dX4_emit_12 rfl ?_
  refine r_return (pc := 13) dX4_emit_13 rfl ⟨Nat.zero_le _, Nat.zero_le _⟩ (fun gE hg => ?_)
  exact ⟨rfl, hg⟩
set_option maxHeartbeats 4000000 in
theorem ct_Rd_isDigit {c : Int32} (g : AH) : CT 1 0 0 mX4_isDigit [.int c] g (fun v g' => v = some (.int (b2i (digB c))) ∧ g' = g) := by
  refine ct_of (by decide) (fun _ _ => Nat.le_of_ble_eq_true rfl) ?_
  dsimp only [pad, ent]
  unfold digB
  refine r_iload_n (pc := 0) dX4_isDigit_0 rfl ?_
  refine r_bipush (pc := 1) (v := 48) dX4_isDigit_1 (by decide) ?_
  refine r_icmp_lt (pc := 3) 16 dX4_isDigit_3 (by decide) (fun c3 => ?_) (fun c3 => ?_)
  · skip
    have k1 : c.toInt < 48 := fa_lt.mp c3
    refine r_iconst (pc := 16) (v := 0) dX4_isDigit_16 (by decide) ?_
    refine r_ireturn (pc := 17) (ty := .boolean) dX4_isDigit_17 rfl rfl ⟨Nat.zero_le _, Nat.zero_le _⟩ (fun gE hg => ?_)
    refine ⟨?_, hg⟩
    first
    | (rw [decide_eq_true (by omega)]; rfl)
    | (rw [decide_eq_false (by omega)]; rfl)
  · skip
    have k1 : ¬ c.toInt < 48 := fun q => c3 (fa_lt.mpr q)
    refine r_iload_n (pc := 6) dX4_isDigit_6 rfl ?_
    refine r_bipush (pc := 7) (v := 57) dX4_isDigit_7 (by decide) ?_
    refine r_icmp_gt (pc := 9) 16 dX4_isDigit_9 (by decide) (fun c9 => ?_) (fun c9 => ?_)
    · skip
      have k2 : (57 : Int) < c.toInt := fa_lt.mp c9
      refine r_iconst (pc := 16) (v := 0) dX4_isDigit_16 (by decide) ?_
      refine r_ireturn (pc := 17) (ty := .boolean) dX4_isDigit_17 rfl rfl ⟨Nat.zero_le _, Nat.zero_le _⟩ (fun gE hg => ?_)
      refine ⟨?_, hg⟩
      first
      | (rw [decide_eq_true (by omega)]; rfl)
      | (rw [decide_eq_false (by omega)]; rfl)
    · skip
      have k2 : ¬ (57 : Int) < c.toInt := fun q => c9 (fa_lt.mpr q)
      refine r_iconst (pc := 12) (v := 1) dX4_isDigit_12 (by decide) ?_
      refine r_goto (pc := 13) 17 dX4_isDigit_13 (by decide) ?_
      refine r_ireturn (pc := 17) (ty := .boolean) dX4_isDigit_17 rfl rfl ⟨Nat.zero_le _, Nat.zero_le _⟩ (fun gE hg => ?_)
      refine ⟨?_, hg⟩
      first
      | (rw [decide_eq_true (by omega)]; rfl)
      | (rw [decide_eq_false (by omega)]; rfl)
theorem nx_lt {c : Int32} (h : nxB bs σ = c) (hc : ¬ c = -1) : σ.1 < bs.length := by
  unfold nxB at h
  by_cases e : σ.1 < bs.length
  · exact e
  · rw [if_neg e] at h; exact absurd h.symm hc
theorem dig_lt (h : digB (nxB bs σ) = true) : σ.1 < bs.length := by
  refine nx_lt rfl fun q => ?_
  rw [q] at h
  exact absurd h (by decide)
theorem name_lt (h : 0 ≤ nameI use (nxB bs σ)) : σ.1 < bs.length := by
  refine nx_lt rfl fun q => ?_
  rw [q] at h
  unfold nameI at h
  rw [if_neg (by decide), if_neg (by decide), if_neg (by split <;> decide)] at h
  exact absurd h (by decide)
set_option maxHeartbeats 4000000 in
theorem ct_Rd_readNumber (hR : RdAt ρ tp tt use bs σ g) (hP : ∀ g', RdAt ρ tp tt use bs (numB bs 4 0 σ) g' → Off ρ 3 g g' → P' g') : CV 4 0 0 mX4_readNumber ρ [] g (fun v g' => v = none ∧ P' g') := by
  refine ⟨hR.V, ?_⟩
  refine ct_of (by decide) (fun _ _ => Nat.le_of_ble_eq_true rfl) ?_
  dsimp only [pad, ent]
  have L : ∀ (n : Nat) (v : Int32) (τ : RS), n ≤ 4 → (∀ g', RdAt ρ tp tt use bs (numB bs n v τ) g' → Off ρ 3 g g' → P' g') → AW (fun _ => True) (rmd 4 0 0) mX4_readNumber 0 0 4 [some (.ref ρ), some (.int v), some (.int (nI (4 - n)))] [] (fun g' => RdAt ρ tp tt use bs τ g' ∧ Off ρ 3 g g') (fun v g' => v = none ∧ P' g') := by
    intro n
    induction n with
    | zero =>
      intro v τ hn hP
      refine r_iload_n (pc := 4) dX4_readNumber_4 rfl ?_
      refine r_iconst (pc := 5) (v := 4) dX4_readNumber_5 (by decide) ?_
      refine r_icmp_ge (pc := 6) 48 dX4_readNumber_6 (by decide) (fun c6 => ?_) (fun c6 => ?_)
      · skip
        refine r_aload_n (pc := 48) dX4_readNumber_48 rfl ?_
        refine r_getf (pc := 49) (k := 0) dX4_readNumber_49 hX4 eX4 (by decide) fX4_14 (fun _ q => q.1.o) rfl ?_
        refine r_iload_n (pc := 52) dX4_readNumber_52 rfl ?_
        refine r_Vi (pc := 53) (μ' := mX5_add) dX4_readNumber_53 nX4_59 iX5_add vX5_add kX5_add rfl rfl (rr (by decide) rfl) rfl ⟨Nat.zero_le _, Nat.zero_le _⟩ (fun g' q => ct_Row_add q.1.2.2.1 (fun g2 a b => hP g2 (q.1.setL a b) (q.2.tr (b.wide (by omega) (by omega))))) ?_
        refine r_pop (pc := 56) dX4_readNumber_56 rfl ?_
        refine r_return (pc := 57) dX4_readNumber_57 rfl ⟨Nat.zero_le _, Nat.zero_le _⟩ (fun gE hg => ?_)
        exact ⟨rfl, hg⟩
      · skip
        exact absurd (show (4 : Int32) ≤ nI (4 - 0) by decide) c6
    | succ n ih =>
      intro v τ hn hP
      have hT : (nI (4 - (n + 1))).toInt = ((4 - (n + 1) : Nat) : Int) := nI_T (by omega)
      refine r_iload_n (pc := 4) dX4_readNumber_4 rfl ?_
      refine r_iconst (pc := 5) (v := 4) dX4_readNumber_5 (by decide) ?_
      refine r_icmp_ge (pc := 6) 48 dX4_readNumber_6 (by decide) (fun c6 => ?_) (fun c6 => ?_)
      · skip
        exact absurd (fa_le.mp c6) (by rw [hT, show (4 : Int32).toInt = 4 from rfl]; omega)
      · skip
        refine r_aload_n (pc := 9) dX4_readNumber_9 rfl ?_
        refine r_Vi (pc := 10) (μ' := mX4_next) dX4_readNumber_10 nX4_56 iX4_next vX4_next kX4_next rfl rfl (rr (by decide) rfl) rfl ⟨Nat.zero_le _, Nat.zero_le _⟩ (fun g' q => ct_Rd_next q.1 q) ?_
        refine r_Sp (pc := 13) (μ' := mX4_isDigit) dX4_readNumber_13 nX4_83 sX4_isDigit kX4_isDigit rfl rfl (rr (by decide) rfl) rfl ⟨Nat.zero_le _, Nat.zero_le _⟩ (fun h => ct_Rd_isDigit h) ?_
        refine r_if_eq (pc := 16) 48 dX4_readNumber_16 (by decide) (fun c16 => ?_) (fun c16 => ?_)
        · skip
          have k := b2i_0.mp c16
          have e : numB bs (n + 1) v τ = psB v τ := by rw [numB, if_neg (by rw [k]; decide)]
          rw [e] at hP
          refine r_aload_n (pc := 48) dX4_readNumber_48 rfl ?_
          refine r_getf (pc := 49) (k := 0) dX4_readNumber_49 hX4 eX4 (by decide) fX4_14 (fun _ q => q.1.o) rfl ?_
          refine r_iload_n (pc := 52) dX4_readNumber_52 rfl ?_
          refine r_Vi (pc := 53) (μ' := mX5_add) dX4_readNumber_53 nX4_59 iX5_add vX5_add kX5_add rfl rfl (rr (by decide) rfl) rfl ⟨Nat.zero_le _, Nat.zero_le _⟩ (fun g' q => ct_Row_add q.1.2.2.1 (fun g2 a b => hP g2 (q.1.setL a b) (q.2.tr (b.wide (by omega) (by omega))))) ?_
          refine r_pop (pc := 56) dX4_readNumber_56 rfl ?_
          refine r_return (pc := 57) dX4_readNumber_57 rfl ⟨Nat.zero_le _, Nat.zero_le _⟩ (fun gE hg => ?_)
          exact ⟨rfl, hg⟩
        · skip
          have k := b2i_n0.mp c16
          have e : numB bs (n + 1) v τ = numB bs n (v * 10 + nxB bs τ - 48) (adB τ) := by rw [numB, if_pos k]
          rw [e] at hP
          have hlt := dig_lt k
          refine r_iload_n (pc := 19) dX4_readNumber_19 rfl ?_
          refine r_bipush (pc := 20) (v := 10) dX4_readNumber_20 (by decide) ?_
          refine r_imul (pc := 22) dX4_readNumber_22 ?_
          refine r_aload_n (pc := 23) dX4_readNumber_23 rfl ?_
          refine r_Vi (pc := 24) (μ' := mX4_next) dX4_readNumber_24 nX4_56 iX4_next vX4_next kX4_next rfl rfl (rr (by decide) rfl) rfl ⟨Nat.zero_le _, Nat.zero_le _⟩ (fun g' q => ct_Rd_next q.1 q) ?_
          refine r_iadd (pc := 27) dX4_readNumber_27 ?_
          refine r_bipush (pc := 28) (v := 48) dX4_readNumber_28 (by decide) ?_
          refine r_isub (pc := 30) dX4_readNumber_30 ?_
          refine r_istore_n (pc := 31) dX4_readNumber_31 rfl (Nat.le_of_ble_eq_true rfl) rfl ?_
          dsimp only [lset]
          refine r_aload_n (pc := 32) dX4_readNumber_32 rfl ?_
          refine r_dup (pc := 33) dX4_readNumber_33 rfl ?_
          refine r_getf (pc := 34) (k := 3) dX4_readNumber_34 hX4 eX4 (by decide) fX4_27 (fun _ q => q.1.o) rfl ?_
          refine r_iconst (pc := 37) (v := 1) dX4_readNumber_37 (by decide) ?_
          refine r_iadd (pc := 38) dX4_readNumber_38 ?_
          rw [nI_s]
          refine r_putf (pc := 39) (k := 3) (P' := fun g' => RdAt ρ tp tt use bs (adB τ) g' ∧ Off ρ 3 g g') tyX4 dX4_readNumber_39 hX4 tyX4_ok nmX4 eX4 (by decide) fX4_27 rfl rfl (fun _ _ => rfl) (fun _ _ => rfl) (Nat.le_of_ble_eq_true rfl) (fun _ q => q.1.o) (fun _ q => ⟨q.1.put hlt, q.2.set (by omega) (by omega)⟩) ?_
          refine r_iinc1 (pc := 42) dX4_readNumber_42 rfl (Nat.le_of_ble_eq_true rfl) rfl ?_
          dsimp only [lset]
          refine r_goto (pc := 45) 4 dX4_readNumber_45 (by decide) ?_
          rw [nI_s, show 4 - (n + 1) + 1 = 4 - n by omega]
          exact ih _ _ (by omega) hP
  refine aw_P (P' := fun g' => RdAt ρ tp tt use bs σ g' ∧ Off ρ 3 g g') (fun g' e => by subst e; exact ⟨hR, Off.rf _ _ _⟩) ?_
  refine r_iconst (pc := 0) (v := 0) dX4_readNumber_0 (by decide) ?_
  refine r_istore_n (pc := 1) dX4_readNumber_1 rfl (Nat.le_of_ble_eq_true rfl) rfl ?_
  dsimp only [lset]
  refine r_iconst (pc := 2) (v := 0) dX4_readNumber_2 (by decide) ?_
  refine r_istore_n (pc := 3) dX4_readNumber_3 rfl (Nat.le_of_ble_eq_true rfl) rfl ?_
  dsimp only [lset]
  exact L 4 0 σ (Nat.le_refl _) hP
end Rd
/-- a reading method's contract -/
def RdC (D : Nat) (μ : MI) (as : List Value) (f : Int32 → List Int32 → RS → RS) : Prop :=
  ∀ (ρ tp tt : Nat) (use : Int32) (bs : List Int32) (σ : RS) (g : AH) (P' : AH → Prop), RdAt ρ tp tt use bs σ g → (∀ g', RdAt ρ tp tt use bs (f use bs σ) g' → Off ρ 3 g g' → P' g') → CV D 0 0 μ ρ as g (fun v g' => v = none ∧ P' g')
theorem isB_op {bs : List Int32} {s : Int32} {σ : RS} (h : isB bs s σ = true) : σ.2.1 = true ∧ nxB bs σ = s := by
  unfold isB at h
  rw [Bool.and_eq_true] at h
  exact ⟨h.1, of_decide_eq_true h.2⟩
theorem isB_no {bs : List Int32} {s : Int32} {σ : RS} (h : isB bs s σ = false) : ¬ (σ.2.1 = true ∧ nxB bs σ = s) := by
  intro q
  unfold isB at h
  rw [q.1, decide_eq_true q.2] at h
  exact absurd h (by decide)
set_option maxHeartbeats 4000000 in
theorem ct_Rd_readT {D : Nat} {op : Int32} {f : Int32 → List Int32 → RS → RS} (hD : 5 ≤ D) (hE : RdC D mX4_readA [.int op] f) : RdC (D + 1) mX4_readT [.int op] (fun use bs => loopB bs [124] (f use bs)) := by
  intro ρ tp tt use bs σ g P' hR hP
  refine ⟨hR.V, ?_⟩
  refine ct_of (by decide) (fun _ _ => Nat.le_of_ble_eq_true rfl) ?_
  dsimp only [pad, ent]
  have L : ∀ (n : Nat) (τ : RS), n ≤ 50 → (∀ g', RdAt ρ tp tt use bs (chainB bs [124] (f use bs) n τ) g' → Off ρ 3 g g' → P' g') → AW (fun _ => True) (rmd (D + 1) 0 0) mX4_readT 0 0 7 [some (.ref ρ), some (.int op), some (.int (nI (50 - n)))] [] (fun g' => RdAt ρ tp tt use bs τ g' ∧ Off ρ 3 g g') (fun v g' => v = none ∧ P' g') := by
    intro n
    induction n with
    | zero =>
      intro τ hn hP
      refine r_iload_n (pc := 7) dX4_readT_7 rfl ?_
      refine r_bipush (pc := 8) (v := 50) dX4_readT_8 (by decide) ?_
      refine r_icmp_ge (pc := 10) 49 dX4_readT_10 (by decide) (fun c10 => ?_) (fun c10 => ?_)
      · skip
        refine r_return (pc := 49) dX4_readT_49 rfl ⟨Nat.zero_le _, Nat.zero_le _⟩ (fun gE hg => ?_)
        exact ⟨rfl, hP _ hg.1 hg.2⟩
      · skip
        exact absurd (show (50 : Int32) ≤ nI (50 - 0) by decide) c10
    | succ n ih =>
      intro τ hn hP
      have hT : (nI (50 - (n + 1))).toInt = ((50 - (n + 1) : Nat) : Int) := nI_T (by omega)
      have hno : ¬ (τ.2.1 = true ∧ nxB bs τ ∈ ([124] : List Int32)) → chainB bs [124] (f use bs) (n + 1) τ = τ := fun q => by rw [chainB, if_neg q]
      have hyes : τ.2.1 = true ∧ nxB bs τ ∈ ([124] : List Int32) → chainB bs [124] (f use bs) (n + 1) τ = chainB bs [124] (f use bs) n (emB (nxB bs τ) (f use bs (adB τ))) := fun q => by rw [chainB, if_pos q]
      refine r_iload_n (pc := 7) dX4_readT_7 rfl ?_
      refine r_bipush (pc := 8) (v := 50) dX4_readT_8 (by decide) ?_
      refine r_icmp_ge (pc := 10) 49 dX4_readT_10 (by decide) (fun c10 => ?_) (fun c10 => ?_)
      · skip
        exact absurd (fa_le.mp c10) (by rw [hT, show (50 : Int32).toInt = 50 from rfl]; omega)
      · skip
        refine r_aload_n (pc := 13) dX4_readT_13 rfl ?_
        refine r_bipush (pc := 14) (v := 124) dX4_readT_14 (by decide) ?_
        refine r_Vi (pc := 16) (μ' := mX4_nextIs) dX4_readT_16 nX4_65 iX4_nextIs vX4_nextIs kX4_nextIs rfl rfl (rr (by omega) rfl) rfl ⟨Nat.zero_le _, Nat.zero_le _⟩ (fun g' q => ct_Rd_nextIs q.1 q) ?_
        refine r_if_eq (pc := 19) 49 dX4_readT_19 (by decide) (fun c19 => ?_) (fun c19 => ?_)
        · skip
          have n19 := isB_no (b2i_0.mp c19)
          rw [hno (fun q => by
            have m := q.2
            simp only [List.mem_cons, List.not_mem_nil, or_false] at m
            rcases m with m
            · exact n19 ⟨q.1, m⟩)] at hP
          refine r_return (pc := 49) dX4_readT_49 rfl ⟨Nat.zero_le _, Nat.zero_le _⟩ (fun gE hg => ?_)
          exact ⟨rfl, hP _ hg.1 hg.2⟩
        · skip
          have y := isB_op (b2i_n0.mp c19)
          have yl := nx_lt y.2 (by decide)
          rw [hyes ⟨y.1, by rw [y.2]; decide⟩] at hP
          refine r_aload_n (pc := 22) dX4_readT_22 rfl ?_
          refine r_dup (pc := 23) dX4_readT_23 rfl ?_
          refine r_getf (pc := 24) (k := 3) dX4_readT_24 hX4 eX4 (by decide) fX4_27 (fun _ q => q.1.o) rfl ?_
          refine r_iconst (pc := 27) (v := 1) dX4_readT_27 (by decide) ?_
          refine r_iadd (pc := 28) dX4_readT_28 ?_
          rw [y.2] at hP
          refine r_putf (pc := 29) (k := 3) (P' := fun g' => RdAt ρ tp tt use bs (adB τ) g' ∧ Off ρ 3 g g') tyX4 dX4_readT_29 hX4 tyX4_ok nmX4 eX4 (by decide) fX4_27 rfl rfl (fun _ _ => rfl) (fun _ _ => rfl) (Nat.le_of_ble_eq_true rfl) (fun _ q => q.1.o) (fun _ q => ⟨by rw [nI_s]; exact q.1.put yl, q.2.set (by omega) (by omega)⟩) ?_
          refine r_aload_n (pc := 32) dX4_readT_32 rfl ?_
          refine r_iload_n (pc := 33) dX4_readT_33 rfl ?_
          refine r_Vv (pc := 34) (μ' := mX4_readA) dX4_readT_34 nX4_62 iX4_readA vX4_readA kX4_readA rfl rfl (rr (by omega) rfl) rfl ⟨Nat.zero_le _, Nat.zero_le _⟩ (fun g' q => hE ρ tp tt use bs (adB τ) g' (fun g2 => RdAt ρ tp tt use bs (f use bs (adB τ)) g2 ∧ Off ρ 3 g g2) q.1 (fun g2 a b => ⟨a, q.2.tr b⟩)) ?_
          refine r_aload_n (pc := 37) dX4_readT_37 rfl ?_
          refine r_bipush (pc := 38) (v := 124) dX4_readT_38 (by decide) ?_
          refine r_Vv (pc := 40) (μ' := mX4_emit) dX4_readT_40 nX4_68 iX4_emit vX4_emit kX4_emit rfl rfl (rr (by omega) rfl) rfl ⟨Nat.zero_le _, Nat.zero_le _⟩ (fun g' q => ct_Rd_emit (P' := fun g2 => RdAt ρ tp tt use bs (emB 124 (f use bs (adB τ))) g2 ∧ Off ρ 3 g g2) q.1 (fun g2 a b => ⟨a, q.2.tr b⟩)) ?_
          refine r_iinc1 (pc := 43) dX4_readT_43 rfl (Nat.le_of_ble_eq_true rfl) rfl ?_
          dsimp only [lset]
          refine r_goto (pc := 46) 7 dX4_readT_46 (by decide) ?_
          rw [nI_s, show 50 - (n + 1) + 1 = 50 - n by omega]
          exact ih _ (by omega) hP
  refine aw_P (P' := fun g' => RdAt ρ tp tt use bs σ g' ∧ Off ρ 3 g g') (fun g' e => by subst e; exact ⟨hR, Off.rf _ _ _⟩) ?_
  refine r_aload_n (pc := 0) dX4_readT_0 rfl ?_
  refine r_iload_n (pc := 1) dX4_readT_1 rfl ?_
  refine r_Vv (pc := 2) (μ' := mX4_readA) dX4_readT_2 nX4_62 iX4_readA vX4_readA kX4_readA rfl rfl (rr (by omega) rfl) rfl ⟨Nat.zero_le _, Nat.zero_le _⟩ (fun g' q => hE ρ tp tt use bs σ g' (fun g2 => RdAt ρ tp tt use bs (f use bs σ) g2 ∧ Off ρ 3 g g2) q.1 (fun g2 a b => ⟨a, q.2.tr b⟩)) ?_
  refine r_iconst (pc := 5) (v := 0) dX4_readT_5 (by decide) ?_
  refine r_istore_n (pc := 6) dX4_readT_6 rfl (Nat.le_of_ble_eq_true rfl) rfl ?_
  dsimp only [lset]
  exact L 50 _ (Nat.le_refl _) hP
set_option maxHeartbeats 4000000 in
theorem ct_Rd_readA {D : Nat} {op : Int32} {f : Int32 → List Int32 → RS → RS} (hD : 5 ≤ D) (hE : RdC D mX4_readB [.int op] f) : RdC (D + 1) mX4_readA [.int op] (fun use bs => loopB bs [38] (f use bs)) := by
  intro ρ tp tt use bs σ g P' hR hP
  refine ⟨hR.V, ?_⟩
  refine ct_of (by decide) (fun _ _ => Nat.le_of_ble_eq_true rfl) ?_
  dsimp only [pad, ent]
  have L : ∀ (n : Nat) (τ : RS), n ≤ 50 → (∀ g', RdAt ρ tp tt use bs (chainB bs [38] (f use bs) n τ) g' → Off ρ 3 g g' → P' g') → AW (fun _ => True) (rmd (D + 1) 0 0) mX4_readA 0 0 7 [some (.ref ρ), some (.int op), some (.int (nI (50 - n)))] [] (fun g' => RdAt ρ tp tt use bs τ g' ∧ Off ρ 3 g g') (fun v g' => v = none ∧ P' g') := by
    intro n
    induction n with
    | zero =>
      intro τ hn hP
      refine r_iload_n (pc := 7) dX4_readA_7 rfl ?_
      refine r_bipush (pc := 8) (v := 50) dX4_readA_8 (by decide) ?_
      refine r_icmp_ge (pc := 10) 49 dX4_readA_10 (by decide) (fun c10 => ?_) (fun c10 => ?_)
      · skip
        refine r_return (pc := 49) dX4_readA_49 rfl ⟨Nat.zero_le _, Nat.zero_le _⟩ (fun gE hg => ?_)
        exact ⟨rfl, hP _ hg.1 hg.2⟩
      · skip
        exact absurd (show (50 : Int32) ≤ nI (50 - 0) by decide) c10
    | succ n ih =>
      intro τ hn hP
      have hT : (nI (50 - (n + 1))).toInt = ((50 - (n + 1) : Nat) : Int) := nI_T (by omega)
      have hno : ¬ (τ.2.1 = true ∧ nxB bs τ ∈ ([38] : List Int32)) → chainB bs [38] (f use bs) (n + 1) τ = τ := fun q => by rw [chainB, if_neg q]
      have hyes : τ.2.1 = true ∧ nxB bs τ ∈ ([38] : List Int32) → chainB bs [38] (f use bs) (n + 1) τ = chainB bs [38] (f use bs) n (emB (nxB bs τ) (f use bs (adB τ))) := fun q => by rw [chainB, if_pos q]
      refine r_iload_n (pc := 7) dX4_readA_7 rfl ?_
      refine r_bipush (pc := 8) (v := 50) dX4_readA_8 (by decide) ?_
      refine r_icmp_ge (pc := 10) 49 dX4_readA_10 (by decide) (fun c10 => ?_) (fun c10 => ?_)
      · skip
        exact absurd (fa_le.mp c10) (by rw [hT, show (50 : Int32).toInt = 50 from rfl]; omega)
      · skip
        refine r_aload_n (pc := 13) dX4_readA_13 rfl ?_
        refine r_bipush (pc := 14) (v := 38) dX4_readA_14 (by decide) ?_
        refine r_Vi (pc := 16) (μ' := mX4_nextIs) dX4_readA_16 nX4_65 iX4_nextIs vX4_nextIs kX4_nextIs rfl rfl (rr (by omega) rfl) rfl ⟨Nat.zero_le _, Nat.zero_le _⟩ (fun g' q => ct_Rd_nextIs q.1 q) ?_
        refine r_if_eq (pc := 19) 49 dX4_readA_19 (by decide) (fun c19 => ?_) (fun c19 => ?_)
        · skip
          have n19 := isB_no (b2i_0.mp c19)
          rw [hno (fun q => by
            have m := q.2
            simp only [List.mem_cons, List.not_mem_nil, or_false] at m
            rcases m with m
            · exact n19 ⟨q.1, m⟩)] at hP
          refine r_return (pc := 49) dX4_readA_49 rfl ⟨Nat.zero_le _, Nat.zero_le _⟩ (fun gE hg => ?_)
          exact ⟨rfl, hP _ hg.1 hg.2⟩
        · skip
          have y := isB_op (b2i_n0.mp c19)
          have yl := nx_lt y.2 (by decide)
          rw [hyes ⟨y.1, by rw [y.2]; decide⟩] at hP
          refine r_aload_n (pc := 22) dX4_readA_22 rfl ?_
          refine r_dup (pc := 23) dX4_readA_23 rfl ?_
          refine r_getf (pc := 24) (k := 3) dX4_readA_24 hX4 eX4 (by decide) fX4_27 (fun _ q => q.1.o) rfl ?_
          refine r_iconst (pc := 27) (v := 1) dX4_readA_27 (by decide) ?_
          refine r_iadd (pc := 28) dX4_readA_28 ?_
          rw [y.2] at hP
          refine r_putf (pc := 29) (k := 3) (P' := fun g' => RdAt ρ tp tt use bs (adB τ) g' ∧ Off ρ 3 g g') tyX4 dX4_readA_29 hX4 tyX4_ok nmX4 eX4 (by decide) fX4_27 rfl rfl (fun _ _ => rfl) (fun _ _ => rfl) (Nat.le_of_ble_eq_true rfl) (fun _ q => q.1.o) (fun _ q => ⟨by rw [nI_s]; exact q.1.put yl, q.2.set (by omega) (by omega)⟩) ?_
          refine r_aload_n (pc := 32) dX4_readA_32 rfl ?_
          refine r_iload_n (pc := 33) dX4_readA_33 rfl ?_
          refine r_Vv (pc := 34) (μ' := mX4_readB) dX4_readA_34 nX4_71 iX4_readB vX4_readB kX4_readB rfl rfl (rr (by omega) rfl) rfl ⟨Nat.zero_le _, Nat.zero_le _⟩ (fun g' q => hE ρ tp tt use bs (adB τ) g' (fun g2 => RdAt ρ tp tt use bs (f use bs (adB τ)) g2 ∧ Off ρ 3 g g2) q.1 (fun g2 a b => ⟨a, q.2.tr b⟩)) ?_
          refine r_aload_n (pc := 37) dX4_readA_37 rfl ?_
          refine r_bipush (pc := 38) (v := 38) dX4_readA_38 (by decide) ?_
          refine r_Vv (pc := 40) (μ' := mX4_emit) dX4_readA_40 nX4_68 iX4_emit vX4_emit kX4_emit rfl rfl (rr (by omega) rfl) rfl ⟨Nat.zero_le _, Nat.zero_le _⟩ (fun g' q => ct_Rd_emit (P' := fun g2 => RdAt ρ tp tt use bs (emB 38 (f use bs (adB τ))) g2 ∧ Off ρ 3 g g2) q.1 (fun g2 a b => ⟨a, q.2.tr b⟩)) ?_
          refine r_iinc1 (pc := 43) dX4_readA_43 rfl (Nat.le_of_ble_eq_true rfl) rfl ?_
          dsimp only [lset]
          refine r_goto (pc := 46) 7 dX4_readA_46 (by decide) ?_
          rw [nI_s, show 50 - (n + 1) + 1 = 50 - n by omega]
          exact ih _ (by omega) hP
  refine aw_P (P' := fun g' => RdAt ρ tp tt use bs σ g' ∧ Off ρ 3 g g') (fun g' e => by subst e; exact ⟨hR, Off.rf _ _ _⟩) ?_
  refine r_aload_n (pc := 0) dX4_readA_0 rfl ?_
  refine r_iload_n (pc := 1) dX4_readA_1 rfl ?_
  refine r_Vv (pc := 2) (μ' := mX4_readB) dX4_readA_2 nX4_71 iX4_readB vX4_readB kX4_readB rfl rfl (rr (by omega) rfl) rfl ⟨Nat.zero_le _, Nat.zero_le _⟩ (fun g' q => hE ρ tp tt use bs σ g' (fun g2 => RdAt ρ tp tt use bs (f use bs σ) g2 ∧ Off ρ 3 g g2) q.1 (fun g2 a b => ⟨a, q.2.tr b⟩)) ?_
  refine r_iconst (pc := 5) (v := 0) dX4_readA_5 (by decide) ?_
  refine r_istore_n (pc := 6) dX4_readA_6 rfl (Nat.le_of_ble_eq_true rfl) rfl ?_
  dsimp only [lset]
  exact L 50 _ (Nat.le_refl _) hP
set_option maxHeartbeats 4000000 in
theorem ct_Rd_readS {D : Nat} {op : Int32} {f : Int32 → List Int32 → RS → RS} (hD : 5 ≤ D) (hE : RdC D mX4_readP [.int op] f) : RdC (D + 1) mX4_readS [.int op] (fun use bs => loopB bs [43, 45] (f use bs)) := by
  intro ρ tp tt use bs σ g P' hR hP
  refine ⟨hR.V, ?_⟩
  refine ct_of (by decide) (fun _ _ => Nat.le_of_ble_eq_true rfl) ?_
  dsimp only [pad, ent]
  have L : ∀ (n : Nat) (τ : RS), n ≤ 50 → (∀ g', RdAt ρ tp tt use bs (chainB bs [43, 45] (f use bs) n τ) g' → Off ρ 3 g g' → P' g') → AW (fun _ => True) (rmd (D + 1) 0 0) mX4_readS 0 0 7 [some (.ref ρ), some (.int op), some (.int (nI (50 - n))), none] [] (fun g' => RdAt ρ tp tt use bs τ g' ∧ Off ρ 3 g g') (fun v g' => v = none ∧ P' g') := by
    intro n
    induction n with
    | zero =>
      intro τ hn hP
      refine r_iload_n (pc := 7) dX4_readS_7 rfl ?_
      refine r_bipush (pc := 8) (v := 50) dX4_readS_8 (by decide) ?_
      refine r_icmp_ge (pc := 10) 62 dX4_readS_10 (by decide) (fun c10 => ?_) (fun c10 => ?_)
      · skip
        refine r_return (pc := 62) dX4_readS_62 rfl ⟨Nat.zero_le _, Nat.zero_le _⟩ (fun gE hg => ?_)
        exact ⟨rfl, hP _ hg.1 hg.2⟩
      · skip
        exact absurd (show (50 : Int32) ≤ nI (50 - 0) by decide) c10
    | succ n ih =>
      intro τ hn hP
      have hT : (nI (50 - (n + 1))).toInt = ((50 - (n + 1) : Nat) : Int) := nI_T (by omega)
      have hno : ¬ (τ.2.1 = true ∧ nxB bs τ ∈ ([43, 45] : List Int32)) → chainB bs [43, 45] (f use bs) (n + 1) τ = τ := fun q => by rw [chainB, if_neg q]
      have hyes : τ.2.1 = true ∧ nxB bs τ ∈ ([43, 45] : List Int32) → chainB bs [43, 45] (f use bs) (n + 1) τ = chainB bs [43, 45] (f use bs) n (emB (nxB bs τ) (f use bs (adB τ))) := fun q => by rw [chainB, if_pos q]
      refine r_iload_n (pc := 7) dX4_readS_7 rfl ?_
      refine r_bipush (pc := 8) (v := 50) dX4_readS_8 (by decide) ?_
      refine r_icmp_ge (pc := 10) 62 dX4_readS_10 (by decide) (fun c10 => ?_) (fun c10 => ?_)
      · skip
        exact absurd (fa_le.mp c10) (by rw [hT, show (50 : Int32).toInt = 50 from rfl]; omega)
      · skip
        refine r_aload_n (pc := 13) dX4_readS_13 rfl ?_
        refine r_bipush (pc := 14) (v := 43) dX4_readS_14 (by decide) ?_
        refine r_Vi (pc := 16) (μ' := mX4_nextIs) dX4_readS_16 nX4_65 iX4_nextIs vX4_nextIs kX4_nextIs rfl rfl (rr (by omega) rfl) rfl ⟨Nat.zero_le _, Nat.zero_le _⟩ (fun g' q => ct_Rd_nextIs q.1 q) ?_
        refine r_if_ne (pc := 19) 31 dX4_readS_19 (by decide) (fun c19 => ?_) (fun c19 => ?_)
        · skip
          have y := isB_op (b2i_n0.mp c19)
          have yl := nx_lt y.2 (by decide)
          rw [hyes ⟨y.1, by rw [y.2]; decide⟩] at hP
          refine r_aload_n (pc := 31) dX4_readS_31 rfl ?_
          refine r_Vi (pc := 32) (μ' := mX4_next) dX4_readS_32 nX4_56 iX4_next vX4_next kX4_next rfl rfl (rr (by omega) rfl) rfl ⟨Nat.zero_le _, Nat.zero_le _⟩ (fun g' q => ct_Rd_next q.1 q) ?_
          refine r_istore_n (pc := 35) dX4_readS_35 rfl (Nat.le_of_ble_eq_true rfl) rfl ?_
          dsimp only [lset]
          refine r_aload_n (pc := 36) dX4_readS_36 rfl ?_
          refine r_dup (pc := 37) dX4_readS_37 rfl ?_
          refine r_getf (pc := 38) (k := 3) dX4_readS_38 hX4 eX4 (by decide) fX4_27 (fun _ q => q.1.o) rfl ?_
          refine r_iconst (pc := 41) (v := 1) dX4_readS_41 (by decide) ?_
          refine r_iadd (pc := 42) dX4_readS_42 ?_
          refine r_putf (pc := 43) (k := 3) (P' := fun g' => RdAt ρ tp tt use bs (adB τ) g' ∧ Off ρ 3 g g') tyX4 dX4_readS_43 hX4 tyX4_ok nmX4 eX4 (by decide) fX4_27 rfl rfl (fun _ _ => rfl) (fun _ _ => rfl) (Nat.le_of_ble_eq_true rfl) (fun _ q => q.1.o) (fun _ q => ⟨by rw [nI_s]; exact q.1.put yl, q.2.set (by omega) (by omega)⟩) ?_
          refine r_aload_n (pc := 46) dX4_readS_46 rfl ?_
          refine r_iload_n (pc := 47) dX4_readS_47 rfl ?_
          refine r_Vv (pc := 48) (μ' := mX4_readP) dX4_readS_48 nX4_77 iX4_readP vX4_readP kX4_readP rfl rfl (rr (by omega) rfl) rfl ⟨Nat.zero_le _, Nat.zero_le _⟩ (fun g' q => hE ρ tp tt use bs (adB τ) g' (fun g2 => RdAt ρ tp tt use bs (f use bs (adB τ)) g2 ∧ Off ρ 3 g g2) q.1 (fun g2 a b => ⟨a, q.2.tr b⟩)) ?_
          refine r_aload_n (pc := 51) dX4_readS_51 rfl ?_
          refine r_iload_n (pc := 52) dX4_readS_52 rfl ?_
          refine r_Vv (pc := 53) (μ' := mX4_emit) dX4_readS_53 nX4_68 iX4_emit vX4_emit kX4_emit rfl rfl (rr (by omega) rfl) rfl ⟨Nat.zero_le _, Nat.zero_le _⟩ (fun g' q => ct_Rd_emit (P' := fun g2 => RdAt ρ tp tt use bs (emB (nxB bs τ) (f use bs (adB τ))) g2 ∧ Off ρ 3 g g2) q.1 (fun g2 a b => ⟨a, q.2.tr b⟩)) ?_
          refine r_iinc1 (pc := 56) dX4_readS_56 rfl (Nat.le_of_ble_eq_true rfl) rfl ?_
          dsimp only [lset]
          refine r_goto (pc := 59) 7 dX4_readS_59 (by decide) ?_
          rw [nI_s, show 50 - (n + 1) + 1 = 50 - n by omega]
          exact aw_dr 3 rfl (ih _ (by omega) hP)
        · skip
          have n19 := isB_no (b2i_0.mp c19)
          refine r_aload_n (pc := 22) dX4_readS_22 rfl ?_
          refine r_bipush (pc := 23) (v := 45) dX4_readS_23 (by decide) ?_
          refine r_Vi (pc := 25) (μ' := mX4_nextIs) dX4_readS_25 nX4_65 iX4_nextIs vX4_nextIs kX4_nextIs rfl rfl (rr (by omega) rfl) rfl ⟨Nat.zero_le _, Nat.zero_le _⟩ (fun g' q => ct_Rd_nextIs q.1 q) ?_
          refine r_if_eq (pc := 28) 62 dX4_readS_28 (by decide) (fun c28 => ?_) (fun c28 => ?_)
          · skip
            have n28 := isB_no (b2i_0.mp c28)
            rw [hno (fun q => by
              have m := q.2
              simp only [List.mem_cons, List.not_mem_nil, or_false] at m
              rcases m with m | m
              · exact n19 ⟨q.1, m⟩
              · exact n28 ⟨q.1, m⟩)] at hP
            refine r_return (pc := 62) dX4_readS_62 rfl ⟨Nat.zero_le _, Nat.zero_le _⟩ (fun gE hg => ?_)
            exact ⟨rfl, hP _ hg.1 hg.2⟩
          · skip
            have y := isB_op (b2i_n0.mp c28)
            have yl := nx_lt y.2 (by decide)
            rw [hyes ⟨y.1, by rw [y.2]; decide⟩] at hP
            refine r_aload_n (pc := 31) dX4_readS_31 rfl ?_
            refine r_Vi (pc := 32) (μ' := mX4_next) dX4_readS_32 nX4_56 iX4_next vX4_next kX4_next rfl rfl (rr (by omega) rfl) rfl ⟨Nat.zero_le _, Nat.zero_le _⟩ (fun g' q => ct_Rd_next q.1 q) ?_
            refine r_istore_n (pc := 35) dX4_readS_35 rfl (Nat.le_of_ble_eq_true rfl) rfl ?_
            dsimp only [lset]
            refine r_aload_n (pc := 36) dX4_readS_36 rfl ?_
            refine r_dup (pc := 37) dX4_readS_37 rfl ?_
            refine r_getf (pc := 38) (k := 3) dX4_readS_38 hX4 eX4 (by decide) fX4_27 (fun _ q => q.1.o) rfl ?_
            refine r_iconst (pc := 41) (v := 1) dX4_readS_41 (by decide) ?_
            refine r_iadd (pc := 42) dX4_readS_42 ?_
            refine r_putf (pc := 43) (k := 3) (P' := fun g' => RdAt ρ tp tt use bs (adB τ) g' ∧ Off ρ 3 g g') tyX4 dX4_readS_43 hX4 tyX4_ok nmX4 eX4 (by decide) fX4_27 rfl rfl (fun _ _ => rfl) (fun _ _ => rfl) (Nat.le_of_ble_eq_true rfl) (fun _ q => q.1.o) (fun _ q => ⟨by rw [nI_s]; exact q.1.put yl, q.2.set (by omega) (by omega)⟩) ?_
            refine r_aload_n (pc := 46) dX4_readS_46 rfl ?_
            refine r_iload_n (pc := 47) dX4_readS_47 rfl ?_
            refine r_Vv (pc := 48) (μ' := mX4_readP) dX4_readS_48 nX4_77 iX4_readP vX4_readP kX4_readP rfl rfl (rr (by omega) rfl) rfl ⟨Nat.zero_le _, Nat.zero_le _⟩ (fun g' q => hE ρ tp tt use bs (adB τ) g' (fun g2 => RdAt ρ tp tt use bs (f use bs (adB τ)) g2 ∧ Off ρ 3 g g2) q.1 (fun g2 a b => ⟨a, q.2.tr b⟩)) ?_
            refine r_aload_n (pc := 51) dX4_readS_51 rfl ?_
            refine r_iload_n (pc := 52) dX4_readS_52 rfl ?_
            refine r_Vv (pc := 53) (μ' := mX4_emit) dX4_readS_53 nX4_68 iX4_emit vX4_emit kX4_emit rfl rfl (rr (by omega) rfl) rfl ⟨Nat.zero_le _, Nat.zero_le _⟩ (fun g' q => ct_Rd_emit (P' := fun g2 => RdAt ρ tp tt use bs (emB (nxB bs τ) (f use bs (adB τ))) g2 ∧ Off ρ 3 g g2) q.1 (fun g2 a b => ⟨a, q.2.tr b⟩)) ?_
            refine r_iinc1 (pc := 56) dX4_readS_56 rfl (Nat.le_of_ble_eq_true rfl) rfl ?_
            dsimp only [lset]
            refine r_goto (pc := 59) 7 dX4_readS_59 (by decide) ?_
            rw [nI_s, show 50 - (n + 1) + 1 = 50 - n by omega]
            exact aw_dr 3 rfl (ih _ (by omega) hP)
  refine aw_P (P' := fun g' => RdAt ρ tp tt use bs σ g' ∧ Off ρ 3 g g') (fun g' e => by subst e; exact ⟨hR, Off.rf _ _ _⟩) ?_
  refine r_aload_n (pc := 0) dX4_readS_0 rfl ?_
  refine r_iload_n (pc := 1) dX4_readS_1 rfl ?_
  refine r_Vv (pc := 2) (μ' := mX4_readP) dX4_readS_2 nX4_77 iX4_readP vX4_readP kX4_readP rfl rfl (rr (by omega) rfl) rfl ⟨Nat.zero_le _, Nat.zero_le _⟩ (fun g' q => hE ρ tp tt use bs σ g' (fun g2 => RdAt ρ tp tt use bs (f use bs σ) g2 ∧ Off ρ 3 g g2) q.1 (fun g2 a b => ⟨a, q.2.tr b⟩)) ?_
  refine r_iconst (pc := 5) (v := 0) dX4_readS_5 (by decide) ?_
  refine r_istore_n (pc := 6) dX4_readS_6 rfl (Nat.le_of_ble_eq_true rfl) rfl ?_
  dsimp only [lset]
  exact L 50 _ (Nat.le_refl _) hP
set_option maxHeartbeats 4000000 in
theorem ct_Rd_readP {D : Nat} {op : Int32} {f : Int32 → List Int32 → RS → RS} (hD : 5 ≤ D) (hE : RdC D mX4_readQ [.int op] f) : RdC (D + 1) mX4_readP [.int op] (fun use bs => loopB bs [42, 47, 37] (f use bs)) := by
  intro ρ tp tt use bs σ g P' hR hP
  refine ⟨hR.V, ?_⟩
  refine ct_of (by decide) (fun _ _ => Nat.le_of_ble_eq_true rfl) ?_
  dsimp only [pad, ent]
  have L : ∀ (n : Nat) (τ : RS), n ≤ 50 → (∀ g', RdAt ρ tp tt use bs (chainB bs [42, 47, 37] (f use bs) n τ) g' → Off ρ 3 g g' → P' g') → AW (fun _ => True) (rmd (D + 1) 0 0) mX4_readP 0 0 7 [some (.ref ρ), some (.int op), some (.int (nI (50 - n))), none] [] (fun g' => RdAt ρ tp tt use bs τ g' ∧ Off ρ 3 g g') (fun v g' => v = none ∧ P' g') := by
    intro n
    induction n with
    | zero =>
      intro τ hn hP
      refine r_iload_n (pc := 7) dX4_readP_7 rfl ?_
      refine r_bipush (pc := 8) (v := 50) dX4_readP_8 (by decide) ?_
      refine r_icmp_ge (pc := 10) 71 dX4_readP_10 (by decide) (fun c10 => ?_) (fun c10 => ?_)
      · skip
        refine r_return (pc := 71) dX4_readP_71 rfl ⟨Nat.zero_le _, Nat.zero_le _⟩ (fun gE hg => ?_)
        exact ⟨rfl, hP _ hg.1 hg.2⟩
      · skip
        exact absurd (show (50 : Int32) ≤ nI (50 - 0) by decide) c10
    | succ n ih =>
      intro τ hn hP
      have hT : (nI (50 - (n + 1))).toInt = ((50 - (n + 1) : Nat) : Int) := nI_T (by omega)
      have hno : ¬ (τ.2.1 = true ∧ nxB bs τ ∈ ([42, 47, 37] : List Int32)) → chainB bs [42, 47, 37] (f use bs) (n + 1) τ = τ := fun q => by rw [chainB, if_neg q]
      have hyes : τ.2.1 = true ∧ nxB bs τ ∈ ([42, 47, 37] : List Int32) → chainB bs [42, 47, 37] (f use bs) (n + 1) τ = chainB bs [42, 47, 37] (f use bs) n (emB (nxB bs τ) (f use bs (adB τ))) := fun q => by rw [chainB, if_pos q]
      refine r_iload_n (pc := 7) dX4_readP_7 rfl ?_
      refine r_bipush (pc := 8) (v := 50) dX4_readP_8 (by decide) ?_
      refine r_icmp_ge (pc := 10) 71 dX4_readP_10 (by decide) (fun c10 => ?_) (fun c10 => ?_)
      · skip
        exact absurd (fa_le.mp c10) (by rw [hT, show (50 : Int32).toInt = 50 from rfl]; omega)
      · skip
        refine r_aload_n (pc := 13) dX4_readP_13 rfl ?_
        refine r_bipush (pc := 14) (v := 42) dX4_readP_14 (by decide) ?_
        refine r_Vi (pc := 16) (μ' := mX4_nextIs) dX4_readP_16 nX4_65 iX4_nextIs vX4_nextIs kX4_nextIs rfl rfl (rr (by omega) rfl) rfl ⟨Nat.zero_le _, Nat.zero_le _⟩ (fun g' q => ct_Rd_nextIs q.1 q) ?_
        refine r_if_ne (pc := 19) 40 dX4_readP_19 (by decide) (fun c19 => ?_) (fun c19 => ?_)
        · skip
          have y := isB_op (b2i_n0.mp c19)
          have yl := nx_lt y.2 (by decide)
          rw [hyes ⟨y.1, by rw [y.2]; decide⟩] at hP
          refine r_aload_n (pc := 40) dX4_readP_40 rfl ?_
          refine r_Vi (pc := 41) (μ' := mX4_next) dX4_readP_41 nX4_56 iX4_next vX4_next kX4_next rfl rfl (rr (by omega) rfl) rfl ⟨Nat.zero_le _, Nat.zero_le _⟩ (fun g' q => ct_Rd_next q.1 q) ?_
          refine r_istore_n (pc := 44) dX4_readP_44 rfl (Nat.le_of_ble_eq_true rfl) rfl ?_
          dsimp only [lset]
          refine r_aload_n (pc := 45) dX4_readP_45 rfl ?_
          refine r_dup (pc := 46) dX4_readP_46 rfl ?_
          refine r_getf (pc := 47) (k := 3) dX4_readP_47 hX4 eX4 (by decide) fX4_27 (fun _ q => q.1.o) rfl ?_
          refine r_iconst (pc := 50) (v := 1) dX4_readP_50 (by decide) ?_
          refine r_iadd (pc := 51) dX4_readP_51 ?_
          refine r_putf (pc := 52) (k := 3) (P' := fun g' => RdAt ρ tp tt use bs (adB τ) g' ∧ Off ρ 3 g g') tyX4 dX4_readP_52 hX4 tyX4_ok nmX4 eX4 (by decide) fX4_27 rfl rfl (fun _ _ => rfl) (fun _ _ => rfl) (Nat.le_of_ble_eq_true rfl) (fun _ q => q.1.o) (fun _ q => ⟨by rw [nI_s]; exact q.1.put yl, q.2.set (by omega) (by omega)⟩) ?_
          refine r_aload_n (pc := 55) dX4_readP_55 rfl ?_
          refine r_iload_n (pc := 56) dX4_readP_56 rfl ?_
          refine r_Vv (pc := 57) (μ' := mX4_readQ) dX4_readP_57 nX4_80 iX4_readQ vX4_readQ kX4_readQ rfl rfl (rr (by omega) rfl) rfl ⟨Nat.zero_le _, Nat.zero_le _⟩ (fun g' q => hE ρ tp tt use bs (adB τ) g' (fun g2 => RdAt ρ tp tt use bs (f use bs (adB τ)) g2 ∧ Off ρ 3 g g2) q.1 (fun g2 a b => ⟨a, q.2.tr b⟩)) ?_
          refine r_aload_n (pc := 60) dX4_readP_60 rfl ?_
          refine r_iload_n (pc := 61) dX4_readP_61 rfl ?_
          refine r_Vv (pc := 62) (μ' := mX4_emit) dX4_readP_62 nX4_68 iX4_emit vX4_emit kX4_emit rfl rfl (rr (by omega) rfl) rfl ⟨Nat.zero_le _, Nat.zero_le _⟩ (fun g' q => ct_Rd_emit (P' := fun g2 => RdAt ρ tp tt use bs (emB (nxB bs τ) (f use bs (adB τ))) g2 ∧ Off ρ 3 g g2) q.1 (fun g2 a b => ⟨a, q.2.tr b⟩)) ?_
          refine r_iinc1 (pc := 65) dX4_readP_65 rfl (Nat.le_of_ble_eq_true rfl) rfl ?_
          dsimp only [lset]
          refine r_goto (pc := 68) 7 dX4_readP_68 (by decide) ?_
          rw [nI_s, show 50 - (n + 1) + 1 = 50 - n by omega]
          exact aw_dr 3 rfl (ih _ (by omega) hP)
        · skip
          have n19 := isB_no (b2i_0.mp c19)
          refine r_aload_n (pc := 22) dX4_readP_22 rfl ?_
          refine r_bipush (pc := 23) (v := 47) dX4_readP_23 (by decide) ?_
          refine r_Vi (pc := 25) (μ' := mX4_nextIs) dX4_readP_25 nX4_65 iX4_nextIs vX4_nextIs kX4_nextIs rfl rfl (rr (by omega) rfl) rfl ⟨Nat.zero_le _, Nat.zero_le _⟩ (fun g' q => ct_Rd_nextIs q.1 q) ?_
          refine r_if_ne (pc := 28) 40 dX4_readP_28 (by decide) (fun c28 => ?_) (fun c28 => ?_)
          · skip
            have y := isB_op (b2i_n0.mp c28)
            have yl := nx_lt y.2 (by decide)
            rw [hyes ⟨y.1, by rw [y.2]; decide⟩] at hP
            refine r_aload_n (pc := 40) dX4_readP_40 rfl ?_
            refine r_Vi (pc := 41) (μ' := mX4_next) dX4_readP_41 nX4_56 iX4_next vX4_next kX4_next rfl rfl (rr (by omega) rfl) rfl ⟨Nat.zero_le _, Nat.zero_le _⟩ (fun g' q => ct_Rd_next q.1 q) ?_
            refine r_istore_n (pc := 44) dX4_readP_44 rfl (Nat.le_of_ble_eq_true rfl) rfl ?_
            dsimp only [lset]
            refine r_aload_n (pc := 45) dX4_readP_45 rfl ?_
            refine r_dup (pc := 46) dX4_readP_46 rfl ?_
            refine r_getf (pc := 47) (k := 3) dX4_readP_47 hX4 eX4 (by decide) fX4_27 (fun _ q => q.1.o) rfl ?_
            refine r_iconst (pc := 50) (v := 1) dX4_readP_50 (by decide) ?_
            refine r_iadd (pc := 51) dX4_readP_51 ?_
            refine r_putf (pc := 52) (k := 3) (P' := fun g' => RdAt ρ tp tt use bs (adB τ) g' ∧ Off ρ 3 g g') tyX4 dX4_readP_52 hX4 tyX4_ok nmX4 eX4 (by decide) fX4_27 rfl rfl (fun _ _ => rfl) (fun _ _ => rfl) (Nat.le_of_ble_eq_true rfl) (fun _ q => q.1.o) (fun _ q => ⟨by rw [nI_s]; exact q.1.put yl, q.2.set (by omega) (by omega)⟩) ?_
            refine r_aload_n (pc := 55) dX4_readP_55 rfl ?_
            refine r_iload_n (pc := 56) dX4_readP_56 rfl ?_
            refine r_Vv (pc := 57) (μ' := mX4_readQ) dX4_readP_57 nX4_80 iX4_readQ vX4_readQ kX4_readQ rfl rfl (rr (by omega) rfl) rfl ⟨Nat.zero_le _, Nat.zero_le _⟩ (fun g' q => hE ρ tp tt use bs (adB τ) g' (fun g2 => RdAt ρ tp tt use bs (f use bs (adB τ)) g2 ∧ Off ρ 3 g g2) q.1 (fun g2 a b => ⟨a, q.2.tr b⟩)) ?_
            refine r_aload_n (pc := 60) dX4_readP_60 rfl ?_
            refine r_iload_n (pc := 61) dX4_readP_61 rfl ?_
            refine r_Vv (pc := 62) (μ' := mX4_emit) dX4_readP_62 nX4_68 iX4_emit vX4_emit kX4_emit rfl rfl (rr (by omega) rfl) rfl ⟨Nat.zero_le _, Nat.zero_le _⟩ (fun g' q => ct_Rd_emit (P' := fun g2 => RdAt ρ tp tt use bs (emB (nxB bs τ) (f use bs (adB τ))) g2 ∧ Off ρ 3 g g2) q.1 (fun g2 a b => ⟨a, q.2.tr b⟩)) ?_
            refine r_iinc1 (pc := 65) dX4_readP_65 rfl (Nat.le_of_ble_eq_true rfl) rfl ?_
            dsimp only [lset]
            refine r_goto (pc := 68) 7 dX4_readP_68 (by decide) ?_
            rw [nI_s, show 50 - (n + 1) + 1 = 50 - n by omega]
            exact aw_dr 3 rfl (ih _ (by omega) hP)
          · skip
            have n28 := isB_no (b2i_0.mp c28)
            refine r_aload_n (pc := 31) dX4_readP_31 rfl ?_
            refine r_bipush (pc := 32) (v := 37) dX4_readP_32 (by decide) ?_
            refine r_Vi (pc := 34) (μ' := mX4_nextIs) dX4_readP_34 nX4_65 iX4_nextIs vX4_nextIs kX4_nextIs rfl rfl (rr (by omega) rfl) rfl ⟨Nat.zero_le _, Nat.zero_le _⟩ (fun g' q => ct_Rd_nextIs q.1 q) ?_
            refine r_if_eq (pc := 37) 71 dX4_readP_37 (by decide) (fun c37 => ?_) (fun c37 => ?_)
            · skip
              have n37 := isB_no (b2i_0.mp c37)
              rw [hno (fun q => by
                have m := q.2
                simp only [List.mem_cons, List.not_mem_nil, or_false] at m
                rcases m with m | m | m
                · exact n19 ⟨q.1, m⟩
                · exact n28 ⟨q.1, m⟩
                · exact n37 ⟨q.1, m⟩)] at hP
              refine r_return (pc := 71) dX4_readP_71 rfl ⟨Nat.zero_le _, Nat.zero_le _⟩ (fun gE hg => ?_)
              exact ⟨rfl, hP _ hg.1 hg.2⟩
            · skip
              have y := isB_op (b2i_n0.mp c37)
              have yl := nx_lt y.2 (by decide)
              rw [hyes ⟨y.1, by rw [y.2]; decide⟩] at hP
              refine r_aload_n (pc := 40) dX4_readP_40 rfl ?_
              refine r_Vi (pc := 41) (μ' := mX4_next) dX4_readP_41 nX4_56 iX4_next vX4_next kX4_next rfl rfl (rr (by omega) rfl) rfl ⟨Nat.zero_le _, Nat.zero_le _⟩ (fun g' q => ct_Rd_next q.1 q) ?_
              refine r_istore_n (pc := 44) dX4_readP_44 rfl (Nat.le_of_ble_eq_true rfl) rfl ?_
              dsimp only [lset]
              refine r_aload_n (pc := 45) dX4_readP_45 rfl ?_
              refine r_dup (pc := 46) dX4_readP_46 rfl ?_
              refine r_getf (pc := 47) (k := 3) dX4_readP_47 hX4 eX4 (by decide) fX4_27 (fun _ q => q.1.o) rfl ?_
              refine r_iconst (pc := 50) (v := 1) dX4_readP_50 (by decide) ?_
              refine r_iadd (pc := 51) dX4_readP_51 ?_
              refine r_putf (pc := 52) (k := 3) (P' := fun g' => RdAt ρ tp tt use bs (adB τ) g' ∧ Off ρ 3 g g') tyX4 dX4_readP_52 hX4 tyX4_ok nmX4 eX4 (by decide) fX4_27 rfl rfl (fun _ _ => rfl) (fun _ _ => rfl) (Nat.le_of_ble_eq_true rfl) (fun _ q => q.1.o) (fun _ q => ⟨by rw [nI_s]; exact q.1.put yl, q.2.set (by omega) (by omega)⟩) ?_
              refine r_aload_n (pc := 55) dX4_readP_55 rfl ?_
              refine r_iload_n (pc := 56) dX4_readP_56 rfl ?_
              refine r_Vv (pc := 57) (μ' := mX4_readQ) dX4_readP_57 nX4_80 iX4_readQ vX4_readQ kX4_readQ rfl rfl (rr (by omega) rfl) rfl ⟨Nat.zero_le _, Nat.zero_le _⟩ (fun g' q => hE ρ tp tt use bs (adB τ) g' (fun g2 => RdAt ρ tp tt use bs (f use bs (adB τ)) g2 ∧ Off ρ 3 g g2) q.1 (fun g2 a b => ⟨a, q.2.tr b⟩)) ?_
              refine r_aload_n (pc := 60) dX4_readP_60 rfl ?_
              refine r_iload_n (pc := 61) dX4_readP_61 rfl ?_
              refine r_Vv (pc := 62) (μ' := mX4_emit) dX4_readP_62 nX4_68 iX4_emit vX4_emit kX4_emit rfl rfl (rr (by omega) rfl) rfl ⟨Nat.zero_le _, Nat.zero_le _⟩ (fun g' q => ct_Rd_emit (P' := fun g2 => RdAt ρ tp tt use bs (emB (nxB bs τ) (f use bs (adB τ))) g2 ∧ Off ρ 3 g g2) q.1 (fun g2 a b => ⟨a, q.2.tr b⟩)) ?_
              refine r_iinc1 (pc := 65) dX4_readP_65 rfl (Nat.le_of_ble_eq_true rfl) rfl ?_
              dsimp only [lset]
              refine r_goto (pc := 68) 7 dX4_readP_68 (by decide) ?_
              rw [nI_s, show 50 - (n + 1) + 1 = 50 - n by omega]
              exact aw_dr 3 rfl (ih _ (by omega) hP)
  refine aw_P (P' := fun g' => RdAt ρ tp tt use bs σ g' ∧ Off ρ 3 g g') (fun g' e => by subst e; exact ⟨hR, Off.rf _ _ _⟩) ?_
  refine r_aload_n (pc := 0) dX4_readP_0 rfl ?_
  refine r_iload_n (pc := 1) dX4_readP_1 rfl ?_
  refine r_Vv (pc := 2) (μ' := mX4_readQ) dX4_readP_2 nX4_80 iX4_readQ vX4_readQ kX4_readQ rfl rfl (rr (by omega) rfl) rfl ⟨Nat.zero_le _, Nat.zero_le _⟩ (fun g' q => hE ρ tp tt use bs σ g' (fun g2 => RdAt ρ tp tt use bs (f use bs σ) g2 ∧ Off ρ 3 g g2) q.1 (fun g2 a b => ⟨a, q.2.tr b⟩)) ?_
  refine r_iconst (pc := 5) (v := 0) dX4_readP_5 (by decide) ?_
  refine r_istore_n (pc := 6) dX4_readP_6 rfl (Nat.le_of_ble_eq_true rfl) rfl ?_
  dsimp only [lset]
  exact L 50 _ (Nat.le_refl _) hP
end
section
/-! texts are read, further: the compared, the factor, the whole -/
set_option maxHeartbeats 4000000 in
theorem ct_Rd_readB {D : Nat} {op : Int32} {f : Int32 → List Int32 → RS → RS} (hD : 5 ≤ D) (hE : RdC D mX4_readS [.int op] f) : RdC (D + 1) mX4_readB [.int op] (fun use bs => cmpB bs (f use bs)) := by
  intro ρ tp tt use bs σ g P' hR hP
  refine ⟨hR.V, ?_⟩
  refine ct_of (by decide) (fun _ _ => Nat.le_of_ble_eq_true rfl) ?_
  dsimp only [pad, ent]
  unfold cmpB at hP
  dsimp only at hP
  obtain ⟨τ, hτ⟩ : ∃ τ, τ = f use bs σ := ⟨_, rfl⟩
  rw [← hτ] at hP
  have Y : τ.2.1 = true → (nxB bs τ = 60 ∨ nxB bs τ = 61 ∨ nxB bs τ = 62) → AW (fun _ => True) (rmd (D + 1) 0 0) mX4_readB 0 0 37 [some (.ref ρ), some (.int op), some (.int (nxB bs τ))] [] (fun g' => RdAt ρ tp tt use bs τ g' ∧ Off ρ 3 g g') (fun v g' => v = none ∧ P' g') := by
    intro y1 y2
    have yl : τ.1 < bs.length := nx_lt (c := nxB bs τ) rfl (fun q => by rw [q] at y2; revert y2; decide)
    rw [if_pos ⟨y1, by simp only [List.mem_cons, List.not_mem_nil, or_false]; exact y2⟩] at hP
    refine r_aload_n (pc := 37) dX4_readB_37 rfl ?_
    refine r_dup (pc := 38) dX4_readB_38 rfl ?_
    refine r_getf (pc := 39) (k := 3) dX4_readB_39 hX4 eX4 (by decide) fX4_27 (fun _ q => q.1.o) rfl ?_
    refine r_iconst (pc := 42) (v := 1) dX4_readB_42 (by decide) ?_
    refine r_iadd (pc := 43) dX4_readB_43 ?_
    refine r_putf (pc := 44) (k := 3) (P' := fun g' => RdAt ρ tp tt use bs (adB τ) g' ∧ Off ρ 3 g g') tyX4 dX4_readB_44 hX4 tyX4_ok nmX4 eX4 (by decide) fX4_27 rfl rfl (fun _ _ => rfl) (fun _ _ => rfl) (Nat.le_of_ble_eq_true rfl) (fun _ q => q.1.o) (fun _ q => ⟨by rw [nI_s]; exact q.1.put yl, q.2.set (by omega) (by omega)⟩) ?_
    refine r_aload_n (pc := 47) dX4_readB_47 rfl ?_
    refine r_iload_n (pc := 48) dX4_readB_48 rfl ?_
    refine r_Vv (pc := 49) (μ' := mX4_readS) dX4_readB_49 nX4_74 iX4_readS vX4_readS kX4_readS rfl rfl (rr (by omega) rfl) rfl ⟨Nat.zero_le _, Nat.zero_le _⟩ (fun g' q => hE ρ tp tt use bs (adB τ) g' (fun g2 => RdAt ρ tp tt use bs (f use bs (adB τ)) g2 ∧ Off ρ 3 g g2) q.1 (fun g2 a b => ⟨a, q.2.tr b⟩)) ?_
    refine r_aload_n (pc := 52) dX4_readB_52 rfl ?_
    refine r_iload_n (pc := 53) dX4_readB_53 rfl ?_
    refine r_Vv (pc := 54) (μ' := mX4_emit) dX4_readB_54 nX4_68 iX4_emit vX4_emit kX4_emit rfl rfl (rr (by omega) rfl) rfl ⟨Nat.zero_le _, Nat.zero_le _⟩ (fun g' q => ct_Rd_emit q.1 (fun g2 a b => hP g2 a (q.2.tr b))) ?_
    refine r_return (pc := 57) dX4_readB_57 rfl ⟨Nat.zero_le _, Nat.zero_le _⟩ (fun gE hg => ?_)
    exact ⟨rfl, hg⟩
  refine aw_P (P' := fun g' => RdAt ρ tp tt use bs σ g' ∧ Off ρ 3 g g') (fun g' e => by subst e; exact ⟨hR, Off.rf _ _ _⟩) ?_
  refine r_aload_n (pc := 0) dX4_readB_0 rfl ?_
  refine r_iload_n (pc := 1) dX4_readB_1 rfl ?_
  refine r_Vv (pc := 2) (μ' := mX4_readS) dX4_readB_2 nX4_74 iX4_readS vX4_readS kX4_readS rfl rfl (rr (by omega) rfl) rfl ⟨Nat.zero_le _, Nat.zero_le _⟩ (fun g' q => hE ρ tp tt use bs σ g' (fun g2 => RdAt ρ tp tt use bs τ g2 ∧ Off ρ 3 g g2) q.1 (fun g2 a b => ⟨by rw [hτ]; exact a, q.2.tr b⟩)) ?_
  refine r_aload_n (pc := 5) dX4_readB_5 rfl ?_
  refine r_Vi (pc := 6) (μ' := mX4_next) dX4_readB_6 nX4_56 iX4_next vX4_next kX4_next rfl rfl (rr (by omega) rfl) rfl ⟨Nat.zero_le _, Nat.zero_le _⟩ (fun g' q => ct_Rd_next q.1 q) ?_
  refine r_istore_n (pc := 9) dX4_readB_9 rfl (Nat.le_of_ble_eq_true rfl) rfl ?_
  dsimp only [lset]
  refine r_aload_n (pc := 10) dX4_readB_10 rfl ?_
  refine r_bipush (pc := 11) (v := 60) dX4_readB_11 (by decide) ?_
  refine r_Vi (pc := 13) (μ' := mX4_nextIs) dX4_readB_13 nX4_65 iX4_nextIs vX4_nextIs kX4_nextIs rfl rfl (rr (by omega) rfl) rfl ⟨Nat.zero_le _, Nat.zero_le _⟩ (fun g' q => ct_Rd_nextIs q.1 q) ?_
  refine r_if_ne (pc := 16) 37 dX4_readB_16 (by decide) (fun c16 => ?_) (fun c16 => ?_)
  · skip
    exact Y (isB_op (b2i_n0.mp c16)).1 (Or.inl (isB_op (b2i_n0.mp c16)).2)
  · skip
    have n16 := isB_no (b2i_0.mp c16)
    refine r_aload_n (pc := 19) dX4_readB_19 rfl ?_
    refine r_bipush (pc := 20) (v := 61) dX4_readB_20 (by decide) ?_
    refine r_Vi (pc := 22) (μ' := mX4_nextIs) dX4_readB_22 nX4_65 iX4_nextIs vX4_nextIs kX4_nextIs rfl rfl (rr (by omega) rfl) rfl ⟨Nat.zero_le _, Nat.zero_le _⟩ (fun g' q => ct_Rd_nextIs q.1 q) ?_
    refine r_if_ne (pc := 25) 37 dX4_readB_25 (by decide) (fun c25 => ?_) (fun c25 => ?_)
    · skip
      exact Y (isB_op (b2i_n0.mp c25)).1 (Or.inr (Or.inl (isB_op (b2i_n0.mp c25)).2))
    · skip
      have n25 := isB_no (b2i_0.mp c25)
      refine r_aload_n (pc := 28) dX4_readB_28 rfl ?_
      refine r_bipush (pc := 29) (v := 62) dX4_readB_29 (by decide) ?_
      refine r_Vi (pc := 31) (μ' := mX4_nextIs) dX4_readB_31 nX4_65 iX4_nextIs vX4_nextIs kX4_nextIs rfl rfl (rr (by omega) rfl) rfl ⟨Nat.zero_le _, Nat.zero_le _⟩ (fun g' q => ct_Rd_nextIs q.1 q) ?_
      refine r_if_eq (pc := 34) 57 dX4_readB_34 (by decide) (fun c34 => ?_) (fun c34 => ?_)
      · skip
        have n34 := isB_no (b2i_0.mp c34)
        rw [if_neg (fun q => by
          have m := q.2
          simp only [List.mem_cons, List.not_mem_nil, or_false] at m
          rcases m with m | m | m
          · exact n16 ⟨q.1, m⟩
          · exact n25 ⟨q.1, m⟩
          · exact n34 ⟨q.1, m⟩)] at hP
        refine r_return (pc := 57) dX4_readB_57 rfl ⟨Nat.zero_le _, Nat.zero_le _⟩ (fun gE hg => ?_)
        exact ⟨rfl, hP _ hg.1 hg.2⟩
      · skip
        exact Y (isB_op (b2i_n0.mp c34)).1 (Or.inr (Or.inr (isB_op (b2i_n0.mp c34)).2))
theorem ct_Rd_all {D : Nat} {op : Int32} {f : Int32 → List Int32 → RS → RS} (hD : 5 ≤ D) (hE : RdC D mX4_readQ [.int op] f) : RdC (D + 5) mX4_readT [.int op] (fun use bs => allB bs (f use bs)) :=
  ct_Rd_readT (by omega) (ct_Rd_readA (by omega) (ct_Rd_readB (by omega) (ct_Rd_readS (by omega) (ct_Rd_readP hD hE))))
set_option maxHeartbeats 8000000 in
theorem ct_Rd_readQ : ∀ d, d ≤ 5 → RdC (10 + 6 * d) mX4_readQ [.int (nI (5 - d))] (fun use bs => facB use bs d) := by
  intro d
  induction d with
  | zero =>
    intro hd ρ tp tt use bs σ g P' hR hP
    refine ⟨hR.V, ?_⟩
    refine ct_of (by decide) (fun _ _ => Nat.le_of_ble_eq_true rfl) ?_
    dsimp only [pad, ent]
    dsimp only at hP
    rw [facB] at hP
    refine aw_P (P' := fun g' => RdAt ρ tp tt use bs σ g' ∧ Off ρ 3 g g') (fun g' e => by subst e; exact ⟨hR, Off.rf _ _ _⟩) ?_
    refine r_aload_n (pc := 0) dX4_readQ_0 rfl ?_
    refine r_Vi (pc := 1) (μ' := mX4_next) dX4_readQ_1 nX4_56 iX4_next vX4_next kX4_next rfl rfl (rr (by omega) rfl) rfl ⟨Nat.zero_le _, Nat.zero_le _⟩ (fun g' q => ct_Rd_next q.1 q) ?_
    refine r_istore_n (pc := 4) dX4_readQ_4 rfl (Nat.le_of_ble_eq_true rfl) rfl ?_
    dsimp only [lset]
    refine r_aload_n (pc := 5) dX4_readQ_5 rfl ?_
    refine r_getf (pc := 6) (k := 4) dX4_readQ_6 hX4 eX4 (by decide) fX4_31 (fun _ q => q.1.o) rfl ?_
    refine r_if_ne (pc := 9) 13 dX4_readQ_9 (by decide) (fun c9 => ?_) (fun c9 => ?_)
    · skip
      have k9 := b2i_n0.mp c9
      rw [if_neg (by rw [k9]; decide)] at hP
      refine r_iload_n (pc := 13) dX4_readQ_13 rfl ?_
      refine r_Sp (pc := 14) (μ' := mX4_isDigit) dX4_readQ_14 nX4_83 sX4_isDigit kX4_isDigit rfl rfl (rr (by omega) rfl) rfl ⟨Nat.zero_le _, Nat.zero_le _⟩ (fun h => ct_Rd_isDigit h) ?_
      refine r_if_eq (pc := 17) 27 dX4_readQ_17 (by decide) (fun c17 => ?_) (fun c17 => ?_)
      · skip
        have k17 := b2i_0.mp c17
        rw [if_neg (by rw [k17]; decide)] at hP
        refine r_aload_n (pc := 27) dX4_readQ_27 rfl ?_
        refine r_getf (pc := 28) (k := 2) dX4_readQ_28 hX4 eX4 (by decide) fX4_23 (fun _ q => q.1.o) rfl ?_
        refine r_ifnull (pc := 31) dX4_readQ_31 ?_
        refine r_aload_n (pc := 34) dX4_readQ_34 rfl ?_
        refine r_getf (pc := 35) (k := 2) dX4_readQ_35 hX4 eX4 (by decide) fX4_23 (fun _ q => q.1.o) rfl ?_
        refine r_iload_n (pc := 38) dX4_readQ_38 rfl ?_
        refine r_Vi (pc := 39) (μ' := mX8_nameOf) dX4_readQ_39 nX4_89 iX8_nameOf vX8_nameOf kX8_nameOf rfl rfl (rr (by omega) rfl) rfl ⟨Nat.zero_le _, Nat.zero_le _⟩ (fun g' q => ct_Text_nameOf q.1.2.2.2.2.1.choose_spec q) ?_
        refine r_if_lt (pc := 42) 78 dX4_readQ_42 (by decide) (fun c42 => ?_) (fun c42 => ?_)
        · skip
          rw [if_neg (Int32.not_le.mpr c42)] at hP
          refine r_iload_n (pc := 78) dX4_readQ_78 rfl ?_
          refine r_bipush (pc := 79) (v := 33) dX4_readQ_79 (by decide) ?_
          refine r_icmp_ne (pc := 81) 115 dX4_readQ_81 (by decide) (fun c81 => ?_) (fun c81 => ?_)
          · skip
            refine r_iload_n (pc := 115) dX4_readQ_115 rfl ?_
            refine r_bipush (pc := 116) (v := 40) dX4_readQ_116 (by decide) ?_
            refine r_icmp_ne (pc := 118) 173 dX4_readQ_118 (by decide) (fun c118 => ?_) (fun c118 => ?_)
            · skip
              refine r_aload_n (pc := 173) dX4_readQ_173 rfl ?_
              refine r_iconst (pc := 174) (v := 0) dX4_readQ_174 (by decide) ?_
              refine r_putf (pc := 175) (k := 4) (P' := fun g' => RdAt ρ tp tt use bs (flB σ) g' ∧ Off ρ 3 g g') tyX4 dX4_readQ_175 hX4 tyX4_ok nmX4 eX4 (by decide) fX4_31 rfl rfl (fun _ _ => rfl) (fun _ _ => rfl) (Nat.le_of_ble_eq_true rfl) (fun _ q => q.1.o) (fun _ q => ⟨q.1.put (f := false) q.1.2.2.2.2.2.1, q.2.set (by omega) (by omega)⟩) ?_
              refine r_return (pc := 178) dX4_readQ_178 rfl ⟨Nat.zero_le _, Nat.zero_le _⟩ (fun gE hg => ?_)
              first
              | exact ⟨rfl, hg⟩
              | exact ⟨rfl, hP _ hg.1 hg.2⟩
            · skip
              refine r_iload_n (pc := 121) dX4_readQ_121 rfl ?_
              refine r_iconst (pc := 122) (v := 5) dX4_readQ_122 (by decide) ?_
              refine r_icmp_ge (pc := 123) 173 dX4_readQ_123 (by decide) (fun c123 => ?_) (fun c123 => ?_)
              · skip
                refine r_aload_n (pc := 173) dX4_readQ_173 rfl ?_
                refine r_iconst (pc := 174) (v := 0) dX4_readQ_174 (by decide) ?_
                refine r_putf (pc := 175) (k := 4) (P' := fun g' => RdAt ρ tp tt use bs (flB σ) g' ∧ Off ρ 3 g g') tyX4 dX4_readQ_175 hX4 tyX4_ok nmX4 eX4 (by decide) fX4_31 rfl rfl (fun _ _ => rfl) (fun _ _ => rfl) (Nat.le_of_ble_eq_true rfl) (fun _ q => q.1.o) (fun _ q => ⟨q.1.put (f := false) q.1.2.2.2.2.2.1, q.2.set (by omega) (by omega)⟩) ?_
                refine r_return (pc := 178) dX4_readQ_178 rfl ⟨Nat.zero_le _, Nat.zero_le _⟩ (fun gE hg => ?_)
                first
                | exact ⟨rfl, hg⟩
                | exact ⟨rfl, hP _ hg.1 hg.2⟩
              · skip
                exact absurd (show (5 : Int32) ≤ nI (5 - 0) by decide) c123
          · skip
            refine r_iload_n (pc := 84) dX4_readQ_84 rfl ?_
            refine r_iconst (pc := 85) (v := 5) dX4_readQ_85 (by decide) ?_
            refine r_icmp_ge (pc := 86) 115 dX4_readQ_86 (by decide) (fun c86 => ?_) (fun c86 => ?_)
            · skip
              refine r_iload_n (pc := 115) dX4_readQ_115 rfl ?_
              refine r_bipush (pc := 116) (v := 40) dX4_readQ_116 (by decide) ?_
              refine r_icmp_ne (pc := 118) 173 dX4_readQ_118 (by decide) (fun c118 => ?_) (fun c118 => ?_)
              · skip
                refine r_aload_n (pc := 173) dX4_readQ_173 rfl ?_
                refine r_iconst (pc := 174) (v := 0) dX4_readQ_174 (by decide) ?_
                refine r_putf (pc := 175) (k := 4) (P' := fun g' => RdAt ρ tp tt use bs (flB σ) g' ∧ Off ρ 3 g g') tyX4 dX4_readQ_175 hX4 tyX4_ok nmX4 eX4 (by decide) fX4_31 rfl rfl (fun _ _ => rfl) (fun _ _ => rfl) (Nat.le_of_ble_eq_true rfl) (fun _ q => q.1.o) (fun _ q => ⟨q.1.put (f := false) q.1.2.2.2.2.2.1, q.2.set (by omega) (by omega)⟩) ?_
                refine r_return (pc := 178) dX4_readQ_178 rfl ⟨Nat.zero_le _, Nat.zero_le _⟩ (fun gE hg => ?_)
                first
                | exact ⟨rfl, hg⟩
                | exact ⟨rfl, hP _ hg.1 hg.2⟩
              · skip
                refine r_iload_n (pc := 121) dX4_readQ_121 rfl ?_
                refine r_iconst (pc := 122) (v := 5) dX4_readQ_122 (by decide) ?_
                refine r_icmp_ge (pc := 123) 173 dX4_readQ_123 (by decide) (fun c123 => ?_) (fun c123 => ?_)
                · skip
                  refine r_aload_n (pc := 173) dX4_readQ_173 rfl ?_
                  refine r_iconst (pc := 174) (v := 0) dX4_readQ_174 (by decide) ?_
                  refine r_putf (pc := 175) (k := 4) (P' := fun g' => RdAt ρ tp tt use bs (flB σ) g' ∧ Off ρ 3 g g') tyX4 dX4_readQ_175 hX4 tyX4_ok nmX4 eX4 (by decide) fX4_31 rfl rfl (fun _ _ => rfl) (fun _ _ => rfl) (Nat.le_of_ble_eq_true rfl) (fun _ q => q.1.o) (fun _ q => ⟨q.1.put (f := false) q.1.2.2.2.2.2.1, q.2.set (by omega) (by omega)⟩) ?_
                  refine r_return (pc := 178) dX4_readQ_178 rfl ⟨Nat.zero_le _, Nat.zero_le _⟩ (fun gE hg => ?_)
                  first
                  | exact ⟨rfl, hg⟩
                  | exact ⟨rfl, hP _ hg.1 hg.2⟩
                · skip
                  exact absurd (show (5 : Int32) ≤ nI (5 - 0) by decide) c123
            · skip
              exact absurd (show (5 : Int32) ≤ nI (5 - 0) by decide) c86
        · skip
          have k42 : 0 ≤ nameI use (nxB bs σ) := Int32.not_lt.mp c42
          have yl := name_lt k42
          rw [if_pos k42] at hP
          refine r_aload_n (pc := 45) dX4_readQ_45 rfl ?_
          refine r_dup (pc := 46) dX4_readQ_46 rfl ?_
          refine r_getf (pc := 47) (k := 3) dX4_readQ_47 hX4 eX4 (by decide) fX4_27 (fun _ q => q.1.o) rfl ?_
          refine r_iconst (pc := 50) (v := 1) dX4_readQ_50 (by decide) ?_
          refine r_iadd (pc := 51) dX4_readQ_51 ?_
          refine r_putf (pc := 52) (k := 3) (P' := fun g' => RdAt ρ tp tt use bs (adB σ) g' ∧ Off ρ 3 g g') tyX4 dX4_readQ_52 hX4 tyX4_ok nmX4 eX4 (by decide) fX4_27 rfl rfl (fun _ _ => rfl) (fun _ _ => rfl) (Nat.le_of_ble_eq_true rfl) (fun _ q => q.1.o) (fun _ q => ⟨by rw [nI_s]; exact q.1.put yl, q.2.set (by omega) (by omega)⟩) ?_
          refine r_aload_n (pc := 55) dX4_readQ_55 rfl ?_
          refine r_getf (pc := 56) (k := 0) dX4_readQ_56 hX4 eX4 (by decide) fX4_14 (fun _ q => q.1.o) rfl ?_
          refine r_sipush (pc := 59) (v := 10000) dX4_readQ_59 (by decide) ?_
          refine r_aload_n (pc := 62) dX4_readQ_62 rfl ?_
          refine r_getf (pc := 63) (k := 2) dX4_readQ_63 hX4 eX4 (by decide) fX4_23 (fun _ q => q.1.o) rfl ?_
          refine r_iload_n (pc := 66) dX4_readQ_66 rfl ?_
          refine r_Vi (pc := 67) (μ' := mX8_nameOf) dX4_readQ_67 nX4_89 iX8_nameOf vX8_nameOf kX8_nameOf rfl rfl (rr (by omega) rfl) rfl ⟨Nat.zero_le _, Nat.zero_le _⟩ (fun g' q => ct_Text_nameOf q.1.2.2.2.2.1.choose_spec q) ?_
          refine r_iadd (pc := 70) dX4_readQ_70 ?_
          refine r_Vi (pc := 71) (μ' := mX5_add) dX4_readQ_71 nX4_59 iX5_add vX5_add kX5_add rfl rfl (rr (by omega) rfl) rfl ⟨Nat.zero_le _, Nat.zero_le _⟩ (fun g' q => ct_Row_add q.1.2.2.1 (fun g2 a b => hP g2 (q.1.setL a b) (q.2.tr (b.wide (by omega) (by omega))))) ?_
          refine r_pop (pc := 74) dX4_readQ_74 rfl ?_
          refine r_goto (pc := 75) 178 dX4_readQ_75 (by decide) ?_
          refine r_return (pc := 178) dX4_readQ_178 rfl ⟨Nat.zero_le _, Nat.zero_le _⟩ (fun gE hg => ?_)
          first
          | exact ⟨rfl, hg⟩
          | exact ⟨rfl, hP _ hg.1 hg.2⟩
      · skip
        have k17 := b2i_n0.mp c17
        rw [if_pos k17] at hP
        refine r_aload_n (pc := 20) dX4_readQ_20 rfl ?_
        refine r_Vv (pc := 21) (μ' := mX4_readNumber) dX4_readQ_21 nX4_86 iX4_readNumber vX4_readNumber kX4_readNumber rfl rfl (rr (by omega) rfl) rfl ⟨Nat.zero_le _, Nat.zero_le _⟩ (fun g' q => ct_Rd_readNumber q.1 (fun g2 a b => hP g2 a (q.2.tr b))) ?_
        refine r_goto (pc := 24) 178 dX4_readQ_24 (by decide) ?_
        refine r_return (pc := 178) dX4_readQ_178 rfl ⟨Nat.zero_le _, Nat.zero_le _⟩ (fun gE hg => ?_)
        first
        | exact ⟨rfl, hg⟩
        | exact ⟨rfl, hP _ hg.1 hg.2⟩
    · skip
      have k9 := b2i_0.mp c9
      rw [if_pos k9] at hP
      refine r_return (pc := 12) dX4_readQ_12 rfl ⟨Nat.zero_le _, Nat.zero_le _⟩ (fun gE hg => ?_)
      exact ⟨rfl, hP _ hg.1 hg.2⟩
  | succ d ih =>
    intro hd ρ tp tt use bs σ g P' hR hP
    have hT : (nI (5 - (d + 1))).toInt = ((5 - (d + 1) : Nat) : Int) := nI_T (by omega)
    refine ⟨hR.V, ?_⟩
    refine ct_of (by decide) (fun _ _ => Nat.le_of_ble_eq_true rfl) ?_
    dsimp only [pad, ent]
    dsimp only at hP
    rw [facB] at hP
    refine aw_P (P' := fun g' => RdAt ρ tp tt use bs σ g' ∧ Off ρ 3 g g') (fun g' e => by subst e; exact ⟨hR, Off.rf _ _ _⟩) ?_
    refine r_aload_n (pc := 0) dX4_readQ_0 rfl ?_
    refine r_Vi (pc := 1) (μ' := mX4_next) dX4_readQ_1 nX4_56 iX4_next vX4_next kX4_next rfl rfl (rr (by omega) rfl) rfl ⟨Nat.zero_le _, Nat.zero_le _⟩ (fun g' q => ct_Rd_next q.1 q) ?_
    refine r_istore_n (pc := 4) dX4_readQ_4 rfl (Nat.le_of_ble_eq_true rfl) rfl ?_
    dsimp only [lset]
    refine r_aload_n (pc := 5) dX4_readQ_5 rfl ?_
    refine r_getf (pc := 6) (k := 4) dX4_readQ_6 hX4 eX4 (by decide) fX4_31 (fun _ q => q.1.o) rfl ?_
    refine r_if_ne (pc := 9) 13 dX4_readQ_9 (by decide) (fun c9 => ?_) (fun c9 => ?_)
    · skip
      have k9 := b2i_n0.mp c9
      rw [if_neg (by rw [k9]; decide)] at hP
      refine r_iload_n (pc := 13) dX4_readQ_13 rfl ?_
      refine r_Sp (pc := 14) (μ' := mX4_isDigit) dX4_readQ_14 nX4_83 sX4_isDigit kX4_isDigit rfl rfl (rr (by omega) rfl) rfl ⟨Nat.zero_le _, Nat.zero_le _⟩ (fun h => ct_Rd_isDigit h) ?_
      refine r_if_eq (pc := 17) 27 dX4_readQ_17 (by decide) (fun c17 => ?_) (fun c17 => ?_)
      · skip
        have k17 := b2i_0.mp c17
        rw [if_neg (by rw [k17]; decide)] at hP
        refine r_aload_n (pc := 27) dX4_readQ_27 rfl ?_
        refine r_getf (pc := 28) (k := 2) dX4_readQ_28 hX4 eX4 (by decide) fX4_23 (fun _ q => q.1.o) rfl ?_
        refine r_ifnull (pc := 31) dX4_readQ_31 ?_
        refine r_aload_n (pc := 34) dX4_readQ_34 rfl ?_
        refine r_getf (pc := 35) (k := 2) dX4_readQ_35 hX4 eX4 (by decide) fX4_23 (fun _ q => q.1.o) rfl ?_
        refine r_iload_n (pc := 38) dX4_readQ_38 rfl ?_
        refine r_Vi (pc := 39) (μ' := mX8_nameOf) dX4_readQ_39 nX4_89 iX8_nameOf vX8_nameOf kX8_nameOf rfl rfl (rr (by omega) rfl) rfl ⟨Nat.zero_le _, Nat.zero_le _⟩ (fun g' q => ct_Text_nameOf q.1.2.2.2.2.1.choose_spec q) ?_
        refine r_if_lt (pc := 42) 78 dX4_readQ_42 (by decide) (fun c42 => ?_) (fun c42 => ?_)
        · skip
          rw [if_neg (Int32.not_le.mpr c42)] at hP
          refine r_iload_n (pc := 78) dX4_readQ_78 rfl ?_
          refine r_bipush (pc := 79) (v := 33) dX4_readQ_79 (by decide) ?_
          refine r_icmp_ne (pc := 81) 115 dX4_readQ_81 (by decide) (fun c81 => ?_) (fun c81 => ?_)
          · skip
            rw [if_neg c81] at hP
            refine r_iload_n (pc := 115) dX4_readQ_115 rfl ?_
            refine r_bipush (pc := 116) (v := 40) dX4_readQ_116 (by decide) ?_
            refine r_icmp_ne (pc := 118) 173 dX4_readQ_118 (by decide) (fun c118 => ?_) (fun c118 => ?_)
            · skip
              rw [if_neg c118] at hP
              refine r_aload_n (pc := 173) dX4_readQ_173 rfl ?_
              refine r_iconst (pc := 174) (v := 0) dX4_readQ_174 (by decide) ?_
              refine r_putf (pc := 175) (k := 4) (P' := fun g' => RdAt ρ tp tt use bs (flB σ) g' ∧ Off ρ 3 g g') tyX4 dX4_readQ_175 hX4 tyX4_ok nmX4 eX4 (by decide) fX4_31 rfl rfl (fun _ _ => rfl) (fun _ _ => rfl) (Nat.le_of_ble_eq_true rfl) (fun _ q => q.1.o) (fun _ q => ⟨q.1.put (f := false) q.1.2.2.2.2.2.1, q.2.set (by omega) (by omega)⟩) ?_
              refine r_return (pc := 178) dX4_readQ_178 rfl ⟨Nat.zero_le _, Nat.zero_le _⟩ (fun gE hg => ?_)
              first
              | exact ⟨rfl, hg⟩
              | exact ⟨rfl, hP _ hg.1 hg.2⟩
            · skip
              have yl := nx_lt c118 (by decide)
              rw [if_pos c118] at hP
              refine r_iload_n (pc := 121) dX4_readQ_121 rfl ?_
              refine r_iconst (pc := 122) (v := 5) dX4_readQ_122 (by decide) ?_
              refine r_icmp_ge (pc := 123) 173 dX4_readQ_123 (by decide) (fun c123 => ?_) (fun c123 => ?_)
              · skip
                exact absurd (fa_le.mp c123) (by rw [hT, show (5 : Int32).toInt = 5 from rfl]; omega)
              · skip
                refine r_aload_n (pc := 126) dX4_readQ_126 rfl ?_
                refine r_dup (pc := 127) dX4_readQ_127 rfl ?_
                refine r_getf (pc := 128) (k := 3) dX4_readQ_128 hX4 eX4 (by decide) fX4_27 (fun _ q => q.1.o) rfl ?_
                refine r_iconst (pc := 131) (v := 1) dX4_readQ_131 (by decide) ?_
                refine r_iadd (pc := 132) dX4_readQ_132 ?_
                refine r_putf (pc := 133) (k := 3) (P' := fun g' => RdAt ρ tp tt use bs (adB σ) g' ∧ Off ρ 3 g g') tyX4 dX4_readQ_133 hX4 tyX4_ok nmX4 eX4 (by decide) fX4_27 rfl rfl (fun _ _ => rfl) (fun _ _ => rfl) (Nat.le_of_ble_eq_true rfl) (fun _ q => q.1.o) (fun _ q => ⟨by rw [nI_s]; exact q.1.put yl, q.2.set (by omega) (by omega)⟩) ?_
                refine r_aload_n (pc := 136) dX4_readQ_136 rfl ?_
                refine r_iload_n (pc := 137) dX4_readQ_137 rfl ?_
                refine r_iconst (pc := 138) (v := 1) dX4_readQ_138 (by decide) ?_
                refine r_iadd (pc := 139) dX4_readQ_139 ?_
                rw [nI_s, show 5 - (d + 1) + 1 = 5 - d by omega]
                refine r_Vv (pc := 140) (μ' := mX4_readT) dX4_readQ_140 nX4_38 iX4_readT vX4_readT kX4_readT rfl rfl (rr (by omega) rfl) rfl ⟨Nat.zero_le _, Nat.zero_le _⟩ (fun g' q => ct_Rd_all (by omega) (ih (by omega)) ρ tp tt use bs (adB σ) g' (fun g2 => RdAt ρ tp tt use bs (allB bs (facB use bs d) (adB σ)) g2 ∧ Off ρ 3 g g2) q.1 (fun g2 a b => ⟨a, q.2.tr b⟩)) ?_
                refine r_aload_n (pc := 143) dX4_readQ_143 rfl ?_
                refine r_bipush (pc := 144) (v := 41) dX4_readQ_144 (by decide) ?_
                refine r_Vi (pc := 146) (μ' := mX4_nextIs) dX4_readQ_146 nX4_65 iX4_nextIs vX4_nextIs kX4_nextIs rfl rfl (rr (by omega) rfl) rfl ⟨Nat.zero_le _, Nat.zero_le _⟩ (fun g' q => ct_Rd_nextIs q.1 q) ?_
                refine r_if_eq (pc := 149) 165 dX4_readQ_149 (by decide) (fun c149 => ?_) (fun c149 => ?_)
                · skip
                  have k149 := b2i_0.mp c149
                  rw [if_neg (by rw [k149]; decide)] at hP
                  refine r_aload_n (pc := 165) dX4_readQ_165 rfl ?_
                  refine r_iconst (pc := 166) (v := 0) dX4_readQ_166 (by decide) ?_
                  refine r_putf (pc := 167) (k := 4) (P' := fun g' => RdAt ρ tp tt use bs (flB (allB bs (facB use bs d) (adB σ))) g' ∧ Off ρ 3 g g') tyX4 dX4_readQ_167 hX4 tyX4_ok nmX4 eX4 (by decide) fX4_31 rfl rfl (fun _ _ => rfl) (fun _ _ => rfl) (Nat.le_of_ble_eq_true rfl) (fun _ q => q.1.o) (fun _ q => ⟨q.1.put (f := false) q.1.2.2.2.2.2.1, q.2.set (by omega) (by omega)⟩) ?_
                  refine r_goto (pc := 170) 178 dX4_readQ_170 (by decide) ?_
                  refine r_return (pc := 178) dX4_readQ_178 rfl ⟨Nat.zero_le _, Nat.zero_le _⟩ (fun gE hg => ?_)
                  first
                  | exact ⟨rfl, hg⟩
                  | exact ⟨rfl, hP _ hg.1 hg.2⟩
                · skip
                  have k149 := b2i_n0.mp c149
                  have yl2 := nx_lt (isB_op k149).2 (by decide)
                  rw [if_pos k149] at hP
                  refine r_aload_n (pc := 152) dX4_readQ_152 rfl ?_
                  refine r_dup (pc := 153) dX4_readQ_153 rfl ?_
                  refine r_getf (pc := 154) (k := 3) dX4_readQ_154 hX4 eX4 (by decide) fX4_27 (fun _ q => q.1.o) rfl ?_
                  refine r_iconst (pc := 157) (v := 1) dX4_readQ_157 (by decide) ?_
                  refine r_iadd (pc := 158) dX4_readQ_158 ?_
                  refine r_putf (pc := 159) (k := 3) (P' := fun g' => RdAt ρ tp tt use bs (adB (allB bs (facB use bs d) (adB σ))) g' ∧ Off ρ 3 g g') tyX4 dX4_readQ_159 hX4 tyX4_ok nmX4 eX4 (by decide) fX4_27 rfl rfl (fun _ _ => rfl) (fun _ _ => rfl) (Nat.le_of_ble_eq_true rfl) (fun _ q => q.1.o) (fun _ q => ⟨by rw [nI_s]; exact q.1.put yl2, q.2.set (by omega) (by omega)⟩) ?_
                  refine r_goto (pc := 162) 178 dX4_readQ_162 (by decide) ?_
                  refine r_return (pc := 178) dX4_readQ_178 rfl ⟨Nat.zero_le _, Nat.zero_le _⟩ (fun gE hg => ?_)
                  first
                  | exact ⟨rfl, hg⟩
                  | exact ⟨rfl, hP _ hg.1 hg.2⟩
          · skip
            have yl := nx_lt c81 (by decide)
            rw [if_pos c81] at hP
            refine r_iload_n (pc := 84) dX4_readQ_84 rfl ?_
            refine r_iconst (pc := 85) (v := 5) dX4_readQ_85 (by decide) ?_
            refine r_icmp_ge (pc := 86) 115 dX4_readQ_86 (by decide) (fun c86 => ?_) (fun c86 => ?_)
            · skip
              exact absurd (fa_le.mp c86) (by rw [hT, show (5 : Int32).toInt = 5 from rfl]; omega)
            · skip
              refine r_aload_n (pc := 89) dX4_readQ_89 rfl ?_
              refine r_dup (pc := 90) dX4_readQ_90 rfl ?_
              refine r_getf (pc := 91) (k := 3) dX4_readQ_91 hX4 eX4 (by decide) fX4_27 (fun _ q => q.1.o) rfl ?_
              refine r_iconst (pc := 94) (v := 1) dX4_readQ_94 (by decide) ?_
              refine r_iadd (pc := 95) dX4_readQ_95 ?_
              refine r_putf (pc := 96) (k := 3) (P' := fun g' => RdAt ρ tp tt use bs (adB σ) g' ∧ Off ρ 3 g g') tyX4 dX4_readQ_96 hX4 tyX4_ok nmX4 eX4 (by decide) fX4_27 rfl rfl (fun _ _ => rfl) (fun _ _ => rfl) (Nat.le_of_ble_eq_true rfl) (fun _ q => q.1.o) (fun _ q => ⟨by rw [nI_s]; exact q.1.put yl, q.2.set (by omega) (by omega)⟩) ?_
              refine r_aload_n (pc := 99) dX4_readQ_99 rfl ?_
              refine r_iload_n (pc := 100) dX4_readQ_100 rfl ?_
              refine r_iconst (pc := 101) (v := 1) dX4_readQ_101 (by decide) ?_
              refine r_iadd (pc := 102) dX4_readQ_102 ?_
              rw [nI_s, show 5 - (d + 1) + 1 = 5 - d by omega]
              refine r_Vv (pc := 103) (μ' := mX4_readQ) dX4_readQ_103 nX4_80 iX4_readQ vX4_readQ kX4_readQ rfl rfl (rr (by omega) rfl) rfl ⟨Nat.zero_le _, Nat.zero_le _⟩ (fun g' q => ih (by omega) ρ tp tt use bs (adB σ) g' (fun g2 => RdAt ρ tp tt use bs (facB use bs d (adB σ)) g2 ∧ Off ρ 3 g g2) q.1 (fun g2 a b => ⟨a, q.2.tr b⟩)) ?_
              refine r_aload_n (pc := 106) dX4_readQ_106 rfl ?_
              refine r_bipush (pc := 107) (v := 33) dX4_readQ_107 (by decide) ?_
              refine r_Vv (pc := 109) (μ' := mX4_emit) dX4_readQ_109 nX4_68 iX4_emit vX4_emit kX4_emit rfl rfl (rr (by omega) rfl) rfl ⟨Nat.zero_le _, Nat.zero_le _⟩ (fun g' q => ct_Rd_emit q.1 (fun g2 a b => hP g2 a (q.2.tr b))) ?_
              refine r_goto (pc := 112) 178 dX4_readQ_112 (by decide) ?_
              refine r_return (pc := 178) dX4_readQ_178 rfl ⟨Nat.zero_le _, Nat.zero_le _⟩ (fun gE hg => ?_)
              first
              | exact ⟨rfl, hg⟩
              | exact ⟨rfl, hP _ hg.1 hg.2⟩
        · skip
          have k42 : 0 ≤ nameI use (nxB bs σ) := Int32.not_lt.mp c42
          have yl := name_lt k42
          rw [if_pos k42] at hP
          refine r_aload_n (pc := 45) dX4_readQ_45 rfl ?_
          refine r_dup (pc := 46) dX4_readQ_46 rfl ?_
          refine r_getf (pc := 47) (k := 3) dX4_readQ_47 hX4 eX4 (by decide) fX4_27 (fun _ q => q.1.o) rfl ?_
          refine r_iconst (pc := 50) (v := 1) dX4_readQ_50 (by decide) ?_
          refine r_iadd (pc := 51) dX4_readQ_51 ?_
          refine r_putf (pc := 52) (k := 3) (P' := fun g' => RdAt ρ tp tt use bs (adB σ) g' ∧ Off ρ 3 g g') tyX4 dX4_readQ_52 hX4 tyX4_ok nmX4 eX4 (by decide) fX4_27 rfl rfl (fun _ _ => rfl) (fun _ _ => rfl) (Nat.le_of_ble_eq_true rfl) (fun _ q => q.1.o) (fun _ q => ⟨by rw [nI_s]; exact q.1.put yl, q.2.set (by omega) (by omega)⟩) ?_
          refine r_aload_n (pc := 55) dX4_readQ_55 rfl ?_
          refine r_getf (pc := 56) (k := 0) dX4_readQ_56 hX4 eX4 (by decide) fX4_14 (fun _ q => q.1.o) rfl ?_
          refine r_sipush (pc := 59) (v := 10000) dX4_readQ_59 (by decide) ?_
          refine r_aload_n (pc := 62) dX4_readQ_62 rfl ?_
          refine r_getf (pc := 63) (k := 2) dX4_readQ_63 hX4 eX4 (by decide) fX4_23 (fun _ q => q.1.o) rfl ?_
          refine r_iload_n (pc := 66) dX4_readQ_66 rfl ?_
          refine r_Vi (pc := 67) (μ' := mX8_nameOf) dX4_readQ_67 nX4_89 iX8_nameOf vX8_nameOf kX8_nameOf rfl rfl (rr (by omega) rfl) rfl ⟨Nat.zero_le _, Nat.zero_le _⟩ (fun g' q => ct_Text_nameOf q.1.2.2.2.2.1.choose_spec q) ?_
          refine r_iadd (pc := 70) dX4_readQ_70 ?_
          refine r_Vi (pc := 71) (μ' := mX5_add) dX4_readQ_71 nX4_59 iX5_add vX5_add kX5_add rfl rfl (rr (by omega) rfl) rfl ⟨Nat.zero_le _, Nat.zero_le _⟩ (fun g' q => ct_Row_add q.1.2.2.1 (fun g2 a b => hP g2 (q.1.setL a b) (q.2.tr (b.wide (by omega) (by omega))))) ?_
          refine r_pop (pc := 74) dX4_readQ_74 rfl ?_
          refine r_goto (pc := 75) 178 dX4_readQ_75 (by decide) ?_
          refine r_return (pc := 178) dX4_readQ_178 rfl ⟨Nat.zero_le _, Nat.zero_le _⟩ (fun gE hg => ?_)
          first
          | exact ⟨rfl, hg⟩
          | exact ⟨rfl, hP _ hg.1 hg.2⟩
      · skip
        have k17 := b2i_n0.mp c17
        rw [if_pos k17] at hP
        refine r_aload_n (pc := 20) dX4_readQ_20 rfl ?_
        refine r_Vv (pc := 21) (μ' := mX4_readNumber) dX4_readQ_21 nX4_86 iX4_readNumber vX4_readNumber kX4_readNumber rfl rfl (rr (by omega) rfl) rfl ⟨Nat.zero_le _, Nat.zero_le _⟩ (fun g' q => ct_Rd_readNumber q.1 (fun g2 a b => hP g2 a (q.2.tr b))) ?_
        refine r_goto (pc := 24) 178 dX4_readQ_24 (by decide) ?_
        refine r_return (pc := 178) dX4_readQ_178 rfl ⟨Nat.zero_le _, Nat.zero_le _⟩ (fun gE hg => ?_)
        first
        | exact ⟨rfl, hg⟩
        | exact ⟨rfl, hP _ hg.1 hg.2⟩
    · skip
      have k9 := b2i_0.mp c9
      rw [if_pos k9] at hP
      refine r_return (pc := 12) dX4_readQ_12 rfl ⟨Nat.zero_le _, Nat.zero_le _⟩ (fun gE hg => ?_)
      exact ⟨rfl, hP _ hg.1 hg.2⟩
/-- the reader, whatever it read last -/
def RdAny (ρ : Nat) (g : AH) : Prop := ρ < g.1 ∧ ∃ (tv gv : Value) (a f : Int32) (l : List Int32), g.2 ρ = .inr (.inr (3, [.ref (ρ + 1), tv, gv, .int a, .int f])) ∧ RowAt (ρ + 1) 50 l g
theorem RdAny.off {ρ : Nat} {h g : AH} (q : RdAny ρ h) {lo w : Nat} (o : Off lo w h g) (hd : ρ + 3 ≤ lo ∨ lo + w ≤ ρ) : RdAny ρ g := by
  obtain ⟨q1, tv, gv, a, f, l, q2, q3⟩ := q
  exact ⟨by rw [o.1]; exact q1, tv, gv, a, f, l, by rw [o.2 ρ (by omega)]; exact q2, q3.off o (by omega)⟩
/-- all of a tape is read -/
def rdAll (use : Int32) (bs : List Int32) : RS := allB bs (facB use bs 5) (0, true, [])
def rdOk (use : Int32) (bs : List Int32) : Bool := (rdAll use bs).2.1 && decide (bs.length ≤ (rdAll use bs).1)
set_option maxHeartbeats 8000000 in
theorem ct_Rd_read {ρ tp tt : Nat} {use : Int32} {bs l : List Int32} {g : AH} {P' : AH → Prop} (hR : RdAny ρ g) (hB : RowAt tp 50 bs g) (hT : TextAt tt use l g) (h1 : tp + 2 ≤ ρ ∨ ρ + 3 ≤ tp) (h2 : tt + 5 ≤ ρ ∨ ρ + 3 ≤ tt)
    (hP : ∀ g' g2, RdAny ρ g2 → Off ρ 3 g g' → Off tt 5 g' g2 → TextAt tt use (if rdOk use bs = true then (rdAll use bs).2.2 else l) g2 → P' g2) : CV 46 0 0 mX4_read ρ [.ref tp, .ref tt] g (fun v g' => v = some (.int (if rdOk use bs = true then -1 else nI (rdAll use bs).1)) ∧ P' g') := by
  obtain ⟨q1, tv, gv, a, f, l0, q2, q3⟩ := hR
  refine ⟨⟨_, _, _, q1, q2, rfl⟩, ?_⟩
  refine ct_of (by decide) (fun _ _ => Nat.le_of_ble_eq_true rfl) ?_
  dsimp only [pad, ent]
  have hl50 := hB.2.1
  obtain ⟨σ, hσ⟩ : ∃ σ, σ = rdAll use bs := ⟨_, rfl⟩
  have hok : rdOk use bs = (σ.2.1 && decide (bs.length ≤ σ.1)) := by unfold rdOk; rw [← hσ]
  rw [← hσ] at hP ⊢
  have hq : RdC 45 mX4_readT [.int 0] (fun use bs => allB bs (facB use bs 5)) := by
    have := ct_Rd_all (D := 40) (by omega) (ct_Rd_readQ 5 (Nat.le_refl _))
    rw [show nI (5 - 5) = 0 from nI_0] at this
    exact this
  -- as the fields are set
  have pu : ∀ (x y : Value) (a f : Int32) (x' y' : Value) (a' f' : Int32) (g' : AH), (ρ < g'.1 ∧ g'.2 ρ = .inr (.inr (3, [.ref (ρ + 1), x, y, .int a, .int f]))) ∧ RowAt (ρ + 1) 50 l0 g' ∧ Off ρ 3 g g' → (ρ < g'.1 ∧ (hset g' ρ (.inr (.inr (3, [.ref (ρ + 1), x', y', .int a', .int f'])))).2 ρ = .inr (.inr (3, [.ref (ρ + 1), x', y', .int a', .int f']))) ∧ RowAt (ρ + 1) 50 l0 (hset g' ρ (.inr (.inr (3, [.ref (ρ + 1), x', y', .int a', .int f'])))) ∧ Off ρ 3 g (hset g' ρ (.inr (.inr (3, [.ref (ρ + 1), x', y', .int a', .int f'])))) :=
    fun x y a f x' y' a' f' g' q => ⟨⟨q.1.1, hset_same _ _ _⟩, q.2.1.off Off.one (by omega), q.2.2.set (by omega) (by omega)⟩
  refine aw_P (P' := fun g' => (ρ < g'.1 ∧ g'.2 ρ = .inr (.inr (3, [.ref (ρ + 1), tv, gv, .int a, .int f]))) ∧ RowAt (ρ + 1) 50 l0 g' ∧ Off ρ 3 g g') (fun g' e => by subst e; exact ⟨⟨q1, q2⟩, q3, Off.rf _ _ _⟩) ?_
  refine r_aload_n (pc := 0) dX4_read_0 rfl ?_
  refine r_aload_n (pc := 1) dX4_read_1 rfl ?_
  refine r_putf (pc := 2) (k := 1) (P' := fun g' => (ρ < g'.1 ∧ g'.2 ρ = .inr (.inr (3, [.ref (ρ + 1), .ref tp, gv, .int a, .int f]))) ∧ RowAt (ρ + 1) 50 l0 g' ∧ Off ρ 3 g g') tyX4 dX4_read_2 hX4 tyX4_ok nmX4 eX4 (by decide) fX4_20 rfl rfl (fun _ _ => rfl) (fun _ _ => rfl) (Nat.le_of_ble_eq_true rfl) (fun _ q => q.1) (fun g' q => pu _ _ _ _ _ _ _ _ g' q) ?_
  refine r_aload_n (pc := 5) dX4_read_5 rfl ?_
  refine r_aload_n (pc := 6) dX4_read_6 rfl ?_
  refine r_putf (pc := 7) (k := 2) (P' := fun g' => (ρ < g'.1 ∧ g'.2 ρ = .inr (.inr (3, [.ref (ρ + 1), .ref tp, .ref tt, .int a, .int f]))) ∧ RowAt (ρ + 1) 50 l0 g' ∧ Off ρ 3 g g') tyX4 dX4_read_7 hX4 tyX4_ok nmX4 eX4 (by decide) fX4_23 rfl rfl (fun _ _ => rfl) (fun _ _ => rfl) (Nat.le_of_ble_eq_true rfl) (fun _ q => q.1) (fun g' q => pu _ _ _ _ _ _ _ _ g' q) ?_
  refine r_aload_n (pc := 10) dX4_read_10 rfl ?_
  refine r_iconst (pc := 11) (v := 0) dX4_read_11 (by decide) ?_
  refine r_putf (pc := 12) (k := 3) (P' := fun g' => (ρ < g'.1 ∧ g'.2 ρ = .inr (.inr (3, [.ref (ρ + 1), .ref tp, .ref tt, .int 0, .int f]))) ∧ RowAt (ρ + 1) 50 l0 g' ∧ Off ρ 3 g g') tyX4 dX4_read_12 hX4 tyX4_ok nmX4 eX4 (by decide) fX4_27 rfl rfl (fun _ _ => rfl) (fun _ _ => rfl) (Nat.le_of_ble_eq_true rfl) (fun _ q => q.1) (fun g' q => pu _ _ _ _ _ _ _ _ g' q) ?_
  refine r_aload_n (pc := 15) dX4_read_15 rfl ?_
  refine r_iconst (pc := 16) (v := 1) dX4_read_16 (by decide) ?_
  refine r_putf (pc := 17) (k := 4) (P' := fun g' => (ρ < g'.1 ∧ g'.2 ρ = .inr (.inr (3, [.ref (ρ + 1), .ref tp, .ref tt, .int 0, .int 1]))) ∧ RowAt (ρ + 1) 50 l0 g' ∧ Off ρ 3 g g') tyX4 dX4_read_17 hX4 tyX4_ok nmX4 eX4 (by decide) fX4_31 rfl rfl (fun _ _ => rfl) (fun _ _ => rfl) (Nat.le_of_ble_eq_true rfl) (fun _ q => q.1) (fun g' q => pu _ _ _ _ _ _ _ _ g' q) ?_
  refine r_aload_n (pc := 20) dX4_read_20 rfl ?_
  refine r_getf (pc := 21) (k := 0) dX4_read_21 hX4 eX4 (by decide) fX4_14 (fun _ q => q.1) rfl ?_
  refine r_Vv (pc := 24) (μ' := mX5_clear) dX4_read_24 nX4_35 iX5_clear vX5_clear kX5_clear rfl rfl (rr (by omega) rfl) rfl ⟨Nat.zero_le _, Nat.zero_le _⟩ (fun g' q => ct_Row_clear (P' := fun g2 => RdAt ρ tp tt use bs (0, true, []) g2 ∧ Off ρ 3 g g2) q.2.1 (fun g2 x y => by
        have o2 := q.2.2.tr (y.wide (by omega) (by omega))
        exact ⟨⟨by rw [y.1]; exact q.1.1, by rw [y.2 ρ (by omega)]; exact q.1.2, x, hB.off o2 (by omega), ⟨l, hT.off o2 (by omega)⟩, Nat.zero_le _, h1, h2⟩, o2⟩)) ?_
  refine r_aload_n (pc := 27) dX4_read_27 rfl ?_
  refine r_iconst (pc := 28) (v := 0) dX4_read_28 (by decide) ?_
  refine r_Vv (pc := 29) (μ' := mX4_readT) dX4_read_29 nX4_38 iX4_readT vX4_readT kX4_readT rfl rfl (rr (by omega) rfl) rfl ⟨Nat.zero_le _, Nat.zero_le _⟩ (fun g' q => hq ρ tp tt use bs _ g' (fun g2 => RdAt ρ tp tt use bs σ g2 ∧ Off ρ 3 g g2) q.1 (fun g2 x y => ⟨by rw [hσ]; exact x, q.2.tr y⟩)) ?_
  refine r_aload_n (pc := 32) dX4_read_32 rfl ?_
  refine r_getf (pc := 33) (k := 4) dX4_read_33 hX4 eX4 (by decide) fX4_31 (fun _ q => q.1.o) rfl ?_
  refine r_if_eq (pc := 36) 53 dX4_read_36 (by decide) (fun c36 => ?_) (fun c36 => ?_)
  · skip
    have e0 : rdOk use bs = false := by rw [hok, b2i_0.mp c36, Bool.false_and]
    refine r_aload_n (pc := 53) dX4_read_53 rfl ?_
    refine r_getf (pc := 54) (k := 3) dX4_read_54 hX4 eX4 (by decide) fX4_27 (fun _ q => q.1.o) rfl ?_
    refine r_ireturn (pc := 57) (ty := .int) dX4_read_57 rfl rfl ⟨Nat.zero_le _, Nat.zero_le _⟩ (fun gE hg => ?_)
    rw [e0] at hP ⊢
    rw [if_neg Bool.false_ne_true] at hP ⊢
    exact ⟨rfl, hP gE gE ⟨hg.1.1, _, _, _, _, _, hg.1.2.1, hg.1.2.2.1⟩ hg.2 (Off.rf _ _ _) (hT.off hg.2 (by omega))⟩
  · skip
    have k36 := b2i_n0.mp c36
    refine aw_P (P' := fun g' => σ.1 ≤ bs.length ∧ (RdAt ρ tp tt use bs σ g' ∧ Off ρ 3 g g')) (fun g' q => ⟨q.1.2.2.2.2.2.1, q⟩) (aw_pr fun hσl => ?_)
    refine r_aload_n (pc := 39) dX4_read_39 rfl ?_
    refine r_getf (pc := 40) (k := 3) dX4_read_40 hX4 eX4 (by decide) fX4_27 (fun _ q => q.1.o) rfl ?_
    refine r_aload_n (pc := 43) dX4_read_43 rfl ?_
    refine r_getf (pc := 44) (k := 1) dX4_read_44 hX4 eX4 (by decide) fX4_20 (fun _ q => q.1.o) rfl ?_
    refine r_Vi (pc := 47) (μ' := mX5_length) dX4_read_47 nX4_41 iX5_length vX5_length kX5_length rfl rfl (rr (by omega) rfl) rfl ⟨Nat.zero_le _, Nat.zero_le _⟩ (fun g' q => ct_Row_length q.1.2.2.2.1 q) ?_
    refine r_icmp_ge (pc := 50) 58 dX4_read_50 (by decide) (fun c50 => ?_) (fun c50 => ?_)
    · skip
      have e1 : rdOk use bs = true := by
        rw [hok, k36, Bool.true_and]
        refine decide_eq_true (Decidable.byContradiction fun z => ?_)
        have := fa_le.mp c50
        rw [nI_T (by omega), nI_T (by omega)] at this
        omega
      rw [e1] at hP ⊢
      rw [if_pos rfl] at hP ⊢
      refine r_aload_n (pc := 58) dX4_read_58 rfl ?_
      refine r_aload_n (pc := 59) dX4_read_59 rfl ?_
      refine r_getf (pc := 60) (k := 0) dX4_read_60 hX4 eX4 (by decide) fX4_14 (fun _ q => q.1.o) rfl ?_
      refine r_Vv (pc := 63) (μ' := mX8_takeSteps) dX4_read_63 nX4_45 iX8_takeSteps vX8_takeSteps kX8_takeSteps rfl rfl (rr (by omega) rfl) rfl ⟨Nat.zero_le _, Nat.zero_le _⟩ (fun g' q => ct_Text_takeSteps (hT.off q.2 (by omega)) q.1.2.2.1 (by omega) q.1.2.2.1.2.1 (fun g2 x y => hP g' g2 ⟨by rw [y.1]; exact q.1.1, _, _, _, _, _, by rw [y.2 ρ (by omega)]; exact q.1.2.1, q.1.2.2.1.off y (by omega)⟩ q.2 y x)) ?_
      refine r_iconst (pc := 66) (v := (-1)) dX4_read_66 (by decide) ?_
      refine r_ireturn (pc := 67) (ty := .int) dX4_read_67 rfl rfl ⟨Nat.zero_le _, Nat.zero_le _⟩ (fun gE hg => ?_)
      exact ⟨rfl, hg⟩
    · skip
      have e0 : rdOk use bs = false := by
        rw [hok, k36, Bool.true_and]
        refine decide_eq_false fun z => c50 (fa_le.mpr ?_)
        rw [nI_T (by omega), nI_T (by omega)]; omega
      refine r_aload_n (pc := 53) dX4_read_53 rfl ?_
      refine r_getf (pc := 54) (k := 3) dX4_read_54 hX4 eX4 (by decide) fX4_27 (fun _ q => q.1.o) rfl ?_
      refine r_ireturn (pc := 57) (ty := .int) dX4_read_57 rfl rfl ⟨Nat.zero_le _, Nat.zero_le _⟩ (fun gE hg => ?_)
      rw [e0] at hP ⊢
      rw [if_neg Bool.false_ne_true] at hP ⊢
      exact ⟨rfl, hP gE gE ⟨hg.1.1, _, _, _, _, _, hg.1.2.1, hg.1.2.2.1⟩ hg.2 (Off.rf _ _ _) (hT.off hg.2 (by omega))⟩
end
section
/-! VOICES (OneGoCeiling$Voices) -/
def bodyI (kd act : Int32) : Int32 := if 0 ≤ (kd * 4 + act).toInt ∧ (kd * 4 + act).toInt < 28 then lBO.getD (kd * 4 + act).toInt.toNat 0 else 0
def ownerI : Nat → Int32 → Int32 → Int32
  | 0, o, _ => o
  | n + 1, o, act => if bodyI o act = 0 then ownerI n (aboveI o) act else o
def sayG (rc : Int32 → Int32 → Int32 → List Int32 → Int32 × List Int32) (num kd m body ab x : Int32) (hd : List Int32) : Int32 × List Int32 :=
  if body = 10 then (x + num, hd) else if body = 11 then ((rc kd 0 x hd).1 * 2, (rc kd 0 x hd).2) else if body = 12 then (x - m, hd) else if body = 13 then ((rc kd 1 x hd).1 ^^^ (rc kd 2 x (rc kd 1 x hd).2).1, (rc kd 2 x (rc kd 1 x hd).2).2) else if body = 20 then (-(rc ab 2 x hd).1, (rc ab 2 x hd).2) else if body = 30 then ((rc ab 1 x hd).1 - (rc kd 2 1 (rc ab 1 x hd).2).1, (rc kd 2 1 (rc ab 1 x hd).2).2) else if body = 40 then ((rc ab 0 x hd).1 * 3, (rc ab 0 x hd).2) else if body = 50 then ((rc ab 2 x hd).1 ^^^ num, (rc ab 2 x hd).2) else if body = 51 then ((rc kd 1 x hd).1 - (rc ab 3 x (rc kd 1 x hd).2).1, (rc ab 3 x (rc kd 1 x hd).2).2) else if body = 60 then rc ab 1 (x + 1) hd else if body = 70 then ((rc ab 3 x hd).1 - (rc kd 0 2 (rc ab 3 x hd).2).1, (rc kd 0 2 (rc ab 3 x hd).2).2) else (0, hd)
def voiV (num kd m : Int32) : Nat → Int32 → Int32 → Int32 → List Int32 → Int32 × List Int32
  | 0, _, _, _, hd => (0, hd)
  | n + 1, s, act, x, hd => sayG (voiV num kd m n) num kd m (bodyI (ownerI 7 s act) act) (aboveI (ownerI 7 s act)) x (addL 40 hd (bodyI (ownerI 7 s act) act))
theorem sayG_10 {rc : Int32 → Int32 → Int32 → List Int32 → Int32 × List Int32} {num kd m ab x : Int32} {hd : List Int32} : sayG rc num kd m 10 ab x hd = (x + num, hd) := rfl
theorem sayG_11 {rc : Int32 → Int32 → Int32 → List Int32 → Int32 × List Int32} {num kd m ab x : Int32} {hd : List Int32} : sayG rc num kd m 11 ab x hd = ((rc kd 0 x hd).1 * 2, (rc kd 0 x hd).2) := rfl
theorem sayG_12 {rc : Int32 → Int32 → Int32 → List Int32 → Int32 × List Int32} {num kd m ab x : Int32} {hd : List Int32} : sayG rc num kd m 12 ab x hd = (x - m, hd) := rfl
theorem sayG_13 {rc : Int32 → Int32 → Int32 → List Int32 → Int32 × List Int32} {num kd m ab x : Int32} {hd : List Int32} : sayG rc num kd m 13 ab x hd = ((rc kd 1 x hd).1 ^^^ (rc kd 2 x (rc kd 1 x hd).2).1, (rc kd 2 x (rc kd 1 x hd).2).2) := rfl
theorem sayG_20 {rc : Int32 → Int32 → Int32 → List Int32 → Int32 × List Int32} {num kd m ab x : Int32} {hd : List Int32} : sayG rc num kd m 20 ab x hd = (-(rc ab 2 x hd).1, (rc ab 2 x hd).2) := rfl
theorem sayG_30 {rc : Int32 → Int32 → Int32 → List Int32 → Int32 × List Int32} {num kd m ab x : Int32} {hd : List Int32} : sayG rc num kd m 30 ab x hd = ((rc ab 1 x hd).1 - (rc kd 2 1 (rc ab 1 x hd).2).1, (rc kd 2 1 (rc ab 1 x hd).2).2) := rfl
theorem sayG_40 {rc : Int32 → Int32 → Int32 → List Int32 → Int32 × List Int32} {num kd m ab x : Int32} {hd : List Int32} : sayG rc num kd m 40 ab x hd = ((rc ab 0 x hd).1 * 3, (rc ab 0 x hd).2) := rfl
theorem sayG_50 {rc : Int32 → Int32 → Int32 → List Int32 → Int32 × List Int32} {num kd m ab x : Int32} {hd : List Int32} : sayG rc num kd m 50 ab x hd = ((rc ab 2 x hd).1 ^^^ num, (rc ab 2 x hd).2) := rfl
theorem sayG_51 {rc : Int32 → Int32 → Int32 → List Int32 → Int32 × List Int32} {num kd m ab x : Int32} {hd : List Int32} : sayG rc num kd m 51 ab x hd = ((rc kd 1 x hd).1 - (rc ab 3 x (rc kd 1 x hd).2).1, (rc ab 3 x (rc kd 1 x hd).2).2) := rfl
theorem sayG_60 {rc : Int32 → Int32 → Int32 → List Int32 → Int32 × List Int32} {num kd m ab x : Int32} {hd : List Int32} : sayG rc num kd m 60 ab x hd = rc ab 1 (x + 1) hd := rfl
theorem sayG_70 {rc : Int32 → Int32 → Int32 → List Int32 → Int32 × List Int32} {num kd m ab x : Int32} {hd : List Int32} : sayG rc num kd m 70 ab x hd = ((rc ab 3 x hd).1 - (rc kd 0 2 (rc ab 3 x hd).2).1, (rc kd 0 2 (rc ab 3 x hd).2).2) := rfl
def VoAt (ν : Nat) (num kd m : Int32) (hd : List Int32) (g : AH) : Prop := ν < g.1 ∧ g.2 ν = .inr (.inr (9, [.ref (ν + 1), .int num, .int kd, .int m])) ∧ RowAt (ν + 1) 40 hd g
section Vo
variable {ν : Nat} {num kd m : Int32} {hd : List Int32} {g h : AH} {P' : AH → Prop}
theorem VoAt.o (q : VoAt ν num kd m hd g) : ν < g.1 ∧ g.2 ν = .inr (.inr (9, [.ref (ν + 1), .int num, .int kd, .int m])) := ⟨q.1, q.2.1⟩
theorem VoAt.V (q : VoAt ν num kd m hd g) : ∃ (fs : List Value) (T : u_T) (N : Nat), ν < g.1 ∧ g.2 ν = .inr (.inr (9, fs)) ∧ vwCl[9]? = some (RX10, T, N) := ⟨_, _, _, q.1, q.2.1, rfl⟩
theorem VoAt.off (q : VoAt ν num kd m hd h) {lo w : Nat} (o : Off lo w h g) (hd2 : ν + 3 ≤ lo ∨ lo + w ≤ ν) : VoAt ν num kd m hd g :=
  ⟨by rw [o.1]; exact q.1, by rw [o.2 ν (by omega)]; exact q.2.1, q.2.2.off o (by omega)⟩
theorem VoAt.setL {l : List Int32} (q : VoAt ν num kd m hd h) (hR : RowAt (ν + 1) 40 l g) (o : Off (ν + 1) 2 h g) : VoAt ν num kd m l g :=
  ⟨by rw [o.1]; exact q.1, by rw [o.2 ν (by omega)]; exact q.2.1, hR⟩
theorem VoAt.put {num' kd' m' : Int32} (q : VoAt ν num kd m hd g) : VoAt ν num' kd' m' hd (hset g ν (.inr (.inr (9, [.ref (ν + 1), .int num', .int kd', .int m'])))) :=
  ⟨q.1, hset_same _ _ _, q.2.2.off Off.one (by omega)⟩
set_option maxHeartbeats 4000000 in
theorem ct_Vo_bodyOf {k act : Int32} (g : AH) : CT 1 0 0 mX10_bodyOf [.int k, .int act] g (fun v g' => v = some (.int (bodyI k act)) ∧ g' = g) := by
  refine ct_of (by decide) (fun _ _ => Nat.le_of_ble_eq_true rfl) ?_
  dsimp only [pad, ent]
  unfold bodyI
  refine r_iload_n (pc := 0) dX10_bodyOf_0 rfl ?_
  refine r_iconst (pc := 1) (v := 4) dX10_bodyOf_1 (by decide) ?_
  refine r_imul (pc := 2) dX10_bodyOf_2 ?_
  refine r_iload_n (pc := 3) dX10_bodyOf_3 rfl ?_
  refine r_iadd (pc := 4) dX10_bodyOf_4 ?_
  refine r_istore_n (pc := 5) dX10_bodyOf_5 rfl (Nat.le_of_ble_eq_true rfl) rfl ?_
  dsimp only [lset]
  refine r_iload_n (pc := 6) dX10_bodyOf_6 rfl ?_
  refine r_if_lt (pc := 7) 26 dX10_bodyOf_7 (by decide) (fun c7 => ?_) (fun c7 => ?_)
  · skip
    have k1 := i32_lt0.mp c7
    refine r_iconst (pc := 26) (v := 0) dX10_bodyOf_26 (by decide) ?_
    refine r_ireturn (pc := 27) (ty := .int) dX10_bodyOf_27 rfl rfl ⟨Nat.zero_le _, Nat.zero_le _⟩ (fun gE hg => ?_)
    refine ⟨?_, hg⟩
    first
    | (rw [if_pos (by omega)]; done)
    | (rw [if_neg (by omega)]; done)
  · skip
    have k1 := ge0 c7
    refine r_iload_n (pc := 10) dX10_bodyOf_10 rfl ?_
    refine r_stB_len (pc := 11) dX10_bodyOf_11 dX10_bodyOf_14 fX10_64 ?_
    refine r_icmp_ge (pc := 15) 26 dX10_bodyOf_15 (by decide) (fun c15 => ?_) (fun c15 => ?_)
    · skip
      have k9 : (28 : Int) ≤ (k * 4 + act).toInt := fa_le.mp c15
      refine r_iconst (pc := 26) (v := 0) dX10_bodyOf_26 (by decide) ?_
      refine r_ireturn (pc := 27) (ty := .int) dX10_bodyOf_27 rfl rfl ⟨Nat.zero_le _, Nat.zero_le _⟩ (fun gE hg => ?_)
      refine ⟨?_, hg⟩
      first
      | (rw [if_pos (by omega)]; done)
      | (rw [if_neg (by omega)]; done)
    · skip
      have k9 : ¬ (28 : Int) ≤ (k * 4 + act).toInt := fun q => c15 (fa_le.mpr q)
      refine r_stB_ld (pc := 18) (j := (k * 4 + act).toInt.toNat) dX10_bodyOf_18 dX10_bodyOf_21 dX10_bodyOf_22 fX10_64 rfl (ix_hi c7) (by omega) ?_
      refine r_goto (pc := 23) 27 dX10_bodyOf_23 (by decide) ?_
      refine r_ireturn (pc := 27) (ty := .int) dX10_bodyOf_27 rfl rfl ⟨Nat.zero_le _, Nat.zero_le _⟩ (fun gE hg => ?_)
      refine ⟨?_, hg⟩
      first
      | (rw [if_pos (by omega)]; done)
      | (rw [if_neg (by omega)]; done)
/-- from(start, act, x, depth), with n levels left -/
def FrC (num kd m : Int32) (n : Nat) : Prop := ∀ (ν : Nat) (s act x : Int32) (hd : List Int32) (g : AH) (P' : AH → Prop), VoAt ν num kd m hd g → (∀ g', VoAt ν num kd m (voiV num kd m n s act x hd).2 g' → Off ν 3 g g' → P' g') → CV (5 + 3 * n) 0 0 mX10_from ν [.int s, .int act, .int x, .int (nI (41 - n))] g (fun v g' => v = some (.int (voiV num kd m n s act x hd).1) ∧ P' g')
set_option maxHeartbeats 4000000 in
theorem ct_Vo_own {n : Nat} (hF : FrC num kd m n) {act x : Int32} (hR : VoAt ν num kd m hd g) (hP : ∀ g', VoAt ν num kd m (voiV num kd m n kd act x hd).2 g' → Off ν 3 g g' → P' g') : CV (6 + 3 * n) 0 0 mX10_own ν [.int act, .int x, .int (nI (41 - n))] g (fun v g' => v = some (.int (voiV num kd m n kd act x hd).1) ∧ P' g') := by
  refine ⟨hR.V, ?_⟩
  refine ct_of (by decide) (fun _ _ => Nat.le_of_ble_eq_true rfl) ?_
  dsimp only [pad, ent]
  refine aw_P (P' := fun g' => VoAt ν num kd m hd g' ∧ Off ν 3 g g') (fun g' e => by subst e; exact ⟨hR, Off.rf _ _ _⟩) ?_
  refine r_aload_n (pc := 0) dX10_own_0 rfl ?_
  refine r_aload_n (pc := 1) dX10_own_1 rfl ?_
  refine r_getf (pc := 2) (k := 2) dX10_own_2 hX10 eX10 (by decide) fX10_22 (fun _ q => q.1.o) rfl ?_
  refine r_iload_n (pc := 5) dX10_own_5 rfl ?_
  refine r_iload_n (pc := 6) dX10_own_6 rfl ?_
  refine r_iload_n (pc := 7) dX10_own_7 rfl ?_
  refine r_Vi (pc := 8) (μ' := mX10_from) dX10_own_8 nX10_44 iX10_from vX10_from kX10_from rfl rfl (rr (by omega) rfl) rfl ⟨Nat.zero_le _, Nat.zero_le _⟩ (fun g' q => hF ν kd act x hd g' P' q.1 (fun g2 a b => hP g2 a (q.2.tr b))) ?_
  refine r_ireturn (pc := 11) (ty := .int) dX10_own_11 rfl rfl ⟨Nat.zero_le _, Nat.zero_le _⟩ (fun gE hg => ?_)
  exact ⟨rfl, hg⟩
set_option maxHeartbeats 8000000 in
theorem ct_Vo_say {n : Nat} (hF : FrC num kd m n) {body ab x : Int32} (hR : VoAt ν num kd m hd g) (hP : ∀ g', VoAt ν num kd m (sayG (voiV num kd m n) num kd m body ab x hd).2 g' → Off ν 3 g g' → P' g') : CV (7 + 3 * n) 0 0 mX10_say ν [.int body, .int ab, .int x, .int (nI (41 - n))] g (fun v g' => v = some (.int (sayG (voiV num kd m n) num kd m body ab x hd).1) ∧ P' g') := by
  refine ⟨hR.V, ?_⟩
  refine ct_of (by decide) (fun _ _ => Nat.le_of_ble_eq_true rfl) ?_
  dsimp only [pad, ent]
  have ow : ∀ (act x : Int32) (hd' : List Int32) (g' : AH), VoAt ν num kd m hd' g' ∧ Off ν 3 g g' → CV (6 + 3 * n) 0 0 mX10_own ν [.int act, .int x, .int (nI (41 - n))] g' (fun v g2 => v = some (.int (voiV num kd m n kd act x hd').1) ∧ (VoAt ν num kd m (voiV num kd m n kd act x hd').2 g2 ∧ Off ν 3 g g2)) :=
    fun act x hd' g' q => ct_Vo_own hF q.1 (fun g2 a b => ⟨a, q.2.tr b⟩)
  have fr : ∀ (s act x : Int32) (hd' : List Int32) (g' : AH), VoAt ν num kd m hd' g' ∧ Off ν 3 g g' → CV (5 + 3 * n) 0 0 mX10_from ν [.int s, .int act, .int x, .int (nI (41 - n))] g' (fun v g2 => v = some (.int (voiV num kd m n s act x hd').1) ∧ (VoAt ν num kd m (voiV num kd m n s act x hd').2 g2 ∧ Off ν 3 g g2)) :=
    fun s act x hd' g' q => hF ν s act x hd' g' _ q.1 (fun g2 a b => ⟨a, q.2.tr b⟩)
  refine aw_P (P' := fun g' => VoAt ν num kd m hd g' ∧ Off ν 3 g g') (fun g' e => by subst e; exact ⟨hR, Off.rf _ _ _⟩) ?_
  refine r_iload_n (pc := 0) dX10_say_0 rfl ?_
  by_cases s1_0 : body = 10
  · skip
    refine r_lookup (pc := 1) (off := 99) 100 dX10_say_1 (by decide) (by rw [s1_0]; decide) (by decide) ?_
    subst s1_0
    rw [sayG_10] at hP ⊢
    refine r_iload_n (pc := 100) dX10_say_100 rfl ?_
    refine r_aload_n (pc := 101) dX10_say_101 rfl ?_
    refine r_getf (pc := 102) (k := 1) dX10_say_102 hX10 eX10 (by decide) fX10_18 (fun _ q => q.1.o) rfl ?_
    refine r_iadd (pc := 105) dX10_say_105 ?_
    refine r_ireturn (pc := 106) (ty := .int) dX10_say_106 rfl rfl ⟨Nat.zero_le _, Nat.zero_le _⟩ (fun gE hg => ?_)
    exact ⟨rfl, hP _ hg.1 hg.2⟩
  by_cases s1_1 : body = 11
  · skip
    refine r_lookup (pc := 1) (off := 106) 107 dX10_say_1 (by decide) (by rw [s1_1]; decide) (by decide) ?_
    subst s1_1
    rw [sayG_11] at hP ⊢
    refine r_aload_n (pc := 107) dX10_say_107 rfl ?_
    refine r_iconst (pc := 108) (v := 0) dX10_say_108 (by decide) ?_
    refine r_iload_n (pc := 109) dX10_say_109 rfl ?_
    refine r_iload (pc := 110) dX10_say_110 rfl ?_
    refine r_Vi (pc := 112) (μ' := mX10_own) dX10_say_112 nX10_40 iX10_own vX10_own kX10_own rfl rfl (rr (by omega) rfl) rfl ⟨Nat.zero_le _, Nat.zero_le _⟩ (fun g' q => ow _ _ _ g' q) ?_
    refine r_iconst (pc := 115) (v := 2) dX10_say_115 (by decide) ?_
    refine r_imul (pc := 116) dX10_say_116 ?_
    refine r_ireturn (pc := 117) (ty := .int) dX10_say_117 rfl rfl ⟨Nat.zero_le _, Nat.zero_le _⟩ (fun gE hg => ?_)
    exact ⟨rfl, hP _ hg.1 hg.2⟩
  by_cases s1_2 : body = 12
  · skip
    refine r_lookup (pc := 1) (off := 117) 118 dX10_say_1 (by decide) (by rw [s1_2]; decide) (by decide) ?_
    subst s1_2
    rw [sayG_12] at hP ⊢
    refine r_iload_n (pc := 118) dX10_say_118 rfl ?_
    refine r_aload_n (pc := 119) dX10_say_119 rfl ?_
    refine r_getf (pc := 120) (k := 3) dX10_say_120 hX10 eX10 (by decide) fX10_25 (fun _ q => q.1.o) rfl ?_
    refine r_isub (pc := 123) dX10_say_123 ?_
    refine r_ireturn (pc := 124) (ty := .int) dX10_say_124 rfl rfl ⟨Nat.zero_le _, Nat.zero_le _⟩ (fun gE hg => ?_)
    exact ⟨rfl, hP _ hg.1 hg.2⟩
  by_cases s1_3 : body = 13
  · skip
    refine r_lookup (pc := 1) (off := 124) 125 dX10_say_1 (by decide) (by rw [s1_3]; decide) (by decide) ?_
    subst s1_3
    rw [sayG_13] at hP ⊢
    refine r_aload_n (pc := 125) dX10_say_125 rfl ?_
    refine r_iconst (pc := 126) (v := 1) dX10_say_126 (by decide) ?_
    refine r_iload_n (pc := 127) dX10_say_127 rfl ?_
    refine r_iload (pc := 128) dX10_say_128 rfl ?_
    refine r_Vi (pc := 130) (μ' := mX10_own) dX10_say_130 nX10_40 iX10_own vX10_own kX10_own rfl rfl (rr (by omega) rfl) rfl ⟨Nat.zero_le _, Nat.zero_le _⟩ (fun g' q => ow _ _ _ g' q) ?_
    refine r_aload_n (pc := 133) dX10_say_133 rfl ?_
    refine r_iconst (pc := 134) (v := 2) dX10_say_134 (by decide) ?_
    refine r_iload_n (pc := 135) dX10_say_135 rfl ?_
    refine r_iload (pc := 136) dX10_say_136 rfl ?_
    refine r_Vi (pc := 138) (μ' := mX10_own) dX10_say_138 nX10_40 iX10_own vX10_own kX10_own rfl rfl (rr (by omega) rfl) rfl ⟨Nat.zero_le _, Nat.zero_le _⟩ (fun g' q => ow _ _ _ g' q) ?_
    refine r_ixor (pc := 141) dX10_say_141 ?_
    refine r_ireturn (pc := 142) (ty := .int) dX10_say_142 rfl rfl ⟨Nat.zero_le _, Nat.zero_le _⟩ (fun gE hg => ?_)
    exact ⟨rfl, hP _ hg.1 hg.2⟩
  by_cases s1_4 : body = 20
  · skip
    refine r_lookup (pc := 1) (off := 142) 143 dX10_say_1 (by decide) (by rw [s1_4]; decide) (by decide) ?_
    subst s1_4
    rw [sayG_20] at hP ⊢
    refine r_aload_n (pc := 143) dX10_say_143 rfl ?_
    refine r_iload_n (pc := 144) dX10_say_144 rfl ?_
    refine r_iconst (pc := 145) (v := 2) dX10_say_145 (by decide) ?_
    refine r_iload_n (pc := 146) dX10_say_146 rfl ?_
    refine r_iload (pc := 147) dX10_say_147 rfl ?_
    refine r_Vi (pc := 149) (μ' := mX10_from) dX10_say_149 nX10_44 iX10_from vX10_from kX10_from rfl rfl (rr (by omega) rfl) rfl ⟨Nat.zero_le _, Nat.zero_le _⟩ (fun g' q => fr _ _ _ _ g' q) ?_
    refine r_ineg (pc := 152) dX10_say_152 ?_
    refine r_ireturn (pc := 153) (ty := .int) dX10_say_153 rfl rfl ⟨Nat.zero_le _, Nat.zero_le _⟩ (fun gE hg => ?_)
    exact ⟨rfl, hP _ hg.1 hg.2⟩
  by_cases s1_5 : body = 30
  · skip
    refine r_lookup (pc := 1) (off := 153) 154 dX10_say_1 (by decide) (by rw [s1_5]; decide) (by decide) ?_
    subst s1_5
    rw [sayG_30] at hP ⊢
    refine r_aload_n (pc := 154) dX10_say_154 rfl ?_
    refine r_iload_n (pc := 155) dX10_say_155 rfl ?_
    refine r_iconst (pc := 156) (v := 1) dX10_say_156 (by decide) ?_
    refine r_iload_n (pc := 157) dX10_say_157 rfl ?_
    refine r_iload (pc := 158) dX10_say_158 rfl ?_
    refine r_Vi (pc := 160) (μ' := mX10_from) dX10_say_160 nX10_44 iX10_from vX10_from kX10_from rfl rfl (rr (by omega) rfl) rfl ⟨Nat.zero_le _, Nat.zero_le _⟩ (fun g' q => fr _ _ _ _ g' q) ?_
    refine r_aload_n (pc := 163) dX10_say_163 rfl ?_
    refine r_iconst (pc := 164) (v := 2) dX10_say_164 (by decide) ?_
    refine r_iconst (pc := 165) (v := 1) dX10_say_165 (by decide) ?_
    refine r_iload (pc := 166) dX10_say_166 rfl ?_
    refine r_Vi (pc := 168) (μ' := mX10_own) dX10_say_168 nX10_40 iX10_own vX10_own kX10_own rfl rfl (rr (by omega) rfl) rfl ⟨Nat.zero_le _, Nat.zero_le _⟩ (fun g' q => ow _ _ _ g' q) ?_
    refine r_isub (pc := 171) dX10_say_171 ?_
    refine r_ireturn (pc := 172) (ty := .int) dX10_say_172 rfl rfl ⟨Nat.zero_le _, Nat.zero_le _⟩ (fun gE hg => ?_)
    exact ⟨rfl, hP _ hg.1 hg.2⟩
  by_cases s1_6 : body = 40
  · skip
    refine r_lookup (pc := 1) (off := 172) 173 dX10_say_1 (by decide) (by rw [s1_6]; decide) (by decide) ?_
    subst s1_6
    rw [sayG_40] at hP ⊢
    refine r_aload_n (pc := 173) dX10_say_173 rfl ?_
    refine r_iload_n (pc := 174) dX10_say_174 rfl ?_
    refine r_iconst (pc := 175) (v := 0) dX10_say_175 (by decide) ?_
    refine r_iload_n (pc := 176) dX10_say_176 rfl ?_
    refine r_iload (pc := 177) dX10_say_177 rfl ?_
    refine r_Vi (pc := 179) (μ' := mX10_from) dX10_say_179 nX10_44 iX10_from vX10_from kX10_from rfl rfl (rr (by omega) rfl) rfl ⟨Nat.zero_le _, Nat.zero_le _⟩ (fun g' q => fr _ _ _ _ g' q) ?_
    refine r_iconst (pc := 182) (v := 3) dX10_say_182 (by decide) ?_
    refine r_imul (pc := 183) dX10_say_183 ?_
    refine r_ireturn (pc := 184) (ty := .int) dX10_say_184 rfl rfl ⟨Nat.zero_le _, Nat.zero_le _⟩ (fun gE hg => ?_)
    exact ⟨rfl, hP _ hg.1 hg.2⟩
  by_cases s1_7 : body = 50
  · skip
    refine r_lookup (pc := 1) (off := 184) 185 dX10_say_1 (by decide) (by rw [s1_7]; decide) (by decide) ?_
    subst s1_7
    rw [sayG_50] at hP ⊢
    refine r_aload_n (pc := 185) dX10_say_185 rfl ?_
    refine r_iload_n (pc := 186) dX10_say_186 rfl ?_
    refine r_iconst (pc := 187) (v := 2) dX10_say_187 (by decide) ?_
    refine r_iload_n (pc := 188) dX10_say_188 rfl ?_
    refine r_iload (pc := 189) dX10_say_189 rfl ?_
    refine r_Vi (pc := 191) (μ' := mX10_from) dX10_say_191 nX10_44 iX10_from vX10_from kX10_from rfl rfl (rr (by omega) rfl) rfl ⟨Nat.zero_le _, Nat.zero_le _⟩ (fun g' q => fr _ _ _ _ g' q) ?_
    refine r_aload_n (pc := 194) dX10_say_194 rfl ?_
    refine r_getf (pc := 195) (k := 1) dX10_say_195 hX10 eX10 (by decide) fX10_18 (fun _ q => q.1.o) rfl ?_
    refine r_ixor (pc := 198) dX10_say_198 ?_
    refine r_ireturn (pc := 199) (ty := .int) dX10_say_199 rfl rfl ⟨Nat.zero_le _, Nat.zero_le _⟩ (fun gE hg => ?_)
    exact ⟨rfl, hP _ hg.1 hg.2⟩
  by_cases s1_8 : body = 51
  · skip
    refine r_lookup (pc := 1) (off := 199) 200 dX10_say_1 (by decide) (by rw [s1_8]; decide) (by decide) ?_
    subst s1_8
    rw [sayG_51] at hP ⊢
    refine r_aload_n (pc := 200) dX10_say_200 rfl ?_
    refine r_iconst (pc := 201) (v := 1) dX10_say_201 (by decide) ?_
    refine r_iload_n (pc := 202) dX10_say_202 rfl ?_
    refine r_iload (pc := 203) dX10_say_203 rfl ?_
    refine r_Vi (pc := 205) (μ' := mX10_own) dX10_say_205 nX10_40 iX10_own vX10_own kX10_own rfl rfl (rr (by omega) rfl) rfl ⟨Nat.zero_le _, Nat.zero_le _⟩ (fun g' q => ow _ _ _ g' q) ?_
    refine r_aload_n (pc := 208) dX10_say_208 rfl ?_
    refine r_iload_n (pc := 209) dX10_say_209 rfl ?_
    refine r_iconst (pc := 210) (v := 3) dX10_say_210 (by decide) ?_
    refine r_iload_n (pc := 211) dX10_say_211 rfl ?_
    refine r_iload (pc := 212) dX10_say_212 rfl ?_
    refine r_Vi (pc := 214) (μ' := mX10_from) dX10_say_214 nX10_44 iX10_from vX10_from kX10_from rfl rfl (rr (by omega) rfl) rfl ⟨Nat.zero_le _, Nat.zero_le _⟩ (fun g' q => fr _ _ _ _ g' q) ?_
    refine r_isub (pc := 217) dX10_say_217 ?_
    refine r_ireturn (pc := 218) (ty := .int) dX10_say_218 rfl rfl ⟨Nat.zero_le _, Nat.zero_le _⟩ (fun gE hg => ?_)
    exact ⟨rfl, hP _ hg.1 hg.2⟩
  by_cases s1_9 : body = 60
  · skip
    refine r_lookup (pc := 1) (off := 218) 219 dX10_say_1 (by decide) (by rw [s1_9]; decide) (by decide) ?_
    subst s1_9
    rw [sayG_60] at hP ⊢
    refine r_aload_n (pc := 219) dX10_say_219 rfl ?_
    refine r_iload_n (pc := 220) dX10_say_220 rfl ?_
    refine r_iconst (pc := 221) (v := 1) dX10_say_221 (by decide) ?_
    refine r_iload_n (pc := 222) dX10_say_222 rfl ?_
    refine r_iconst (pc := 223) (v := 1) dX10_say_223 (by decide) ?_
    refine r_iadd (pc := 224) dX10_say_224 ?_
    refine r_iload (pc := 225) dX10_say_225 rfl ?_
    refine r_Vi (pc := 227) (μ' := mX10_from) dX10_say_227 nX10_44 iX10_from vX10_from kX10_from rfl rfl (rr (by omega) rfl) rfl ⟨Nat.zero_le _, Nat.zero_le _⟩ (fun g' q => fr _ _ _ _ g' q) ?_
    refine r_ireturn (pc := 230) (ty := .int) dX10_say_230 rfl rfl ⟨Nat.zero_le _, Nat.zero_le _⟩ (fun gE hg => ?_)
    exact ⟨rfl, hP _ hg.1 hg.2⟩
  by_cases s1_10 : body = 70
  · skip
    refine r_lookup (pc := 1) (off := 230) 231 dX10_say_1 (by decide) (by rw [s1_10]; decide) (by decide) ?_
    subst s1_10
    rw [sayG_70] at hP ⊢
    refine r_aload_n (pc := 231) dX10_say_231 rfl ?_
    refine r_iload_n (pc := 232) dX10_say_232 rfl ?_
    refine r_iconst (pc := 233) (v := 3) dX10_say_233 (by decide) ?_
    refine r_iload_n (pc := 234) dX10_say_234 rfl ?_
    refine r_iload (pc := 235) dX10_say_235 rfl ?_
    refine r_Vi (pc := 237) (μ' := mX10_from) dX10_say_237 nX10_44 iX10_from vX10_from kX10_from rfl rfl (rr (by omega) rfl) rfl ⟨Nat.zero_le _, Nat.zero_le _⟩ (fun g' q => fr _ _ _ _ g' q) ?_
    refine r_aload_n (pc := 240) dX10_say_240 rfl ?_
    refine r_iconst (pc := 241) (v := 0) dX10_say_241 (by decide) ?_
    refine r_iconst (pc := 242) (v := 2) dX10_say_242 (by decide) ?_
    refine r_iload (pc := 243) dX10_say_243 rfl ?_
    refine r_Vi (pc := 245) (μ' := mX10_own) dX10_say_245 nX10_40 iX10_own vX10_own kX10_own rfl rfl (rr (by omega) rfl) rfl ⟨Nat.zero_le _, Nat.zero_le _⟩ (fun g' q => ow _ _ _ g' q) ?_
    refine r_isub (pc := 248) dX10_say_248 ?_
    refine r_ireturn (pc := 249) (ty := .int) dX10_say_249 rfl rfl ⟨Nat.zero_le _, Nat.zero_le _⟩ (fun gE hg => ?_)
    exact ⟨rfl, hP _ hg.1 hg.2⟩
  have t1_0 : ¬ (body).toInt = 10 := fun q => s1_0 (Int32.toInt_inj.mp q)
  have t1_1 : ¬ (body).toInt = 11 := fun q => s1_1 (Int32.toInt_inj.mp q)
  have t1_2 : ¬ (body).toInt = 12 := fun q => s1_2 (Int32.toInt_inj.mp q)
  have t1_3 : ¬ (body).toInt = 13 := fun q => s1_3 (Int32.toInt_inj.mp q)
  have t1_4 : ¬ (body).toInt = 20 := fun q => s1_4 (Int32.toInt_inj.mp q)
  have t1_5 : ¬ (body).toInt = 30 := fun q => s1_5 (Int32.toInt_inj.mp q)
  have t1_6 : ¬ (body).toInt = 40 := fun q => s1_6 (Int32.toInt_inj.mp q)
  have t1_7 : ¬ (body).toInt = 50 := fun q => s1_7 (Int32.toInt_inj.mp q)
  have t1_8 : ¬ (body).toInt = 51 := fun q => s1_8 (Int32.toInt_inj.mp q)
  have t1_9 : ¬ (body).toInt = 60 := fun q => s1_9 (Int32.toInt_inj.mp q)
  have t1_10 : ¬ (body).toInt = 70 := fun q => s1_10 (Int32.toInt_inj.mp q)
  refine r_lookup (pc := 1) (off := 249) 250 dX10_say_1 (by decide) (by simp [Op.lookupswitch.offset, t1_0, t1_1, t1_2, t1_3, t1_4, t1_5, t1_6, t1_7, t1_8, t1_9, t1_10] <;> omega) (by decide) ?_
  unfold sayG at hP ⊢
  rw [if_neg s1_0, if_neg s1_1, if_neg s1_2, if_neg s1_3, if_neg s1_4, if_neg s1_5, if_neg s1_6, if_neg s1_7, if_neg s1_8, if_neg s1_9, if_neg s1_10] at hP ⊢
  refine r_iconst (pc := 250) (v := 0) dX10_say_250 (by decide) ?_
  refine r_ireturn (pc := 251) (ty := .int) dX10_say_251 rfl rfl ⟨Nat.zero_le _, Nat.zero_le _⟩ (fun gE hg => ?_)
  exact ⟨rfl, hP _ hg.1 hg.2⟩
set_option maxHeartbeats 8000000 in
theorem ct_Vo_from : ∀ n, n ≤ 41 → FrC num kd m n := by
  intro n
  induction n with
  | zero =>
    intro hn ν s act x hd g P' hR hP
    refine ⟨hR.V, ?_⟩
    refine ct_of (by decide) (fun _ _ => Nat.le_of_ble_eq_true rfl) ?_
    dsimp only [pad, ent]
    refine aw_P (P' := fun g' => VoAt ν num kd m hd g' ∧ Off ν 3 g g') (fun g' e => by subst e; exact ⟨hR, Off.rf _ _ _⟩) ?_
    refine r_iload (pc := 0) dX10_from_0 rfl ?_
    refine r_bipush (pc := 2) (v := 40) dX10_from_2 (by decide) ?_
    refine r_icmp_le (pc := 4) 9 dX10_from_4 (by decide) (fun c4 => ?_) (fun c4 => ?_)
    · skip
      exact absurd c4 (by decide)
    · skip
      refine r_iconst (pc := 7) (v := 0) dX10_from_7 (by decide) ?_
      refine r_ireturn (pc := 8) (ty := .int) dX10_from_8 rfl rfl ⟨Nat.zero_le _, Nat.zero_le _⟩ (fun gE hg => ?_)
      exact ⟨rfl, hP _ hg.1 hg.2⟩
  | succ n ih =>
    intro hn ν s act x hd g P' hR hP
    have hT : (nI (41 - (n + 1))).toInt = ((41 - (n + 1) : Nat) : Int) := nI_T (by omega)
    refine ⟨hR.V, ?_⟩
    refine ct_of (by decide) (fun _ _ => Nat.le_of_ble_eq_true rfl) ?_
    dsimp only [pad, ent]
    rw [voiV] at hP ⊢
    have L : ∀ (k : Nat) (o : Int32), k ≤ 7 → ownerI k o act = ownerI 7 s act → AW (fun _ => True) (rmd (5 + 3 * (n + 1)) 0 0) mX10_from 0 0 15 [some (.ref ν), some (.int s), some (.int act), some (.int x), some (.int (nI (41 - (n + 1)))), some (.int o), some (.int (nI (7 - k)))] [] (fun g' => VoAt ν num kd m hd g' ∧ Off ν 3 g g') (fun v g' => v = some (.int (sayG (voiV num kd m n) num kd m (bodyI (ownerI 7 s act) act) (aboveI (ownerI 7 s act)) x (addL 40 hd (bodyI (ownerI 7 s act) act))).1) ∧ P' g') := by
      have Z : ∀ (o i : Int32), o = ownerI 7 s act → AW (fun _ => True) (rmd (5 + 3 * (n + 1)) 0 0) mX10_from 0 0 44 [some (.ref ν), some (.int s), some (.int act), some (.int x), some (.int (nI (41 - (n + 1)))), some (.int o), some (.int i)] [] (fun g' => VoAt ν num kd m hd g' ∧ Off ν 3 g g') (fun v g' => v = some (.int (sayG (voiV num kd m n) num kd m (bodyI (ownerI 7 s act) act) (aboveI (ownerI 7 s act)) x (addL 40 hd (bodyI (ownerI 7 s act) act))).1) ∧ P' g') := by
        intro o i ho
        rw [← ho] at hP ⊢
        refine r_iload (pc := 44) dX10_from_44 rfl ?_
        refine r_iload_n (pc := 46) dX10_from_46 rfl ?_
        refine r_Sp (pc := 47) (μ' := mX10_bodyOf) dX10_from_47 nX10_50 sX10_bodyOf kX10_bodyOf rfl rfl (rr (by omega) rfl) rfl ⟨Nat.zero_le _, Nat.zero_le _⟩ (fun h => ct_Vo_bodyOf h) ?_
        refine r_istore (pc := 50) dX10_from_50 (Nat.le_of_ble_eq_true rfl) rfl ?_
        dsimp only [lset]
        refine r_aload_n (pc := 52) dX10_from_52 rfl ?_
        refine r_getf (pc := 53) (k := 0) dX10_from_53 hX10 eX10 (by decide) fX10_14 (fun _ q => q.1.o) rfl ?_
        refine r_iload (pc := 56) dX10_from_56 rfl ?_
        refine r_Vi (pc := 58) (μ' := mX5_add) dX10_from_58 nX10_57 iX5_add vX5_add kX5_add rfl rfl (rr (by omega) rfl) rfl ⟨Nat.zero_le _, Nat.zero_le _⟩ (fun g' q => ct_Row_add (P' := fun g2 => VoAt ν num kd m (addL 40 hd (bodyI o act)) g2 ∧ Off ν 3 g g2) q.1.2.2 (fun g2 a b => ⟨q.1.setL a b, q.2.tr (b.wide (by omega) (by omega))⟩)) ?_
        refine r_pop (pc := 61) dX10_from_61 rfl ?_
        refine r_aload_n (pc := 62) dX10_from_62 rfl ?_
        refine r_iload (pc := 63) dX10_from_63 rfl ?_
        refine r_iload (pc := 65) dX10_from_65 rfl ?_
        refine r_Sp (pc := 67) (μ' := mX3_above) dX10_from_67 nX10_54 sX3_above kX3_above rfl rfl (rr (by omega) rfl) rfl ⟨Nat.zero_le _, Nat.zero_le _⟩ (fun h => ct_Kinds_above h) ?_
        refine r_iload_n (pc := 70) dX10_from_70 rfl ?_
        refine r_iload (pc := 71) dX10_from_71 rfl ?_
        refine r_iconst (pc := 73) (v := 1) dX10_from_73 (by decide) ?_
        refine r_iadd (pc := 74) dX10_from_74 ?_
        rw [nI_s, show 41 - (n + 1) + 1 = 41 - n by omega]
        refine r_Vi (pc := 75) (μ' := mX10_say) dX10_from_75 nX10_61 iX10_say vX10_say kX10_say rfl rfl (rr (by omega) rfl) rfl ⟨Nat.zero_le _, Nat.zero_le _⟩ (fun g' q => ct_Vo_say (ih (by omega)) q.1 (fun g2 a b => hP g2 a (q.2.tr b))) ?_
        refine r_ireturn (pc := 78) (ty := .int) dX10_from_78 rfl rfl ⟨Nat.zero_le _, Nat.zero_le _⟩ (fun gE hg => ?_)
        exact ⟨rfl, hg⟩
      intro k
      induction k with
      | zero =>
        intro o hk ho
        refine r_iload (pc := 15) dX10_from_15 rfl ?_
        refine r_bipush (pc := 17) (v := 7) dX10_from_17 (by decide) ?_
        refine r_icmp_ge (pc := 19) 44 dX10_from_19 (by decide) (fun c19 => ?_) (fun c19 => ?_)
        · skip
          exact Z _ _ ho
        · skip
          exact absurd (show (7 : Int32) ≤ nI (7 - 0) by decide) c19
      | succ k ihk =>
        intro o hk ho
        have hTk : (nI (7 - (k + 1))).toInt = ((7 - (k + 1) : Nat) : Int) := nI_T (by omega)
        refine r_iload (pc := 15) dX10_from_15 rfl ?_
        refine r_bipush (pc := 17) (v := 7) dX10_from_17 (by decide) ?_
        refine r_icmp_ge (pc := 19) 44 dX10_from_19 (by decide) (fun c19 => ?_) (fun c19 => ?_)
        · skip
          exact absurd (fa_le.mp c19) (by rw [hTk, show (7 : Int32).toInt = 7 from rfl]; omega)
        · skip
          refine r_iload (pc := 22) dX10_from_22 rfl ?_
          refine r_iload_n (pc := 24) dX10_from_24 rfl ?_
          refine r_Sp (pc := 25) (μ' := mX10_bodyOf) dX10_from_25 nX10_50 sX10_bodyOf kX10_bodyOf rfl rfl (rr (by omega) rfl) rfl ⟨Nat.zero_le _, Nat.zero_le _⟩ (fun h => ct_Vo_bodyOf h) ?_
          refine r_if_ne (pc := 28) 44 dX10_from_28 (by decide) (fun c28 => ?_) (fun c28 => ?_)
          · skip
            exact Z _ _ (by rw [← ho, ownerI, if_neg c28])
          · skip
            refine r_iload (pc := 31) dX10_from_31 rfl ?_
            refine r_Sp (pc := 33) (μ' := mX3_above) dX10_from_33 nX10_54 sX3_above kX3_above rfl rfl (rr (by omega) rfl) rfl ⟨Nat.zero_le _, Nat.zero_le _⟩ (fun h => ct_Kinds_above h) ?_
            refine r_istore (pc := 36) dX10_from_36 (Nat.le_of_ble_eq_true rfl) rfl ?_
            dsimp only [lset]
            refine r_iinc1 (pc := 38) dX10_from_38 rfl (Nat.le_of_ble_eq_true rfl) rfl ?_
            dsimp only [lset]
            refine r_goto (pc := 41) 15 dX10_from_41 (by decide) ?_
            rw [nI_s, show 7 - (k + 1) + 1 = 7 - k by omega]
            exact ihk _ (by omega) (by rw [← ho, ownerI, if_pos c28])
    refine aw_P (P' := fun g' => VoAt ν num kd m hd g' ∧ Off ν 3 g g') (fun g' e => by subst e; exact ⟨hR, Off.rf _ _ _⟩) ?_
    refine r_iload (pc := 0) dX10_from_0 rfl ?_
    refine r_bipush (pc := 2) (v := 40) dX10_from_2 (by decide) ?_
    refine r_icmp_le (pc := 4) 9 dX10_from_4 (by decide) (fun c4 => ?_) (fun c4 => ?_)
    · skip
      refine r_iload_n (pc := 9) dX10_from_9 rfl ?_
      refine r_istore (pc := 10) dX10_from_10 (Nat.le_of_ble_eq_true rfl) rfl ?_
      dsimp only [lset]
      refine r_iconst (pc := 12) (v := 0) dX10_from_12 (by decide) ?_
      refine r_istore (pc := 13) dX10_from_13 (Nat.le_of_ble_eq_true rfl) rfl ?_
      dsimp only [lset]
      exact L 7 s (Nat.le_refl _) rfl
    · skip
      exact absurd (fa_le.mpr (by rw [hT, show (40 : Int32).toInt = 40 from rfl]; omega)) c4
set_option maxHeartbeats 4000000 in
theorem ct_Vo_speak {c : Nat} {ks ms : List Int32} {i act x : Int32} (hR : VoAt ν num kd m hd g) (hC : CrewAt c ks ms g) (hd2 : c + 5 ≤ ν ∨ ν + 3 ≤ c) (hP : ∀ g', VoAt ν i (atL ks i) (atL ms i) (voiV i (atL ks i) (atL ms i) 41 (atL ks i) act x []).2 g' → Off ν 3 g g' → P' g') : CV 131 0 0 mX10_speak ν [.ref c, .int i, .int act, .int x] g (fun v g' => v = some (.int (voiV i (atL ks i) (atL ms i) 41 (atL ks i) act x []).1) ∧ P' g') := by
  refine ⟨hR.V, ?_⟩
  refine ct_of (by decide) (fun _ _ => Nat.le_of_ble_eq_true rfl) ?_
  dsimp only [pad, ent]
  refine aw_P (P' := fun g' => VoAt ν num kd m hd g' ∧ Off ν 3 g g') (fun g' e => by subst e; exact ⟨hR, Off.rf _ _ _⟩) ?_
  refine r_aload_n (pc := 0) dX10_speak_0 rfl ?_
  refine r_getf (pc := 1) (k := 0) dX10_speak_1 hX10 eX10 (by decide) fX10_14 (fun _ q => q.1.o) rfl ?_
  refine r_Vv (pc := 4) (μ' := mX5_clear) dX10_speak_4 nX10_28 iX5_clear vX5_clear kX5_clear rfl rfl (rr (by decide) rfl) rfl ⟨Nat.zero_le _, Nat.zero_le _⟩ (fun g' q => ct_Row_clear (P' := fun g2 => VoAt ν num kd m [] g2 ∧ Off ν 3 g g2) q.1.2.2 (fun g2 a b => ⟨q.1.setL a b, q.2.tr (b.wide (by omega) (by omega))⟩)) ?_
  refine r_aload_n (pc := 7) dX10_speak_7 rfl ?_
  refine r_iload_n (pc := 8) dX10_speak_8 rfl ?_
  refine r_putf (pc := 9) (k := 1) (P' := fun g2 => VoAt ν i kd m [] g2 ∧ Off ν 3 g g2) tyX10 dX10_speak_9 hX10 tyX10_ok nmX10 eX10 (by decide) fX10_18 rfl rfl (fun _ _ => rfl) (fun _ _ => rfl) (Nat.le_of_ble_eq_true rfl) (fun _ q => q.1.o) (fun _ q => ⟨q.1.put, q.2.set (by omega) (by omega)⟩) ?_
  refine r_aload_n (pc := 12) dX10_speak_12 rfl ?_
  refine r_aload_n (pc := 13) dX10_speak_13 rfl ?_
  refine r_iload_n (pc := 14) dX10_speak_14 rfl ?_
  refine r_Vi (pc := 15) (μ' := mX1_kindOf) dX10_speak_15 nX10_31 iX1_kindOf vX1_kindOf kX1_kindOf rfl rfl (rr (by decide) rfl) rfl ⟨Nat.zero_le _, Nat.zero_le _⟩ (fun g' q => ct_Crew_kindOf (hC.off q.2 (by omega)) q) ?_
  refine r_putf (pc := 18) (k := 2) (P' := fun g2 => VoAt ν i (atL ks i) m [] g2 ∧ Off ν 3 g g2) tyX10 dX10_speak_18 hX10 tyX10_ok nmX10 eX10 (by decide) fX10_22 rfl rfl (fun _ _ => rfl) (fun _ _ => rfl) (Nat.le_of_ble_eq_true rfl) (fun _ q => q.1.o) (fun _ q => ⟨q.1.put, q.2.set (by omega) (by omega)⟩) ?_
  refine r_aload_n (pc := 21) dX10_speak_21 rfl ?_
  refine r_aload_n (pc := 22) dX10_speak_22 rfl ?_
  refine r_iload_n (pc := 23) dX10_speak_23 rfl ?_
  refine r_Vi (pc := 24) (μ' := mX1_numberOf) dX10_speak_24 nX10_37 iX1_numberOf vX1_numberOf kX1_numberOf rfl rfl (rr (by decide) rfl) rfl ⟨Nat.zero_le _, Nat.zero_le _⟩ (fun g' q => ct_Crew_numberOf (hC.off q.2 (by omega)) q) ?_
  refine r_putf (pc := 27) (k := 3) (P' := fun g2 => VoAt ν i (atL ks i) (atL ms i) [] g2 ∧ Off ν 3 g g2) tyX10 dX10_speak_27 hX10 tyX10_ok nmX10 eX10 (by decide) fX10_25 rfl rfl (fun _ _ => rfl) (fun _ _ => rfl) (Nat.le_of_ble_eq_true rfl) (fun _ q => q.1.o) (fun _ q => ⟨q.1.put, q.2.set (by omega) (by omega)⟩) ?_
  refine r_aload_n (pc := 30) dX10_speak_30 rfl ?_
  refine r_iload_n (pc := 31) dX10_speak_31 rfl ?_
  refine r_iload (pc := 32) dX10_speak_32 rfl ?_
  refine r_iconst (pc := 34) (v := 0) dX10_speak_34 (by decide) ?_
  rw [show (0 : Int32) = nI (41 - 41) from rfl]
  refine r_Vi (pc := 35) (μ' := mX10_own) dX10_speak_35 nX10_40 iX10_own vX10_own kX10_own rfl rfl (rr (by decide) rfl) rfl ⟨Nat.zero_le _, Nat.zero_le _⟩ (fun g' q => ct_Vo_own (ct_Vo_from 41 (Nat.le_refl _)) q.1 (fun g2 a b => hP g2 a (q.2.tr b))) ?_
  refine r_ireturn (pc := 38) (ty := .int) dX10_speak_38 rfl rfl ⟨Nat.zero_le _, Nat.zero_le _⟩ (fun gE hg => ?_)
  exact ⟨rfl, hg⟩
set_option maxHeartbeats 4000000 in
theorem ct_Vo_heard (hR : VoAt ν num kd m hd g) (hP : P' g) : CV 1 0 0 mX10_heard ν [] g (fun v g' => v = some (.ref (ν + 1)) ∧ P' g') := by
  refine ⟨hR.V, ?_⟩
  refine ct_of (by decide) (fun _ _ => Nat.le_of_ble_eq_true rfl) ?_
  dsimp only [pad, ent]
  refine aw_P (P' := fun g' => VoAt ν num kd m hd g' ∧ g' = g) (fun g' e => by subst e; exact ⟨hR, rfl⟩) ?_
  refine r_aload_n (pc := 0) dX10_heard_0 rfl ?_
  refine r_getf (pc := 1) (k := 0) dX10_heard_1 hX10 eX10 (by decide) fX10_14 (fun _ q => q.1.o) rfl ?_
  refine r_areturn (pc := 4) dX10_heard_4 rfl ⟨Nat.zero_le _, Nat.zero_le _⟩ (fun gE hg => ?_)
  exact ⟨rfl, by rw [hg.2]; exact hP⟩
end Vo
end
