section
-- ===== PART A: goes FIRST, ahead of the names: the tables' words, and 'selects' of the private methods out of them =====
/-- a private method of a class that the tables say can be made, by its rows of tables_1 -/
def lw_okq (q : MethodName × Nat) : Prop := (q.1.cls ≠ "java/lang/invoke/MethodHandle" ∧ q.1.cls ≠ "java/lang/invoke/VarHandle") ∧ Cond.instantiable q.1.cls q.2 ∈ tables_1 ∧ Cond.privateMethod q.1 ∈ tables_1 ∧ Cond.instanceMethod q.1 ∈ tables_1
theorem lw_p0 : lw_okq (⟨"OneGoCeiling", "error", "(I)I"⟩, 9) := ⟨⟨by decide +kernel, by decide +kernel⟩, List.mem_of_getElem? (i := 16) (by decide +kernel), List.mem_of_getElem? (i := 317) (by decide +kernel), List.mem_of_getElem? (i := 318) (by decide +kernel)⟩
theorem lw_p1 : lw_okq (⟨"OneGoCeiling", "textOf", "(I)LOneGoCeiling$Text;"⟩, 9) := ⟨⟨by decide +kernel, by decide +kernel⟩, List.mem_of_getElem? (i := 16) (by decide +kernel), List.mem_of_getElem? (i := 502) (by decide +kernel), List.mem_of_getElem? (i := 503) (by decide +kernel)⟩
theorem lw_p2 : lw_okq (⟨"OneGoCeiling$Reader", "readT", "(I)V"⟩, 5) := ⟨⟨by decide +kernel, by decide +kernel⟩, List.mem_of_getElem? (i := 157) (by decide +kernel), List.mem_of_getElem? (i := 514) (by decide +kernel), List.mem_of_getElem? (i := 515) (by decide +kernel)⟩
theorem lw_p3 : lw_okq (⟨"OneGoCeiling$Reader", "readA", "(I)V"⟩, 5) := ⟨⟨by decide +kernel, by decide +kernel⟩, List.mem_of_getElem? (i := 157) (by decide +kernel), List.mem_of_getElem? (i := 518) (by decide +kernel), List.mem_of_getElem? (i := 519) (by decide +kernel)⟩
theorem lw_p4 : lw_okq (⟨"OneGoCeiling$Reader", "readB", "(I)V"⟩, 5) := ⟨⟨by decide +kernel, by decide +kernel⟩, List.mem_of_getElem? (i := 157) (by decide +kernel), List.mem_of_getElem? (i := 522) (by decide +kernel), List.mem_of_getElem? (i := 523) (by decide +kernel)⟩
theorem lw_p5 : lw_okq (⟨"OneGoCeiling$Reader", "readS", "(I)V"⟩, 5) := ⟨⟨by decide +kernel, by decide +kernel⟩, List.mem_of_getElem? (i := 157) (by decide +kernel), List.mem_of_getElem? (i := 526) (by decide +kernel), List.mem_of_getElem? (i := 527) (by decide +kernel)⟩
theorem lw_p6 : lw_okq (⟨"OneGoCeiling$Reader", "readP", "(I)V"⟩, 5) := ⟨⟨by decide +kernel, by decide +kernel⟩, List.mem_of_getElem? (i := 157) (by decide +kernel), List.mem_of_getElem? (i := 530) (by decide +kernel), List.mem_of_getElem? (i := 531) (by decide +kernel)⟩
theorem lw_p7 : lw_okq (⟨"OneGoCeiling$Reader", "readQ", "(I)V"⟩, 5) := ⟨⟨by decide +kernel, by decide +kernel⟩, List.mem_of_getElem? (i := 157) (by decide +kernel), List.mem_of_getElem? (i := 534) (by decide +kernel), List.mem_of_getElem? (i := 535) (by decide +kernel)⟩
theorem lw_p8 : lw_okq (⟨"OneGoCeiling$Reader", "next", "()I"⟩, 5) := ⟨⟨by decide +kernel, by decide +kernel⟩, List.mem_of_getElem? (i := 157) (by decide +kernel), List.mem_of_getElem? (i := 538) (by decide +kernel), List.mem_of_getElem? (i := 539) (by decide +kernel)⟩
theorem lw_p9 : lw_okq (⟨"OneGoCeiling$Reader", "readNumber", "()V"⟩, 5) := ⟨⟨by decide +kernel, by decide +kernel⟩, List.mem_of_getElem? (i := 157) (by decide +kernel), List.mem_of_getElem? (i := 547) (by decide +kernel), List.mem_of_getElem? (i := 548) (by decide +kernel)⟩
theorem lw_p10 : lw_okq (⟨"OneGoCeiling$Reader", "emit", "(I)V"⟩, 5) := ⟨⟨by decide +kernel, by decide +kernel⟩, List.mem_of_getElem? (i := 157) (by decide +kernel), List.mem_of_getElem? (i := 556) (by decide +kernel), List.mem_of_getElem? (i := 557) (by decide +kernel)⟩
theorem lw_p11 : lw_okq (⟨"OneGoCeiling$Reader", "nextIs", "(I)Z"⟩, 5) := ⟨⟨by decide +kernel, by decide +kernel⟩, List.mem_of_getElem? (i := 157) (by decide +kernel), List.mem_of_getElem? (i := 560) (by decide +kernel), List.mem_of_getElem? (i := 561) (by decide +kernel)⟩
theorem lw_p12 : lw_okq (⟨"OneGoCeiling$Ceiling", "openCan", "()V"⟩, 10) := ⟨⟨by decide +kernel, by decide +kernel⟩, List.mem_of_getElem? (i := 30) (by decide +kernel), List.mem_of_getElem? (i := 599) (by decide +kernel), List.mem_of_getElem? (i := 600) (by decide +kernel)⟩
theorem lw_p13 : lw_okq (⟨"OneGoCeiling$State", "draw", "(I)I"⟩, 7) := ⟨⟨by decide +kernel, by decide +kernel⟩, List.mem_of_getElem? (i := 24) (by decide +kernel), List.mem_of_getElem? (i := 632) (by decide +kernel), List.mem_of_getElem? (i := 633) (by decide +kernel)⟩
theorem lw_p14 : lw_okq (⟨"OneGoCeiling", "sheetOf", "(I)LOneGoCeiling$Sheet;"⟩, 9) := ⟨⟨by decide +kernel, by decide +kernel⟩, List.mem_of_getElem? (i := 16) (by decide +kernel), List.mem_of_getElem? (i := 683) (by decide +kernel), List.mem_of_getElem? (i := 684) (by decide +kernel)⟩
theorem lw_p15 : lw_okq (⟨"OneGoCeiling$Thought", "extendOrder", "(II)V"⟩, 9) := ⟨⟨by decide +kernel, by decide +kernel⟩, List.mem_of_getElem? (i := 203) (by decide +kernel), List.mem_of_getElem? (i := 743) (by decide +kernel), List.mem_of_getElem? (i := 744) (by decide +kernel)⟩
def lw_privs_1 : List (MethodName × Nat) := [(⟨"OneGoCeiling", "error", "(I)I"⟩, 9), (⟨"OneGoCeiling", "textOf", "(I)LOneGoCeiling$Text;"⟩, 9), (⟨"OneGoCeiling$Reader", "readT", "(I)V"⟩, 5), (⟨"OneGoCeiling$Reader", "readA", "(I)V"⟩, 5), (⟨"OneGoCeiling$Reader", "readB", "(I)V"⟩, 5), (⟨"OneGoCeiling$Reader", "readS", "(I)V"⟩, 5), (⟨"OneGoCeiling$Reader", "readP", "(I)V"⟩, 5), (⟨"OneGoCeiling$Reader", "readQ", "(I)V"⟩, 5), (⟨"OneGoCeiling$Reader", "next", "()I"⟩, 5), (⟨"OneGoCeiling$Reader", "readNumber", "()V"⟩, 5), (⟨"OneGoCeiling$Reader", "emit", "(I)V"⟩, 5), (⟨"OneGoCeiling$Reader", "nextIs", "(I)Z"⟩, 5), (⟨"OneGoCeiling$Ceiling", "openCan", "()V"⟩, 10), (⟨"OneGoCeiling$State", "draw", "(I)I"⟩, 7), (⟨"OneGoCeiling", "sheetOf", "(I)LOneGoCeiling$Sheet;"⟩, 9), (⟨"OneGoCeiling$Thought", "extendOrder", "(II)V"⟩, 9)]
theorem lw_r1 : ∀ q ∈ lw_privs_1, lw_okq q := List.forall_mem_cons.mpr ⟨lw_p0, List.forall_mem_cons.mpr ⟨lw_p1, List.forall_mem_cons.mpr ⟨lw_p2, List.forall_mem_cons.mpr ⟨lw_p3, List.forall_mem_cons.mpr ⟨lw_p4, List.forall_mem_cons.mpr ⟨lw_p5, List.forall_mem_cons.mpr ⟨lw_p6, List.forall_mem_cons.mpr ⟨lw_p7, List.forall_mem_cons.mpr ⟨lw_p8, List.forall_mem_cons.mpr ⟨lw_p9, List.forall_mem_cons.mpr ⟨lw_p10, List.forall_mem_cons.mpr ⟨lw_p11, List.forall_mem_cons.mpr ⟨lw_p12, List.forall_mem_cons.mpr ⟨lw_p13, List.forall_mem_cons.mpr ⟨lw_p14, List.forall_mem_cons.mpr ⟨lw_p15, fun _ h => absurd h List.not_mem_nil⟩⟩⟩⟩⟩⟩⟩⟩⟩⟩⟩⟩⟩⟩⟩⟩
theorem lw_p16 : lw_okq (⟨"OneGoCeiling$Thought", "seenBeside", "(I)I"⟩, 9) := ⟨⟨by decide +kernel, by decide +kernel⟩, List.mem_of_getElem? (i := 203) (by decide +kernel), List.mem_of_getElem? (i := 748) (by decide +kernel), List.mem_of_getElem? (i := 749) (by decide +kernel)⟩
theorem lw_p17 : lw_okq (⟨"OneGoCeiling", "isLaterStrip", "(I)Z"⟩, 9) := ⟨⟨by decide +kernel, by decide +kernel⟩, List.mem_of_getElem? (i := 16) (by decide +kernel), List.mem_of_getElem? (i := 776) (by decide +kernel), List.mem_of_getElem? (i := 777) (by decide +kernel)⟩
theorem lw_p18 : lw_okq (⟨"OneGoCeiling$Voices", "own", "(III)I"⟩, 4) := ⟨⟨by decide +kernel, by decide +kernel⟩, List.mem_of_getElem? (i := 241) (by decide +kernel), List.mem_of_getElem? (i := 859) (by decide +kernel), List.mem_of_getElem? (i := 860) (by decide +kernel)⟩
theorem lw_p19 : lw_okq (⟨"OneGoCeiling$Voices", "from", "(IIII)I"⟩, 4) := ⟨⟨by decide +kernel, by decide +kernel⟩, List.mem_of_getElem? (i := 241) (by decide +kernel), List.mem_of_getElem? (i := 863) (by decide +kernel), List.mem_of_getElem? (i := 864) (by decide +kernel)⟩
theorem lw_p20 : lw_okq (⟨"OneGoCeiling$Voices", "say", "(IIII)I"⟩, 4) := ⟨⟨by decide +kernel, by decide +kernel⟩, List.mem_of_getElem? (i := 241) (by decide +kernel), List.mem_of_getElem? (i := 874) (by decide +kernel), List.mem_of_getElem? (i := 875) (by decide +kernel)⟩
theorem lw_p21 : lw_okq (⟨"OneGoCeilingModel", "bare", "(II)V"⟩, 30) := ⟨⟨by decide +kernel, by decide +kernel⟩, List.mem_of_getElem? (i := 1013) (by decide +kernel), List.mem_of_getElem? (i := 1019) (by decide +kernel), List.mem_of_getElem? (i := 1020) (by decide +kernel)⟩
theorem lw_p22 : lw_okq (⟨"OneGoCeilingModel", "errs", "(I)I"⟩, 30) := ⟨⟨by decide +kernel, by decide +kernel⟩, List.mem_of_getElem? (i := 1013) (by decide +kernel), List.mem_of_getElem? (i := 1122) (by decide +kernel), List.mem_of_getElem? (i := 1123) (by decide +kernel)⟩
theorem lw_p23 : lw_okq (⟨"OneGoCeilingModel", "cells", "()I"⟩, 30) := ⟨⟨by decide +kernel, by decide +kernel⟩, List.mem_of_getElem? (i := 1013) (by decide +kernel), List.mem_of_getElem? (i := 1127) (by decide +kernel), List.mem_of_getElem? (i := 1128) (by decide +kernel)⟩
theorem lw_p24 : lw_okq (⟨"OneGoCeilingModel", "isCell", "(I)Z"⟩, 30) := ⟨⟨by decide +kernel, by decide +kernel⟩, List.mem_of_getElem? (i := 1013) (by decide +kernel), List.mem_of_getElem? (i := 1139) (by decide +kernel), List.mem_of_getElem? (i := 1140) (by decide +kernel)⟩
theorem lw_p25 : lw_okq (⟨"OneGoCeilingModel", "whenOf", "(I)I"⟩, 30) := ⟨⟨by decide +kernel, by decide +kernel⟩, List.mem_of_getElem? (i := 1013) (by decide +kernel), List.mem_of_getElem? (i := 1143) (by decide +kernel), List.mem_of_getElem? (i := 1144) (by decide +kernel)⟩
theorem lw_p26 : lw_okq (⟨"OneGoCeilingModel", "whiteOf", "(I)I"⟩, 30) := ⟨⟨by decide +kernel, by decide +kernel⟩, List.mem_of_getElem? (i := 1013) (by decide +kernel), List.mem_of_getElem? (i := 1147) (by decide +kernel), List.mem_of_getElem? (i := 1148) (by decide +kernel)⟩
theorem lw_p27 : lw_okq (⟨"OneGoCeilingModel", "driesAt", "(I)I"⟩, 30) := ⟨⟨by decide +kernel, by decide +kernel⟩, List.mem_of_getElem? (i := 1013) (by decide +kernel), List.mem_of_getElem? (i := 1151) (by decide +kernel), List.mem_of_getElem? (i := 1152) (by decide +kernel)⟩
theorem lw_p28 : lw_okq (⟨"OneGoCeilingModel", "lawOf", "(IIII)I"⟩, 30) := ⟨⟨by decide +kernel, by decide +kernel⟩, List.mem_of_getElem? (i := 1013) (by decide +kernel), List.mem_of_getElem? (i := 1155) (by decide +kernel), List.mem_of_getElem? (i := 1156) (by decide +kernel)⟩
theorem lw_p29 : lw_okq (⟨"OneGoCeilingModel", "walks", "(IIII)I"⟩, 30) := ⟨⟨by decide +kernel, by decide +kernel⟩, List.mem_of_getElem? (i := 1013) (by decide +kernel), List.mem_of_getElem? (i := 1162) (by decide +kernel), List.mem_of_getElem? (i := 1163) (by decide +kernel)⟩
theorem lw_p30 : lw_okq (⟨"OneGoCeilingModel", "whole", "()I"⟩, 30) := ⟨⟨by decide +kernel, by decide +kernel⟩, List.mem_of_getElem? (i := 1013) (by decide +kernel), List.mem_of_getElem? (i := 1166) (by decide +kernel), List.mem_of_getElem? (i := 1167) (by decide +kernel)⟩
theorem lw_p31 : lw_okq (⟨"OneGoCeilingModel", "both", "()I"⟩, 30) := ⟨⟨by decide +kernel, by decide +kernel⟩, List.mem_of_getElem? (i := 1013) (by decide +kernel), List.mem_of_getElem? (i := 1170) (by decide +kernel), List.mem_of_getElem? (i := 1171) (by decide +kernel)⟩
def lw_privs_2 : List (MethodName × Nat) := [(⟨"OneGoCeiling$Thought", "seenBeside", "(I)I"⟩, 9), (⟨"OneGoCeiling", "isLaterStrip", "(I)Z"⟩, 9), (⟨"OneGoCeiling$Voices", "own", "(III)I"⟩, 4), (⟨"OneGoCeiling$Voices", "from", "(IIII)I"⟩, 4), (⟨"OneGoCeiling$Voices", "say", "(IIII)I"⟩, 4), (⟨"OneGoCeilingModel", "bare", "(II)V"⟩, 30), (⟨"OneGoCeilingModel", "errs", "(I)I"⟩, 30), (⟨"OneGoCeilingModel", "cells", "()I"⟩, 30), (⟨"OneGoCeilingModel", "isCell", "(I)Z"⟩, 30), (⟨"OneGoCeilingModel", "whenOf", "(I)I"⟩, 30), (⟨"OneGoCeilingModel", "whiteOf", "(I)I"⟩, 30), (⟨"OneGoCeilingModel", "driesAt", "(I)I"⟩, 30), (⟨"OneGoCeilingModel", "lawOf", "(IIII)I"⟩, 30), (⟨"OneGoCeilingModel", "walks", "(IIII)I"⟩, 30), (⟨"OneGoCeilingModel", "whole", "()I"⟩, 30), (⟨"OneGoCeilingModel", "both", "()I"⟩, 30)]
theorem lw_r2 : ∀ q ∈ lw_privs_2, lw_okq q := List.forall_mem_cons.mpr ⟨lw_p16, List.forall_mem_cons.mpr ⟨lw_p17, List.forall_mem_cons.mpr ⟨lw_p18, List.forall_mem_cons.mpr ⟨lw_p19, List.forall_mem_cons.mpr ⟨lw_p20, List.forall_mem_cons.mpr ⟨lw_p21, List.forall_mem_cons.mpr ⟨lw_p22, List.forall_mem_cons.mpr ⟨lw_p23, List.forall_mem_cons.mpr ⟨lw_p24, List.forall_mem_cons.mpr ⟨lw_p25, List.forall_mem_cons.mpr ⟨lw_p26, List.forall_mem_cons.mpr ⟨lw_p27, List.forall_mem_cons.mpr ⟨lw_p28, List.forall_mem_cons.mpr ⟨lw_p29, List.forall_mem_cons.mpr ⟨lw_p30, List.forall_mem_cons.mpr ⟨lw_p31, fun _ h => absurd h List.not_mem_nil⟩⟩⟩⟩⟩⟩⟩⟩⟩⟩⟩⟩⟩⟩⟩⟩
theorem lw_p32 : lw_okq (⟨"OneGoCeilingModel", "compared", "()I"⟩, 30) := ⟨⟨by decide +kernel, by decide +kernel⟩, List.mem_of_getElem? (i := 1013) (by decide +kernel), List.mem_of_getElem? (i := 1174) (by decide +kernel), List.mem_of_getElem? (i := 1175) (by decide +kernel)⟩
theorem lw_p33 : lw_okq (⟨"OneGoCeilingModel", "sum", "()I"⟩, 30) := ⟨⟨by decide +kernel, by decide +kernel⟩, List.mem_of_getElem? (i := 1013) (by decide +kernel), List.mem_of_getElem? (i := 1178) (by decide +kernel), List.mem_of_getElem? (i := 1179) (by decide +kernel)⟩
theorem lw_p34 : lw_okq (⟨"OneGoCeilingModel", "product", "()I"⟩, 30) := ⟨⟨by decide +kernel, by decide +kernel⟩, List.mem_of_getElem? (i := 1013) (by decide +kernel), List.mem_of_getElem? (i := 1182) (by decide +kernel), List.mem_of_getElem? (i := 1183) (by decide +kernel)⟩
theorem lw_p35 : lw_okq (⟨"OneGoCeilingModel", "factor", "()I"⟩, 30) := ⟨⟨by decide +kernel, by decide +kernel⟩, List.mem_of_getElem? (i := 1013) (by decide +kernel), List.mem_of_getElem? (i := 1186) (by decide +kernel), List.mem_of_getElem? (i := 1187) (by decide +kernel)⟩
theorem lw_p36 : lw_okq (⟨"OneGoCeilingModel", "byteAt", "(I)I"⟩, 30) := ⟨⟨by decide +kernel, by decide +kernel⟩, List.mem_of_getElem? (i := 1013) (by decide +kernel), List.mem_of_getElem? (i := 1190) (by decide +kernel), List.mem_of_getElem? (i := 1191) (by decide +kernel)⟩
theorem lw_p37 : lw_okq (⟨"OneGoCeilingModel", "number", "()I"⟩, 30) := ⟨⟨by decide +kernel, by decide +kernel⟩, List.mem_of_getElem? (i := 1013) (by decide +kernel), List.mem_of_getElem? (i := 1197) (by decide +kernel), List.mem_of_getElem? (i := 1198) (by decide +kernel)⟩
theorem lw_p38 : lw_okq (⟨"OneGoCeilingModel", "named", "(I)I"⟩, 30) := ⟨⟨by decide +kernel, by decide +kernel⟩, List.mem_of_getElem? (i := 1013) (by decide +kernel), List.mem_of_getElem? (i := 1201) (by decide +kernel), List.mem_of_getElem? (i := 1202) (by decide +kernel)⟩
theorem lw_p39 : lw_okq (⟨"OneGoCeilingModel", "fails", "()I"⟩, 30) := ⟨⟨by decide +kernel, by decide +kernel⟩, List.mem_of_getElem? (i := 1013) (by decide +kernel), List.mem_of_getElem? (i := 1205) (by decide +kernel), List.mem_of_getElem? (i := 1206) (by decide +kernel)⟩
theorem lw_p40 : lw_okq (⟨"OneGoCeilingModel", "seamAt", "(I)I"⟩, 30) := ⟨⟨by decide +kernel, by decide +kernel⟩, List.mem_of_getElem? (i := 1013) (by decide +kernel), List.mem_of_getElem? (i := 1209) (by decide +kernel), List.mem_of_getElem? (i := 1210) (by decide +kernel)⟩
theorem lw_p41 : lw_okq (⟨"OneGoCeilingModel", "isSeam", "(I)Z"⟩, 30) := ⟨⟨by decide +kernel, by decide +kernel⟩, List.mem_of_getElem? (i := 1013) (by decide +kernel), List.mem_of_getElem? (i := 1213) (by decide +kernel), List.mem_of_getElem? (i := 1214) (by decide +kernel)⟩
theorem lw_p42 : lw_okq (⟨"OneGoCeilingModel", "isHand", "(I)Z"⟩, 30) := ⟨⟨by decide +kernel, by decide +kernel⟩, List.mem_of_getElem? (i := 1013) (by decide +kernel), List.mem_of_getElem? (i := 1226) (by decide +kernel), List.mem_of_getElem? (i := 1227) (by decide +kernel)⟩
theorem lw_p43 : lw_okq (⟨"OneGoCeilingModel", "kindOf", "(I)I"⟩, 30) := ⟨⟨by decide +kernel, by decide +kernel⟩, List.mem_of_getElem? (i := 1013) (by decide +kernel), List.mem_of_getElem? (i := 1230) (by decide +kernel), List.mem_of_getElem? (i := 1231) (by decide +kernel)⟩
theorem lw_p44 : lw_okq (⟨"OneGoCeilingModel", "mOf", "(I)I"⟩, 30) := ⟨⟨by decide +kernel, by decide +kernel⟩, List.mem_of_getElem? (i := 1013) (by decide +kernel), List.mem_of_getElem? (i := 1234) (by decide +kernel), List.mem_of_getElem? (i := 1235) (by decide +kernel)⟩
theorem lw_p45 : lw_okq (⟨"OneGoCeilingModel", "moveAll", "([I[I)V"⟩, 30) := ⟨⟨by decide +kernel, by decide +kernel⟩, List.mem_of_getElem? (i := 1013) (by decide +kernel), List.mem_of_getElem? (i := 1272) (by decide +kernel), List.mem_of_getElem? (i := 1273) (by decide +kernel)⟩
theorem lw_p46 : lw_okq (⟨"OneGoCeilingModel", "isStrip", "(I)Z"⟩, 30) := ⟨⟨by decide +kernel, by decide +kernel⟩, List.mem_of_getElem? (i := 1013) (by decide +kernel), List.mem_of_getElem? (i := 1280) (by decide +kernel), List.mem_of_getElem? (i := 1281) (by decide +kernel)⟩
theorem lw_p47 : lw_okq (⟨"OneGoCeilingModel", "rollsBy", "(III)V"⟩, 30) := ⟨⟨by decide +kernel, by decide +kernel⟩, List.mem_of_getElem? (i := 1013) (by decide +kernel), List.mem_of_getElem? (i := 1285) (by decide +kernel), List.mem_of_getElem? (i := 1286) (by decide +kernel)⟩
def lw_privs_3 : List (MethodName × Nat) := [(⟨"OneGoCeilingModel", "compared", "()I"⟩, 30), (⟨"OneGoCeilingModel", "sum", "()I"⟩, 30), (⟨"OneGoCeilingModel", "product", "()I"⟩, 30), (⟨"OneGoCeilingModel", "factor", "()I"⟩, 30), (⟨"OneGoCeilingModel", "byteAt", "(I)I"⟩, 30), (⟨"OneGoCeilingModel", "number", "()I"⟩, 30), (⟨"OneGoCeilingModel", "named", "(I)I"⟩, 30), (⟨"OneGoCeilingModel", "fails", "()I"⟩, 30), (⟨"OneGoCeilingModel", "seamAt", "(I)I"⟩, 30), (⟨"OneGoCeilingModel", "isSeam", "(I)Z"⟩, 30), (⟨"OneGoCeilingModel", "isHand", "(I)Z"⟩, 30), (⟨"OneGoCeilingModel", "kindOf", "(I)I"⟩, 30), (⟨"OneGoCeilingModel", "mOf", "(I)I"⟩, 30), (⟨"OneGoCeilingModel", "moveAll", "([I[I)V"⟩, 30), (⟨"OneGoCeilingModel", "isStrip", "(I)Z"⟩, 30), (⟨"OneGoCeilingModel", "rollsBy", "(III)V"⟩, 30)]
theorem lw_r3 : ∀ q ∈ lw_privs_3, lw_okq q := List.forall_mem_cons.mpr ⟨lw_p32, List.forall_mem_cons.mpr ⟨lw_p33, List.forall_mem_cons.mpr ⟨lw_p34, List.forall_mem_cons.mpr ⟨lw_p35, List.forall_mem_cons.mpr ⟨lw_p36, List.forall_mem_cons.mpr ⟨lw_p37, List.forall_mem_cons.mpr ⟨lw_p38, List.forall_mem_cons.mpr ⟨lw_p39, List.forall_mem_cons.mpr ⟨lw_p40, List.forall_mem_cons.mpr ⟨lw_p41, List.forall_mem_cons.mpr ⟨lw_p42, List.forall_mem_cons.mpr ⟨lw_p43, List.forall_mem_cons.mpr ⟨lw_p44, List.forall_mem_cons.mpr ⟨lw_p45, List.forall_mem_cons.mpr ⟨lw_p46, List.forall_mem_cons.mpr ⟨lw_p47, fun _ h => absurd h List.not_mem_nil⟩⟩⟩⟩⟩⟩⟩⟩⟩⟩⟩⟩⟩⟩⟩⟩
theorem lw_p48 : lw_okq (⟨"OneGoCeilingModel", "rolls", "(IIII)V"⟩, 30) := ⟨⟨by decide +kernel, by decide +kernel⟩, List.mem_of_getElem? (i := 1013) (by decide +kernel), List.mem_of_getElem? (i := 1289) (by decide +kernel), List.mem_of_getElem? (i := 1290) (by decide +kernel)⟩
theorem lw_p49 : lw_okq (⟨"OneGoCeilingModel", "drawn", "(I)I"⟩, 30) := ⟨⟨by decide +kernel, by decide +kernel⟩, List.mem_of_getElem? (i := 1013) (by decide +kernel), List.mem_of_getElem? (i := 1301) (by decide +kernel), List.mem_of_getElem? (i := 1302) (by decide +kernel)⟩
theorem lw_p50 : lw_okq (⟨"OneGoCeilingModel", "seen", "()I"⟩, 30) := ⟨⟨by decide +kernel, by decide +kernel⟩, List.mem_of_getElem? (i := 1013) (by decide +kernel), List.mem_of_getElem? (i := 1306) (by decide +kernel), List.mem_of_getElem? (i := 1307) (by decide +kernel)⟩
theorem lw_p51 : lw_okq (⟨"OneGoCeilingModel", "shows", "(II)I"⟩, 30) := ⟨⟨by decide +kernel, by decide +kernel⟩, List.mem_of_getElem? (i := 1013) (by decide +kernel), List.mem_of_getElem? (i := 1310) (by decide +kernel), List.mem_of_getElem? (i := 1311) (by decide +kernel)⟩
theorem lw_p52 : lw_okq (⟨"OneGoCeilingModel", "seenBy", "(I)I"⟩, 30) := ⟨⟨by decide +kernel, by decide +kernel⟩, List.mem_of_getElem? (i := 1013) (by decide +kernel), List.mem_of_getElem? (i := 1326) (by decide +kernel), List.mem_of_getElem? (i := 1327) (by decide +kernel)⟩
theorem lw_p53 : lw_okq (⟨"OneGoCeilingModel", "leastSeen", "(I)I"⟩, 30) := ⟨⟨by decide +kernel, by decide +kernel⟩, List.mem_of_getElem? (i := 1013) (by decide +kernel), List.mem_of_getElem? (i := 1334) (by decide +kernel), List.mem_of_getElem? (i := 1335) (by decide +kernel)⟩
theorem lw_p54 : lw_okq (⟨"OneGoCeilingModel", "tables", "()V"⟩, 30) := ⟨⟨by decide +kernel, by decide +kernel⟩, List.mem_of_getElem? (i := 1013) (by decide +kernel), List.mem_of_getElem? (i := 1338) (by decide +kernel), List.mem_of_getElem? (i := 1339) (by decide +kernel)⟩
theorem lw_p55 : lw_okq (⟨"OneGoCeilingModel", "goesOn", "()Z"⟩, 30) := ⟨⟨by decide +kernel, by decide +kernel⟩, List.mem_of_getElem? (i := 1013) (by decide +kernel), List.mem_of_getElem? (i := 1342) (by decide +kernel), List.mem_of_getElem? (i := 1343) (by decide +kernel)⟩
theorem lw_p56 : lw_okq (⟨"OneGoCeilingModel", "isLater", "(I)Z"⟩, 30) := ⟨⟨by decide +kernel, by decide +kernel⟩, List.mem_of_getElem? (i := 1013) (by decide +kernel), List.mem_of_getElem? (i := 1354) (by decide +kernel), List.mem_of_getElem? (i := 1355) (by decide +kernel)⟩
theorem lw_p57 : lw_okq (⟨"OneGoCeilingModel", "seenAway", "(III)I"⟩, 30) := ⟨⟨by decide +kernel, by decide +kernel⟩, List.mem_of_getElem? (i := 1013) (by decide +kernel), List.mem_of_getElem? (i := 1358) (by decide +kernel), List.mem_of_getElem? (i := 1359) (by decide +kernel)⟩
theorem lw_p58 : lw_okq (⟨"OneGoCeilingModel", "rollsSo", "(IIII)Z"⟩, 30) := ⟨⟨by decide +kernel, by decide +kernel⟩, List.mem_of_getElem? (i := 1013) (by decide +kernel), List.mem_of_getElem? (i := 1378) (by decide +kernel), List.mem_of_getElem? (i := 1379) (by decide +kernel)⟩
theorem lw_p59 : lw_okq (⟨"OneGoCeilingModel", "loadsIn", "(II)I"⟩, 30) := ⟨⟨by decide +kernel, by decide +kernel⟩, List.mem_of_getElem? (i := 1013) (by decide +kernel), List.mem_of_getElem? (i := 1394) (by decide +kernel), List.mem_of_getElem? (i := 1395) (by decide +kernel)⟩
theorem lw_p60 : lw_okq (⟨"OneGoCeilingModel", "ran", "(I)V"⟩, 30) := ⟨⟨by decide +kernel, by decide +kernel⟩, List.mem_of_getElem? (i := 1013) (by decide +kernel), List.mem_of_getElem? (i := 1398) (by decide +kernel), List.mem_of_getElem? (i := 1399) (by decide +kernel)⟩
theorem lw_p61 : lw_okq (⟨"OneGoCeilingModel", "rollsIn", "(II)I"⟩, 30) := ⟨⟨by decide +kernel, by decide +kernel⟩, List.mem_of_getElem? (i := 1013) (by decide +kernel), List.mem_of_getElem? (i := 1402) (by decide +kernel), List.mem_of_getElem? (i := 1403) (by decide +kernel)⟩
theorem lw_p62 : lw_okq (⟨"OneGoCeilingModel", "driesIn", "(II)I"⟩, 30) := ⟨⟨by decide +kernel, by decide +kernel⟩, List.mem_of_getElem? (i := 1013) (by decide +kernel), List.mem_of_getElem? (i := 1406) (by decide +kernel), List.mem_of_getElem? (i := 1407) (by decide +kernel)⟩
theorem lw_p63 : lw_okq (⟨"OneGoCeilingModel", "tellsIn", "(II)I"⟩, 30) := ⟨⟨by decide +kernel, by decide +kernel⟩, List.mem_of_getElem? (i := 1013) (by decide +kernel), List.mem_of_getElem? (i := 1410) (by decide +kernel), List.mem_of_getElem? (i := 1411) (by decide +kernel)⟩
def lw_privs_4 : List (MethodName × Nat) := [(⟨"OneGoCeilingModel", "rolls", "(IIII)V"⟩, 30), (⟨"OneGoCeilingModel", "drawn", "(I)I"⟩, 30), (⟨"OneGoCeilingModel", "seen", "()I"⟩, 30), (⟨"OneGoCeilingModel", "shows", "(II)I"⟩, 30), (⟨"OneGoCeilingModel", "seenBy", "(I)I"⟩, 30), (⟨"OneGoCeilingModel", "leastSeen", "(I)I"⟩, 30), (⟨"OneGoCeilingModel", "tables", "()V"⟩, 30), (⟨"OneGoCeilingModel", "goesOn", "()Z"⟩, 30), (⟨"OneGoCeilingModel", "isLater", "(I)Z"⟩, 30), (⟨"OneGoCeilingModel", "seenAway", "(III)I"⟩, 30), (⟨"OneGoCeilingModel", "rollsSo", "(IIII)Z"⟩, 30), (⟨"OneGoCeilingModel", "loadsIn", "(II)I"⟩, 30), (⟨"OneGoCeilingModel", "ran", "(I)V"⟩, 30), (⟨"OneGoCeilingModel", "rollsIn", "(II)I"⟩, 30), (⟨"OneGoCeilingModel", "driesIn", "(II)I"⟩, 30), (⟨"OneGoCeilingModel", "tellsIn", "(II)I"⟩, 30)]
theorem lw_r4 : ∀ q ∈ lw_privs_4, lw_okq q := List.forall_mem_cons.mpr ⟨lw_p48, List.forall_mem_cons.mpr ⟨lw_p49, List.forall_mem_cons.mpr ⟨lw_p50, List.forall_mem_cons.mpr ⟨lw_p51, List.forall_mem_cons.mpr ⟨lw_p52, List.forall_mem_cons.mpr ⟨lw_p53, List.forall_mem_cons.mpr ⟨lw_p54, List.forall_mem_cons.mpr ⟨lw_p55, List.forall_mem_cons.mpr ⟨lw_p56, List.forall_mem_cons.mpr ⟨lw_p57, List.forall_mem_cons.mpr ⟨lw_p58, List.forall_mem_cons.mpr ⟨lw_p59, List.forall_mem_cons.mpr ⟨lw_p60, List.forall_mem_cons.mpr ⟨lw_p61, List.forall_mem_cons.mpr ⟨lw_p62, List.forall_mem_cons.mpr ⟨lw_p63, fun _ h => absurd h List.not_mem_nil⟩⟩⟩⟩⟩⟩⟩⟩⟩⟩⟩⟩⟩⟩⟩⟩
theorem lw_p64 : lw_okq (⟨"OneGoCeilingModel", "rolledMany", "()I"⟩, 30) := ⟨⟨by decide +kernel, by decide +kernel⟩, List.mem_of_getElem? (i := 1013) (by decide +kernel), List.mem_of_getElem? (i := 1461) (by decide +kernel), List.mem_of_getElem? (i := 1462) (by decide +kernel)⟩
def lw_privs_5 : List (MethodName × Nat) := [(⟨"OneGoCeilingModel", "rolledMany", "()I"⟩, 30)]
theorem lw_r5 : ∀ q ∈ lw_privs_5, lw_okq q := List.forall_mem_cons.mpr ⟨lw_p64, fun _ h => absurd h List.not_mem_nil⟩
def lw_privs : List (MethodName × Nat) := lw_privs_1 ++ (lw_privs_2 ++ (lw_privs_3 ++ (lw_privs_4 ++ (lw_privs_5))))
def lw_tbl : List Cond := k2_sels lw_privs ++ tables_1
theorem lw_privs_ok : ∀ q ∈ lw_privs, lw_okq q := by
  show ∀ q ∈ lw_privs_1 ++ (lw_privs_2 ++ (lw_privs_3 ++ (lw_privs_4 ++ (lw_privs_5)))), lw_okq q
  exact List.forall_mem_append.mpr ⟨lw_r1, List.forall_mem_append.mpr ⟨lw_r2, List.forall_mem_append.mpr ⟨lw_r3, List.forall_mem_append.mpr ⟨lw_r4, lw_r5⟩⟩⟩⟩
end
section
/-! ===== BEGIN words of one list among another's, by their places ===== -/
theorem goodIn_r {big : List Cond} (ws : List Cond) (ps : List Nat) (hp : ws = ps.filterMap (fun i => big[i]?)) (h : ws.all goodWord = true) : GoodIn big ws := by
  intro w hw
  have h1 := List.all_eq_true.mp h w hw
  rw [hp] at hw
  obtain ⟨i, -, hi⟩ := List.mem_filterMap.mp hw
  have hm : w ∈ big := by first | exact List.mem_of_getElem? hi | exact List.getElem?_mem hi
  exact ⟨hm, good_of_word h1⟩
theorem goodIn_app {big a b : List Cond} (ha : GoodIn big a) (hb : GoodIn big b) : GoodIn big (a ++ b) := fun w h => (List.mem_append.mp h).elim (ha w) (hb w)
theorem goodIn_ca {big a b : List Cond} {c : Cond} (ha : GoodIn big (c :: a)) (hb : GoodIn big b) : GoodIn big (c :: (a ++ b)) := fun w h => (List.mem_cons.mp h).elim (fun e => ha w (List.mem_cons.mpr (Or.inl e))) (fun h => (List.mem_append.mp h).elim (fun h => ha w (List.mem_cons.mpr (Or.inr h))) (hb w))
theorem goodIn_sub {big ws : List Cond} (hm : ∀ w ∈ ws, w ∈ big) (h : ws.all goodWord = true) : GoodIn big ws := fun w hw => ⟨hm w hw, good_of_word (List.all_eq_true.mp h w hw)⟩
/-! ===== END ===== -/

/-! ===== BEGIN printed: names, fields, word lists, decode rows ===== -/
def RX0 : String := "OneGoCeiling$Ceiling"
def TX0 : u_T := fun k => match k with
  | 0 => ("OneGoCeiling$Ceiling", "whens", "LOneGoCeiling$Row;", true)
  | 1 => ("OneGoCeiling$Ceiling", "whites", "LOneGoCeiling$Row;", true)
  | 2 => ("OneGoCeiling$Ceiling", "rows", "I", false)
  | 3 => ("OneGoCeiling$Ceiling", "strips", "I", false)
  | 4 => ("OneGoCeiling$Ceiling", "minute", "I", false)
  | 5 => ("OneGoCeiling$Ceiling", "heat", "I", false)
  | 6 => ("OneGoCeiling$Ceiling", "left", "I", false)
  | 7 => ("OneGoCeiling$Ceiling", "canWhite", "I", false)
  | 8 => ("OneGoCeiling$Ceiling", "canSize", "I", false)
  | _ => ("OneGoCeiling$Ceiling", "cansBegun", "I", false)
def tyX0 : Nat → FieldType := fun k => match k with
  | 0 => .object "OneGoCeiling$Row"
  | 1 => .object "OneGoCeiling$Row"
  | 2 => .int
  | 3 => .int
  | 4 => .int
  | 5 => .int
  | 6 => .int
  | 7 => .int
  | 8 => .int
  | _ => .int
abbrev wsX00 : List Cond := u_ws RX0 TX0 10
theorem nmX0 : ∀ a, a < 10 → ∀ b, b < 10 → a ≠ b → (TX0 a).2.1 ≠ (TX0 b).2.1 := by decide +kernel
theorem tyX0_ok : ∀ k, k < 10 → parseFieldDescriptor (TX0 k).2.2.1 = some (tyX0 k) := by decide +kernel
abbrev cX0_init : ByteArray := prog_2_method_1_code
def yX0_init : MethodName := ⟨RX0, "<init>", "()V"⟩
abbrev cX0_build : ByteArray := prog_2_method_2_code
def yX0_build : MethodName := ⟨RX0, "build", "(II)V"⟩
abbrev cX0_rows : ByteArray := prog_2_method_3_code
def yX0_rows : MethodName := ⟨RX0, "rows", "()I"⟩
abbrev cX0_strips : ByteArray := prog_2_method_4_code
def yX0_strips : MethodName := ⟨RX0, "strips", "()I"⟩
abbrev cX0_cells : ByteArray := prog_2_method_5_code
def yX0_cells : MethodName := ⟨RX0, "cells", "()I"⟩
abbrev cX0_minute : ByteArray := prog_2_method_6_code
def yX0_minute : MethodName := ⟨RX0, "minute", "()I"⟩
abbrev cX0_heat : ByteArray := prog_2_method_7_code
def yX0_heat : MethodName := ⟨RX0, "heat", "()I"⟩
abbrev cX0_left : ByteArray := prog_2_method_8_code
def yX0_left : MethodName := ⟨RX0, "left", "()I"⟩
abbrev cX0_canWhite : ByteArray := prog_2_method_9_code
def yX0_canWhite : MethodName := ⟨RX0, "canWhite", "()I"⟩
abbrev cX0_canSize : ByteArray := prog_2_method_10_code
def yX0_canSize : MethodName := ⟨RX0, "canSize", "()I"⟩
abbrev cX0_cansBegun : ByteArray := prog_2_method_11_code
def yX0_cansBegun : MethodName := ⟨RX0, "cansBegun", "()I"⟩
abbrev cX0_isCell : ByteArray := prog_2_method_12_code
def yX0_isCell : MethodName := ⟨RX0, "isCell", "(I)Z"⟩
abbrev cX0_isStrip : ByteArray := prog_2_method_13_code
def yX0_isStrip : MethodName := ⟨RX0, "isStrip", "(I)Z"⟩
abbrev cX0_rowOf : ByteArray := prog_2_method_14_code
def yX0_rowOf : MethodName := ⟨RX0, "rowOf", "(I)I"⟩
abbrev cX0_stripOf : ByteArray := prog_2_method_15_code
def yX0_stripOf : MethodName := ⟨RX0, "stripOf", "(I)I"⟩
abbrev cX0_whenAt : ByteArray := prog_2_method_16_code
def yX0_whenAt : MethodName := ⟨RX0, "whenAt", "(II)I"⟩
abbrev cX0_whiteAt : ByteArray := prog_2_method_17_code
def yX0_whiteAt : MethodName := ⟨RX0, "whiteAt", "(II)I"⟩
abbrev cX0_rolledCells : ByteArray := prog_2_method_18_code
def yX0_rolledCells : MethodName := ⟨RX0, "rolledCells", "()I"⟩
abbrev cX0_isSetting : ByteArray := prog_2_method_19_code
def yX0_isSetting : MethodName := ⟨RX0, "isSetting", "(II)Z"⟩
abbrev cX0_change : ByteArray := prog_2_method_20_code
def yX0_change : MethodName := ⟨RX0, "change", "(II)I"⟩
abbrev cX0_warmTo : ByteArray := prog_2_method_21_code
def yX0_warmTo : MethodName := ⟨RX0, "warmTo", "(I)V"⟩
abbrev cX0_mayBeRolled : ByteArray := prog_2_method_22_code
def yX0_mayBeRolled : MethodName := ⟨RX0, "mayBeRolled", "()Z"⟩
abbrev cX0_letPass : ByteArray := prog_2_method_23_code
def yX0_letPass : MethodName := ⟨RX0, "letPass", "(I)V"⟩
abbrev cX0_letPassWithinBounds : ByteArray := prog_2_method_24_code
def yX0_letPassWithinBounds : MethodName := ⟨RX0, "letPassWithinBounds", "(I)V"⟩
abbrev cX0_paint : ByteArray := prog_2_method_25_code
def yX0_paint : MethodName := ⟨RX0, "paint", "(IIIZ)V"⟩
abbrev cX0_openCan : ByteArray := prog_2_method_26_code
def yX0_openCan : MethodName := ⟨RX0, "openCan", "()V"⟩
abbrev cX0_whiten : ByteArray := prog_2_method_27_code
def yX0_whiten : MethodName := ⟨RX0, "whiten", "(LOneGoCeiling$Row;)I"⟩
abbrev cX0_firstOtherWhen : ByteArray := prog_2_method_28_code
def yX0_firstOtherWhen : MethodName := ⟨RX0, "firstOtherWhen", "(LOneGoCeiling$Row;)I"⟩
abbrev cX0_take : ByteArray := prog_2_method_29_code
def yX0_take : MethodName := ⟨RX0, "take", "(LOneGoCeiling$Ceiling;)V"⟩
def RX1 : String := "OneGoCeiling$Crew"
def TX1 : u_T := fun k => match k with
  | 0 => ("OneGoCeiling$Crew", "kinds", "LOneGoCeiling$Row;", true)
  | _ => ("OneGoCeiling$Crew", "ms", "LOneGoCeiling$Row;", true)
def tyX1 : Nat → FieldType := fun k => match k with
  | 0 => .object "OneGoCeiling$Row"
  | _ => .object "OneGoCeiling$Row"
abbrev wsX10 : List Cond := u_ws RX1 TX1 2
theorem nmX1 : ∀ a, a < 2 → ∀ b, b < 2 → a ≠ b → (TX1 a).2.1 ≠ (TX1 b).2.1 := by decide +kernel
theorem tyX1_ok : ∀ k, k < 2 → parseFieldDescriptor (TX1 k).2.2.1 = some (tyX1 k) := by decide +kernel
abbrev cX1_init : ByteArray := prog_3_method_1_code
def yX1_init : MethodName := ⟨RX1, "<init>", "()V"⟩
abbrev cX1_size : ByteArray := prog_3_method_2_code
def yX1_size : MethodName := ⟨RX1, "size", "()I"⟩
abbrev cX1_isFull : ByteArray := prog_3_method_3_code
def yX1_isFull : MethodName := ⟨RX1, "isFull", "()Z"⟩
abbrev cX1_has : ByteArray := prog_3_method_4_code
def yX1_has : MethodName := ⟨RX1, "has", "(I)Z"⟩
abbrev cX1_kindOf : ByteArray := prog_3_method_5_code
def yX1_kindOf : MethodName := ⟨RX1, "kindOf", "(I)I"⟩
abbrev cX1_numberOf : ByteArray := prog_3_method_6_code
def yX1_numberOf : MethodName := ⟨RX1, "numberOf", "(I)I"⟩
abbrev cX1_join : ByteArray := prog_3_method_7_code
def yX1_join : MethodName := ⟨RX1, "join", "(I)I"⟩
abbrev cX1_turnInto : ByteArray := prog_3_method_8_code
def yX1_turnInto : MethodName := ⟨RX1, "turnInto", "(II)I"⟩
abbrev cX1_take : ByteArray := prog_3_method_9_code
def yX1_take : MethodName := ⟨RX1, "take", "(LOneGoCeiling$Crew;)V"⟩
def RX2 : String := "OneGoCeiling$Eye"
def TX2 : u_T := fun k => match k with
  | 0 => ("OneGoCeiling$Eye", "dries", "LOneGoCeiling$Text;", true)
  | 1 => ("OneGoCeiling$Eye", "light", "LOneGoCeiling$Text;", true)
  | 2 => ("OneGoCeiling$Eye", "knownDries", "LOneGoCeiling$Row;", true)
  | _ => ("OneGoCeiling$Eye", "knownLight", "LOneGoCeiling$Row;", true)
def tyX2 : Nat → FieldType := fun k => match k with
  | 0 => .object "OneGoCeiling$Text"
  | 1 => .object "OneGoCeiling$Text"
  | 2 => .object "OneGoCeiling$Row"
  | _ => .object "OneGoCeiling$Row"
abbrev wsX20 : List Cond := u_ws RX2 TX2 4
theorem nmX2 : ∀ a, a < 4 → ∀ b, b < 4 → a ≠ b → (TX2 a).2.1 ≠ (TX2 b).2.1 := by decide +kernel
theorem tyX2_ok : ∀ k, k < 4 → parseFieldDescriptor (TX2 k).2.2.1 = some (tyX2 k) := by decide +kernel
abbrev cX2_init : ByteArray := prog_4_method_1_code
def yX2_init : MethodName := ⟨RX2, "<init>", "(LOneGoCeiling$Text;LOneGoCeiling$Text;)V"⟩
abbrev cX2_forget : ByteArray := prog_4_method_2_code
def yX2_forget : MethodName := ⟨RX2, "forget", "()V"⟩
abbrev cX2_driesOf : ByteArray := prog_4_method_3_code
def yX2_driesOf : MethodName := ⟨RX2, "driesOf", "(III)I"⟩
abbrev cX2_lightOf : ByteArray := prog_4_method_4_code
def yX2_lightOf : MethodName := ⟨RX2, "lightOf", "(III)I"⟩
abbrev cX2_isSeam : ByteArray := prog_4_method_5_code
def yX2_isSeam : MethodName := ⟨RX2, "isSeam", "(LOneGoCeiling$Ceiling;IIIII)Z"⟩
abbrev cX2_seenBetween : ByteArray := prog_4_method_6_code
def yX2_seenBetween : MethodName := ⟨RX2, "seenBetween", "(LOneGoCeiling$Ceiling;IIII)I"⟩
abbrev cX2_seen : ByteArray := prog_4_method_7_code
def yX2_seen : MethodName := ⟨RX2, "seen", "(LOneGoCeiling$Ceiling;)I"⟩
abbrev cX2_countSeams : ByteArray := prog_4_method_8_code
def yX2_countSeams : MethodName := ⟨RX2, "countSeams", "(LOneGoCeiling$Ceiling;)I"⟩
def RX3 : String := "OneGoCeiling$Kinds"
def TX3 : u_T := fun k => match k with
  | _ => ("", "", "", false)
def tyX3 : Nat → FieldType := fun k => match k with
  | _ => .int
abbrev wsX30 : List Cond := u_ws RX3 TX3 0
theorem nmX3 : ∀ a, a < 0 → ∀ b, b < 0 → a ≠ b → (TX3 a).2.1 ≠ (TX3 b).2.1 := by decide +kernel
theorem tyX3_ok : ∀ k, k < 0 → parseFieldDescriptor (TX3 k).2.2.1 = some (tyX3 k) := by decide +kernel
abbrev cX3_isKind : ByteArray := prog_5_method_2_code
def yX3_isKind : MethodName := ⟨RX3, "isKind", "(I)Z"⟩
abbrev cX3_isKindAndNumber : ByteArray := prog_5_method_3_code
def yX3_isKindAndNumber : MethodName := ⟨RX3, "isKindAndNumber", "(I)Z"⟩
abbrev cX3_above : ByteArray := prog_5_method_4_code
def yX3_above : MethodName := ⟨RX3, "above", "(I)I"⟩
abbrev cX3_isUnder : ByteArray := prog_5_method_5_code
def yX3_isUnder : MethodName := ⟨RX3, "isUnder", "(II)Z"⟩
abbrev cX3_pace : ByteArray := prog_5_method_6_code
def yX3_pace : MethodName := ⟨RX3, "pace", "(III)I"⟩
abbrev cX3_load : ByteArray := prog_5_method_7_code
def yX3_load : MethodName := ⟨RX3, "load", "(II)I"⟩
abbrev cX3_uses : ByteArray := prog_5_method_8_code
def yX3_uses : MethodName := ⟨RX3, "uses", "(II)I"⟩
abbrev cX3_minutesFor : ByteArray := prog_5_method_9_code
def yX3_minutesFor : MethodName := ⟨RX3, "minutesFor", "(III)I"⟩
abbrev cX3_leastBy : ByteArray := prog_5_method_10_code
def yX3_leastBy : MethodName := ⟨RX3, "leastBy", "(LOneGoCeiling$Row;II)I"⟩
abbrev cX3_doesAt : ByteArray := prog_5_method_11_code
def yX3_doesAt : MethodName := ⟨RX3, "doesAt", "(LOneGoCeiling$Row;III)Z"⟩
def RX4 : String := "OneGoCeiling$Reader"
def TX4 : u_T := fun k => match k with
  | 0 => ("OneGoCeiling$Reader", "steps", "LOneGoCeiling$Row;", true)
  | 1 => ("OneGoCeiling$Reader", "tape", "LOneGoCeiling$Row;", false)
  | 2 => ("OneGoCeiling$Reader", "target", "LOneGoCeiling$Text;", false)
  | 3 => ("OneGoCeiling$Reader", "at", "I", false)
  | _ => ("OneGoCeiling$Reader", "fits", "Z", false)
def tyX4 : Nat → FieldType := fun k => match k with
  | 0 => .object "OneGoCeiling$Row"
  | 1 => .object "OneGoCeiling$Row"
  | 2 => .object "OneGoCeiling$Text"
  | 3 => .int
  | _ => .boolean
abbrev wsX40 : List Cond := u_ws RX4 TX4 5
theorem nmX4 : ∀ a, a < 5 → ∀ b, b < 5 → a ≠ b → (TX4 a).2.1 ≠ (TX4 b).2.1 := by decide +kernel
theorem tyX4_ok : ∀ k, k < 5 → parseFieldDescriptor (TX4 k).2.2.1 = some (tyX4 k) := by decide +kernel
abbrev cX4_init : ByteArray := prog_6_method_1_code
def yX4_init : MethodName := ⟨RX4, "<init>", "()V"⟩
abbrev cX4_read : ByteArray := prog_6_method_2_code
def yX4_read : MethodName := ⟨RX4, "read", "(LOneGoCeiling$Row;LOneGoCeiling$Text;)I"⟩
abbrev cX4_next : ByteArray := prog_6_method_3_code
def yX4_next : MethodName := ⟨RX4, "next", "()I"⟩
abbrev cX4_nextIs : ByteArray := prog_6_method_4_code
def yX4_nextIs : MethodName := ⟨RX4, "nextIs", "(I)Z"⟩
abbrev cX4_emit : ByteArray := prog_6_method_5_code
def yX4_emit : MethodName := ⟨RX4, "emit", "(I)V"⟩
abbrev cX4_readT : ByteArray := prog_6_method_6_code
def yX4_readT : MethodName := ⟨RX4, "readT", "(I)V"⟩
abbrev cX4_readA : ByteArray := prog_6_method_7_code
def yX4_readA : MethodName := ⟨RX4, "readA", "(I)V"⟩
abbrev cX4_readB : ByteArray := prog_6_method_8_code
def yX4_readB : MethodName := ⟨RX4, "readB", "(I)V"⟩
abbrev cX4_readS : ByteArray := prog_6_method_9_code
def yX4_readS : MethodName := ⟨RX4, "readS", "(I)V"⟩
abbrev cX4_readP : ByteArray := prog_6_method_10_code
def yX4_readP : MethodName := ⟨RX4, "readP", "(I)V"⟩
abbrev cX4_readQ : ByteArray := prog_6_method_11_code
def yX4_readQ : MethodName := ⟨RX4, "readQ", "(I)V"⟩
abbrev cX4_readNumber : ByteArray := prog_6_method_12_code
def yX4_readNumber : MethodName := ⟨RX4, "readNumber", "()V"⟩
abbrev cX4_isDigit : ByteArray := prog_6_method_13_code
def yX4_isDigit : MethodName := ⟨RX4, "isDigit", "(I)Z"⟩
def RX5 : String := "OneGoCeiling$Row"
def TX5 : u_T := fun k => match k with
  | 0 => ("OneGoCeiling$Row", "numbers", "[I", true)
  | _ => ("OneGoCeiling$Row", "length", "I", false)
def tyX5 : Nat → FieldType := fun k => match k with
  | 0 => .array .int
  | _ => .int
abbrev wsX50 : List Cond := u_ws RX5 TX5 2
theorem nmX5 : ∀ a, a < 2 → ∀ b, b < 2 → a ≠ b → (TX5 a).2.1 ≠ (TX5 b).2.1 := by decide +kernel
theorem tyX5_ok : ∀ k, k < 2 → parseFieldDescriptor (TX5 k).2.2.1 = some (tyX5 k) := by decide +kernel
abbrev cX5_init : ByteArray := prog_7_method_1_code
def yX5_init : MethodName := ⟨RX5, "<init>", "(I)V"⟩
abbrev cX5_length : ByteArray := prog_7_method_2_code
def yX5_length : MethodName := ⟨RX5, "length", "()I"⟩
abbrev cX5_has : ByteArray := prog_7_method_3_code
def yX5_has : MethodName := ⟨RX5, "has", "(I)Z"⟩
abbrev cX5_hasRun : ByteArray := prog_7_method_4_code
def yX5_hasRun : MethodName := ⟨RX5, "hasRun", "(II)Z"⟩
abbrev cX5_at : ByteArray := prog_7_method_5_code
def yX5_at : MethodName := ⟨RX5, "at", "(I)I"⟩
abbrev cX5_write : ByteArray := prog_7_method_6_code
def yX5_write : MethodName := ⟨RX5, "write", "(II)V"⟩
abbrev cX5_add : ByteArray := prog_7_method_7_code
def yX5_add : MethodName := ⟨RX5, "add", "(I)Z"⟩
abbrev cX5_clear : ByteArray := prog_7_method_8_code
def yX5_clear : MethodName := ⟨RX5, "clear", "()V"⟩
abbrev cX5_fill : ByteArray := prog_7_method_9_code
def yX5_fill : MethodName := ⟨RX5, "fill", "(II)V"⟩
abbrev cX5_take : ByteArray := prog_7_method_10_code
def yX5_take : MethodName := ⟨RX5, "take", "(LOneGoCeiling$Row;)V"⟩
abbrev cX5_takeRun : ByteArray := prog_7_method_11_code
def yX5_takeRun : MethodName := ⟨RX5, "takeRun", "(ILOneGoCeiling$Row;II)V"⟩
def RX6 : String := "OneGoCeiling$Sheet"
def TX6 : u_T := fun k => match k with
  | 0 => ("OneGoCeiling$Sheet", "numbers", "LOneGoCeiling$Row;", true)
  | _ => ("OneGoCeiling$Sheet", "bits", "I", false)
def tyX6 : Nat → FieldType := fun k => match k with
  | 0 => .object "OneGoCeiling$Row"
  | _ => .int
abbrev wsX60 : List Cond := u_ws RX6 TX6 2
theorem nmX6 : ∀ a, a < 2 → ∀ b, b < 2 → a ≠ b → (TX6 a).2.1 ≠ (TX6 b).2.1 := by decide +kernel
theorem tyX6_ok : ∀ k, k < 2 → parseFieldDescriptor (TX6 k).2.2.1 = some (tyX6 k) := by decide +kernel
abbrev cX6_init : ByteArray := prog_8_method_1_code
def yX6_init : MethodName := ⟨RX6, "<init>", "()V"⟩
abbrev cX6_isWidth : ByteArray := prog_8_method_2_code
def yX6_isWidth : MethodName := ⟨RX6, "isWidth", "(I)Z"⟩
abbrev cX6_isMissing : ByteArray := prog_8_method_3_code
def yX6_isMissing : MethodName := ⟨RX6, "isMissing", "()Z"⟩
abbrev cX6_bits : ByteArray := prog_8_method_4_code
def yX6_bits : MethodName := ⟨RX6, "bits", "()I"⟩
abbrev cX6_remove : ByteArray := prog_8_method_5_code
def yX6_remove : MethodName := ⟨RX6, "remove", "()V"⟩
abbrev cX6_renew : ByteArray := prog_8_method_6_code
def yX6_renew : MethodName := ⟨RX6, "renew", "(II)V"⟩
abbrev cX6_write : ByteArray := prog_8_method_7_code
def yX6_write : MethodName := ⟨RX6, "write", "(II)V"⟩
def RX7 : String := "OneGoCeiling$State"
def TX7 : u_T := fun k => match k with
  | 0 => ("OneGoCeiling$State", "ceiling", "LOneGoCeiling$Ceiling;", true)
  | 1 => ("OneGoCeiling$State", "crew", "LOneGoCeiling$Crew;", true)
  | 2 => ("OneGoCeiling$State", "dries", "LOneGoCeiling$Text;", true)
  | 3 => ("OneGoCeiling$State", "light", "LOneGoCeiling$Text;", true)
  | 4 => ("OneGoCeiling$State", "tape", "LOneGoCeiling$Row;", true)
  | 5 => ("OneGoCeiling$State", "waiting", "LOneGoCeiling$Row;", true)
  | _ => ("OneGoCeiling$State", "z", "I", false)
def tyX7 : Nat → FieldType := fun k => match k with
  | 0 => .object "OneGoCeiling$Ceiling"
  | 1 => .object "OneGoCeiling$Crew"
  | 2 => .object "OneGoCeiling$Text"
  | 3 => .object "OneGoCeiling$Text"
  | 4 => .object "OneGoCeiling$Row"
  | 5 => .object "OneGoCeiling$Row"
  | _ => .int
abbrev wsX70 : List Cond := u_ws RX7 TX7 7
theorem nmX7 : ∀ a, a < 7 → ∀ b, b < 7 → a ≠ b → (TX7 a).2.1 ≠ (TX7 b).2.1 := by decide +kernel
theorem tyX7_ok : ∀ k, k < 7 → parseFieldDescriptor (TX7 k).2.2.1 = some (tyX7 k) := by decide +kernel
abbrev cX7_init : ByteArray := prog_9_method_1_code
def yX7_init : MethodName := ⟨RX7, "<init>", "()V"⟩
abbrev cX7_take : ByteArray := prog_9_method_2_code
def yX7_take : MethodName := ⟨RX7, "take", "(LOneGoCeiling$State;)V"⟩
abbrev cX7_passDay : ByteArray := prog_9_method_3_code
def yX7_passDay : MethodName := ⟨RX7, "passDay", "()V"⟩
abbrev cX7_draw : ByteArray := prog_9_method_4_code
def yX7_draw : MethodName := ⟨RX7, "draw", "(I)I"⟩
def RX8 : String := "OneGoCeiling$Text"
def TX8 : u_T := fun k => match k with
  | 0 => ("OneGoCeiling$Text", "use", "I", true)
  | 1 => ("OneGoCeiling$Text", "steps", "LOneGoCeiling$Row;", true)
  | _ => ("OneGoCeiling$Text", "stack", "LOneGoCeiling$Row;", true)
def tyX8 : Nat → FieldType := fun k => match k with
  | 0 => .int
  | 1 => .object "OneGoCeiling$Row"
  | _ => .object "OneGoCeiling$Row"
abbrev wsX80 : List Cond := u_ws RX8 TX8 3
theorem nmX8 : ∀ a, a < 3 → ∀ b, b < 3 → a ≠ b → (TX8 a).2.1 ≠ (TX8 b).2.1 := by decide +kernel
theorem tyX8_ok : ∀ k, k < 3 → parseFieldDescriptor (TX8 k).2.2.1 = some (tyX8 k) := by decide +kernel
abbrev cX8_init : ByteArray := prog_10_method_1_code
def yX8_init : MethodName := ⟨RX8, "<init>", "(I)V"⟩
abbrev cX8_nameOf : ByteArray := prog_10_method_2_code
def yX8_nameOf : MethodName := ⟨RX8, "nameOf", "(I)I"⟩
abbrev cX8_takeSteps : ByteArray := prog_10_method_3_code
def yX8_takeSteps : MethodName := ⟨RX8, "takeSteps", "(LOneGoCeiling$Row;)V"⟩
abbrev cX8_take : ByteArray := prog_10_method_4_code
def yX8_take : MethodName := ⟨RX8, "take", "(LOneGoCeiling$Text;)V"⟩
abbrev cX8_value : ByteArray := prog_10_method_5_code
def yX8_value : MethodName := ⟨RX8, "value", "(III)I"⟩
abbrev cX8_held : ByteArray := prog_10_method_6_code
def yX8_held : MethodName := ⟨RX8, "held", "(I)I"⟩
abbrev cX8_join : ByteArray := prog_10_method_7_code
def yX8_join : MethodName := ⟨RX8, "join", "(III)I"⟩
def RX9 : String := "OneGoCeiling$Thought"
def TX9 : u_T := fun k => match k with
  | 0 => ("OneGoCeiling$Thought", "eye", "LOneGoCeiling$Eye;", true)
  | 1 => ("OneGoCeiling$Thought", "ceiling", "LOneGoCeiling$Ceiling;", true)
  | 2 => ("OneGoCeiling$Thought", "strips", "LOneGoCeiling$Row;", true)
  | 3 => ("OneGoCeiling$Thought", "places", "LOneGoCeiling$Row;", true)
  | 4 => ("OneGoCeiling$Thought", "bestStrips", "LOneGoCeiling$Row;", true)
  | 5 => ("OneGoCeiling$Thought", "seenByPlaces", "LOneGoCeiling$Row;", true)
  | 6 => ("OneGoCeiling$Thought", "seenWithout", "LOneGoCeiling$Row;", true)
  | 7 => ("OneGoCeiling$Thought", "seenWith", "LOneGoCeiling$Row;", true)
  | _ => ("OneGoCeiling$Thought", "best", "I", false)
def tyX9 : Nat → FieldType := fun k => match k with
  | 0 => .object "OneGoCeiling$Eye"
  | 1 => .object "OneGoCeiling$Ceiling"
  | 2 => .object "OneGoCeiling$Row"
  | 3 => .object "OneGoCeiling$Row"
  | 4 => .object "OneGoCeiling$Row"
  | 5 => .object "OneGoCeiling$Row"
  | 6 => .object "OneGoCeiling$Row"
  | 7 => .object "OneGoCeiling$Row"
  | _ => .int
abbrev wsX90 : List Cond := u_ws RX9 TX9 9
theorem nmX9 : ∀ a, a < 9 → ∀ b, b < 9 → a ≠ b → (TX9 a).2.1 ≠ (TX9 b).2.1 := by decide +kernel
theorem tyX9_ok : ∀ k, k < 9 → parseFieldDescriptor (TX9 k).2.2.1 = some (tyX9 k) := by decide +kernel
abbrev cX9_init : ByteArray := prog_11_method_1_code
def yX9_init : MethodName := ⟨RX9, "<init>", "(LOneGoCeiling$Eye;)V"⟩
abbrev cX9_begin : ByteArray := prog_11_method_2_code
def yX9_begin : MethodName := ⟨RX9, "begin", "(LOneGoCeiling$State;)V"⟩
abbrev cX9_rollNext : ByteArray := prog_11_method_3_code
def yX9_rollNext : MethodName := ⟨RX9, "rollNext", "(LOneGoCeiling$State;II)V"⟩
abbrev cX9_rollAll : ByteArray := prog_11_method_4_code
def yX9_rollAll : MethodName := ⟨RX9, "rollAll", "(LOneGoCeiling$State;I)V"⟩
abbrev cX9_cansBegun : ByteArray := prog_11_method_5_code
def yX9_cansBegun : MethodName := ⟨RX9, "cansBegun", "()I"⟩
abbrev cX9_seenNow : ByteArray := prog_11_method_6_code
def yX9_seenNow : MethodName := ⟨RX9, "seenNow", "()I"⟩
abbrev cX9_warmTo : ByteArray := prog_11_method_7_code
def yX9_warmTo : MethodName := ⟨RX9, "warmTo", "(I)V"⟩
abbrev cX9_takeOrder : ByteArray := prog_11_method_8_code
def yX9_takeOrder : MethodName := ⟨RX9, "takeOrder", "(LOneGoCeiling$Row;I)Z"⟩
abbrev cX9_seenByOrder : ByteArray := prog_11_method_9_code
def yX9_seenByOrder : MethodName := ⟨RX9, "seenByOrder", "()I"⟩
abbrev cX9_best : ByteArray := prog_11_method_10_code
def yX9_best : MethodName := ⟨RX9, "best", "()I"⟩
abbrev cX9_bestStripAt : ByteArray := prog_11_method_11_code
def yX9_bestStripAt : MethodName := ⟨RX9, "bestStripAt", "(I)I"⟩
abbrev cX9_findBelow : ByteArray := prog_11_method_12_code
def yX9_findBelow : MethodName := ⟨RX9, "findBelow", "(I)V"⟩
abbrev cX9_extendOrder : ByteArray := prog_11_method_13_code
def yX9_extendOrder : MethodName := ⟨RX9, "extendOrder", "(II)V"⟩
abbrev cX9_seenBeside : ByteArray := prog_11_method_14_code
def yX9_seenBeside : MethodName := ⟨RX9, "seenBeside", "(I)I"⟩
abbrev cX9_weightAt : ByteArray := prog_11_method_15_code
def yX9_weightAt : MethodName := ⟨RX9, "weightAt", "(III)I"⟩
abbrev cX9_weighPlaces : ByteArray := prog_11_method_16_code
def yX9_weighPlaces : MethodName := ⟨RX9, "weighPlaces", "()V"⟩
abbrev cX9_weighPauses : ByteArray := prog_11_method_17_code
def yX9_weighPauses : MethodName := ⟨RX9, "weighPauses", "(I)V"⟩
abbrev cX9_seenCalledAhead : ByteArray := prog_11_method_18_code
def yX9_seenCalledAhead : MethodName := ⟨RX9, "seenCalledAhead", "(I)I"⟩
abbrev cX9_worstStrip : ByteArray := prog_11_method_19_code
def yX9_worstStrip : MethodName := ⟨RX9, "worstStrip", "()I"⟩
abbrev cX9_longestPause : ByteArray := prog_11_method_20_code
def yX9_longestPause : MethodName := ⟨RX9, "longestPause", "(II)I"⟩
abbrev cX9_waysOfPauses : ByteArray := prog_11_method_21_code
def yX9_waysOfPauses : MethodName := ⟨RX9, "waysOfPauses", "()I"⟩
abbrev cX9_waysSeenAtMost : ByteArray := prog_11_method_22_code
def yX9_waysSeenAtMost : MethodName := ⟨RX9, "waysSeenAtMost", "(I)I"⟩
def RX10 : String := "OneGoCeiling$Voices"
def TX10 : u_T := fun k => match k with
  | 0 => ("OneGoCeiling$Voices", "heard", "LOneGoCeiling$Row;", true)
  | 1 => ("OneGoCeiling$Voices", "number", "I", false)
  | 2 => ("OneGoCeiling$Voices", "kind", "I", false)
  | _ => ("OneGoCeiling$Voices", "m", "I", false)
def tyX10 : Nat → FieldType := fun k => match k with
  | 0 => .object "OneGoCeiling$Row"
  | 1 => .int
  | 2 => .int
  | _ => .int
abbrev wsX100 : List Cond := u_ws RX10 TX10 4
theorem nmX10 : ∀ a, a < 4 → ∀ b, b < 4 → a ≠ b → (TX10 a).2.1 ≠ (TX10 b).2.1 := by decide +kernel
theorem tyX10_ok : ∀ k, k < 4 → parseFieldDescriptor (TX10 k).2.2.1 = some (tyX10 k) := by decide +kernel
abbrev cX10_init : ByteArray := prog_12_method_1_code
def yX10_init : MethodName := ⟨RX10, "<init>", "()V"⟩
abbrev cX10_heard : ByteArray := prog_12_method_2_code
def yX10_heard : MethodName := ⟨RX10, "heard", "()LOneGoCeiling$Row;"⟩
abbrev cX10_speak : ByteArray := prog_12_method_3_code
def yX10_speak : MethodName := ⟨RX10, "speak", "(LOneGoCeiling$Crew;III)I"⟩
abbrev cX10_own : ByteArray := prog_12_method_4_code
def yX10_own : MethodName := ⟨RX10, "own", "(III)I"⟩
abbrev cX10_from : ByteArray := prog_12_method_5_code
def yX10_from : MethodName := ⟨RX10, "from", "(IIII)I"⟩
abbrev cX10_bodyOf : ByteArray := prog_12_method_6_code
def yX10_bodyOf : MethodName := ⟨RX10, "bodyOf", "(II)I"⟩
abbrev cX10_say : ByteArray := prog_12_method_7_code
def yX10_say : MethodName := ⟨RX10, "say", "(IIII)I"⟩
def RX11 : String := "OneGoCeiling"
def TX11 : u_T := fun k => match k with
  | 0 => ("OneGoCeiling", "now", "LOneGoCeiling$State;", true)
  | 1 => ("OneGoCeiling", "kept", "LOneGoCeiling$State;", true)
  | 2 => ("OneGoCeiling", "reader", "LOneGoCeiling$Reader;", true)
  | 3 => ("OneGoCeiling", "eye", "LOneGoCeiling$Eye;", true)
  | 4 => ("OneGoCeiling", "thought", "LOneGoCeiling$Thought;", true)
  | 5 => ("OneGoCeiling", "voices", "LOneGoCeiling$Voices;", true)
  | 6 => ("OneGoCeiling", "sheets", "[LOneGoCeiling$Sheet;", true)
  | 7 => ("OneGoCeiling", "errors", "LOneGoCeiling$Row;", true)
  | _ => ("OneGoCeiling", "images", "I", false)
def tyX11 : Nat → FieldType := fun k => match k with
  | 0 => .object "OneGoCeiling$State"
  | 1 => .object "OneGoCeiling$State"
  | 2 => .object "OneGoCeiling$Reader"
  | 3 => .object "OneGoCeiling$Eye"
  | 4 => .object "OneGoCeiling$Thought"
  | 5 => .object "OneGoCeiling$Voices"
  | 6 => .array (.object "OneGoCeiling$Sheet")
  | 7 => .object "OneGoCeiling$Row"
  | _ => .int
abbrev wsX110 : List Cond := u_ws RX11 TX11 9
theorem nmX11 : ∀ a, a < 9 → ∀ b, b < 9 → a ≠ b → (TX11 a).2.1 ≠ (TX11 b).2.1 := by decide +kernel
theorem tyX11_ok : ∀ k, k < 9 → parseFieldDescriptor (TX11 k).2.2.1 = some (tyX11 k) := by decide +kernel
abbrev cX11_init : ByteArray := prog_1_method_1_code
def yX11_init : MethodName := ⟨RX11, "<init>", "()V"⟩
abbrev cX11_ceiling : ByteArray := prog_1_method_2_code
def yX11_ceiling : MethodName := ⟨RX11, "ceiling", "(II)I"⟩
abbrev cX11_set : ByteArray := prog_1_method_3_code
def yX11_set : MethodName := ⟨RX11, "set", "(II)I"⟩
abbrev cX11_ofCell : ByteArray := prog_1_method_4_code
def yX11_ofCell : MethodName := ⟨RX11, "ofCell", "(II)I"⟩
abbrev cX11_hand : ByteArray := prog_1_method_5_code
def yX11_hand : MethodName := ⟨RX11, "hand", "(I)I"⟩
abbrev cX11_ofHand : ByteArray := prog_1_method_6_code
def yX11_ofHand : MethodName := ⟨RX11, "ofHand", "(II)I"⟩
abbrev cX11_become : ByteArray := prog_1_method_7_code
def yX11_become : MethodName := ⟨RX11, "become", "(II)I"⟩
abbrev cX11_as : ByteArray := prog_1_method_8_code
def yX11_as : MethodName := ⟨RX11, "as", "(II)I"⟩
abbrev cX11_feed : ByteArray := prog_1_method_9_code
def yX11_feed : MethodName := ⟨RX11, "feed", "(JI)I"⟩
abbrev cX11_text : ByteArray := prog_1_method_10_code
def yX11_text : MethodName := ⟨RX11, "text", "(I)I"⟩
abbrev cX11_law : ByteArray := prog_1_method_11_code
def yX11_law : MethodName := ⟨RX11, "law", "(IIII)I"⟩
abbrev cX11_roll : ByteArray := prog_1_method_12_code
def yX11_roll : MethodName := ⟨RX11, "roll", "(III)I"⟩
abbrev cX11_minutes : ByteArray := prog_1_method_13_code
def yX11_minutes : MethodName := ⟨RX11, "minutes", "(I)I"⟩
abbrev cX11_days : ByteArray := prog_1_method_14_code
def yX11_days : MethodName := ⟨RX11, "days", "(I)I"⟩
abbrev cX11_seams : ByteArray := prog_1_method_15_code
def yX11_seams : MethodName := ⟨RX11, "seams", "(I)I"⟩
abbrev cX11_done : ByteArray := prog_1_method_16_code
def yX11_done : MethodName := ⟨RX11, "done", "(II)I"⟩
abbrev cX11_order : ByteArray := prog_1_method_17_code
def yX11_order : MethodName := ⟨RX11, "order", "(II)I"⟩
abbrev cX11_clean : ByteArray := prog_1_method_18_code
def yX11_clean : MethodName := ⟨RX11, "clean", "(II)I"⟩
abbrev cX11_called : ByteArray := prog_1_method_19_code
def yX11_called : MethodName := ⟨RX11, "called", "(III)I"⟩
abbrev cX11_worst : ByteArray := prog_1_method_20_code
def yX11_worst : MethodName := ⟨RX11, "worst", "(III)I"⟩
abbrev cX11_howLong : ByteArray := prog_1_method_21_code
def yX11_howLong : MethodName := ⟨RX11, "howLong", "(II)I"⟩
abbrev cX11_cans : ByteArray := prog_1_method_22_code
def yX11_cans : MethodName := ⟨RX11, "cans", "(I)I"⟩
abbrev cX11_whose : ByteArray := prog_1_method_23_code
def yX11_whose : MethodName := ⟨RX11, "whose", "(III)I"⟩
abbrev cX11_odds : ByteArray := prog_1_method_24_code
def yX11_odds : MethodName := ⟨RX11, "odds", "(IIII)I"⟩
abbrev cX11_seed : ByteArray := prog_1_method_25_code
def yX11_seed : MethodName := ⟨RX11, "seed", "(I)I"⟩
abbrev cX11_voice : ByteArray := prog_1_method_26_code
def yX11_voice : MethodName := ⟨RX11, "voice", "(III)I"⟩
abbrev cX11_trace : ByteArray := prog_1_method_27_code
def yX11_trace : MethodName := ⟨RX11, "trace", "(I)I"⟩
abbrev cX11_sheet : ByteArray := prog_1_method_28_code
def yX11_sheet : MethodName := ⟨RX11, "sheet", "(III)I"⟩
abbrev cX11_put : ByteArray := prog_1_method_29_code
def yX11_put : MethodName := ⟨RX11, "put", "(III)I"⟩
abbrev cX11_move : ByteArray := prog_1_method_30_code
def yX11_move : MethodName := ⟨RX11, "move", "(IIIII)I"⟩
abbrev cX11_whites : ByteArray := prog_1_method_31_code
def yX11_whites : MethodName := ⟨RX11, "whites", "(I)I"⟩
abbrev cX11_judge : ByteArray := prog_1_method_32_code
def yX11_judge : MethodName := ⟨RX11, "judge", "(I)I"⟩
abbrev cX11_image : ByteArray := prog_1_method_33_code
def yX11_image : MethodName := ⟨RX11, "image", "()I"⟩
abbrev cX11_restore : ByteArray := prog_1_method_34_code
def yX11_restore : MethodName := ⟨RX11, "restore", "()I"⟩
abbrev cX11_tell : ByteArray := prog_1_method_35_code
def yX11_tell : MethodName := ⟨RX11, "tell", "(I)I"⟩
abbrev cX11_check : ByteArray := prog_1_method_36_code
def yX11_check : MethodName := ⟨RX11, "check", "()I"⟩
abbrev cX11_count : ByteArray := prog_1_method_37_code
def yX11_count : MethodName := ⟨RX11, "count", "(I)I"⟩
abbrev cX11_told : ByteArray := prog_1_method_38_code
def yX11_told : MethodName := ⟨RX11, "told", "(I)I"⟩
abbrev cX11_error : ByteArray := prog_1_method_39_code
def yX11_error : MethodName := ⟨RX11, "error", "(I)I"⟩
abbrev cX11_within : ByteArray := prog_1_method_40_code
def yX11_within : MethodName := ⟨RX11, "within", "(III)Z"⟩
abbrev cX11_isLaterStrip : ByteArray := prog_1_method_41_code
def yX11_isLaterStrip : MethodName := ⟨RX11, "isLaterStrip", "(I)Z"⟩
abbrev cX11_textOf : ByteArray := prog_1_method_42_code
def yX11_textOf : MethodName := ⟨RX11, "textOf", "(I)LOneGoCeiling$Text;"⟩
abbrev cX11_sheetOf : ByteArray := prog_1_method_43_code
def yX11_sheetOf : MethodName := ⟨RX11, "sheetOf", "(I)LOneGoCeiling$Sheet;"⟩
def RX12 : String := "OneGoCeilingModel"
def TX12 : u_T := fun k => match k with
  | 0 => ("OneGoCeilingModel", "row", "[I", true)
  | 1 => ("OneGoCeilingModel", "kept", "[I", true)
  | 2 => ("OneGoCeilingModel", "tried", "[I", true)
  | 3 => ("OneGoCeilingModel", "before", "[I", true)
  | 4 => ("OneGoCeilingModel", "isKept", "Z", false)
  | 5 => ("OneGoCeilingModel", "images", "I", false)
  | 6 => ("OneGoCeilingModel", "found", "[I", true)
  | 7 => ("OneGoCeilingModel", "dry", "[I", true)
  | 8 => ("OneGoCeilingModel", "shown", "[I", true)
  | 9 => ("OneGoCeilingModel", "isTabled", "Z", false)
  | 10 => ("OneGoCeilingModel", "use", "I", false)
  | 11 => ("OneGoCeilingModel", "at", "I", false)
  | 12 => ("OneGoCeilingModel", "end", "I", false)
  | 13 => ("OneGoCeilingModel", "open", "I", false)
  | 14 => ("OneGoCeilingModel", "namedA", "I", false)
  | 15 => ("OneGoCeilingModel", "namedB", "I", false)
  | 16 => ("OneGoCeilingModel", "namedC", "I", false)
  | 17 => ("OneGoCeilingModel", "good", "Z", false)
  | 18 => ("OneGoCeilingModel", "cansBegun", "I", false)
  | 19 => ("OneGoCeilingModel", "bitsOf", "[I", true)
  | 20 => ("OneGoCeilingModel", "sizeOf", "[I", true)
  | 21 => ("OneGoCeilingModel", "sheets", "[I", true)
  | 22 => ("OneGoCeilingModel", "moved", "[I", true)
  | 23 => ("OneGoCeilingModel", "order", "[I", true)
  | 24 => ("OneGoCeilingModel", "bestOrder", "[I", true)
  | 25 => ("OneGoCeilingModel", "traced", "[I", true)
  | 26 => ("OneGoCeilingModel", "tracedMany", "I", false)
  | 27 => ("OneGoCeilingModel", "voiceKind", "I", false)
  | 28 => ("OneGoCeilingModel", "voiceN", "I", false)
  | _ => ("OneGoCeilingModel", "voiceM", "I", false)
def tyX12 : Nat → FieldType := fun k => match k with
  | 0 => .array .int
  | 1 => .array .int
  | 2 => .array .int
  | 3 => .array .int
  | 4 => .boolean
  | 5 => .int
  | 6 => .array .int
  | 7 => .array .int
  | 8 => .array .int
  | 9 => .boolean
  | 10 => .int
  | 11 => .int
  | 12 => .int
  | 13 => .int
  | 14 => .int
  | 15 => .int
  | 16 => .int
  | 17 => .boolean
  | 18 => .int
  | 19 => .array .int
  | 20 => .array .int
  | 21 => .array .int
  | 22 => .array .int
  | 23 => .array .int
  | 24 => .array .int
  | 25 => .array .int
  | 26 => .int
  | 27 => .int
  | 28 => .int
  | _ => .int
abbrev wsX120 : List Cond := u_ws RX12 TX12 30
theorem nmX12 : ∀ a, a < 30 → ∀ b, b < 30 → a ≠ b → (TX12 a).2.1 ≠ (TX12 b).2.1 := by decide +kernel
theorem tyX12_ok : ∀ k, k < 30 → parseFieldDescriptor (TX12 k).2.2.1 = some (tyX12 k) := by decide +kernel
abbrev cX12_init : ByteArray := prog_14_method_1_code
def yX12_init : MethodName := ⟨RX12, "<init>", "()V"⟩
abbrev cX12_in : ByteArray := prog_14_method_2_code
def yX12_in : MethodName := ⟨RX12, "in", "(III)Z"⟩
abbrev cX12_errs : ByteArray := prog_14_method_3_code
def yX12_errs : MethodName := ⟨RX12, "errs", "(I)I"⟩
abbrev cX12_held : ByteArray := prog_14_method_4_code
def yX12_held : MethodName := ⟨RX12, "held", "(III)I"⟩
abbrev cX12_moveAll : ByteArray := prog_14_method_5_code
def yX12_moveAll : MethodName := ⟨RX12, "moveAll", "([I[I)V"⟩
abbrev cX12_bare : ByteArray := prog_14_method_6_code
def yX12_bare : MethodName := ⟨RX12, "bare", "(II)V"⟩
abbrev cX12_cells : ByteArray := prog_14_method_7_code
def yX12_cells : MethodName := ⟨RX12, "cells", "()I"⟩
abbrev cX12_whenOf : ByteArray := prog_14_method_8_code
def yX12_whenOf : MethodName := ⟨RX12, "whenOf", "(I)I"⟩
abbrev cX12_whiteOf : ByteArray := prog_14_method_9_code
def yX12_whiteOf : MethodName := ⟨RX12, "whiteOf", "(I)I"⟩
abbrev cX12_ceiling : ByteArray := prog_14_method_10_code
def yX12_ceiling : MethodName := ⟨RX12, "ceiling", "(II)I"⟩
abbrev cX12_set : ByteArray := prog_14_method_11_code
def yX12_set : MethodName := ⟨RX12, "set", "(II)I"⟩
abbrev cX12_isCell : ByteArray := prog_14_method_12_code
def yX12_isCell : MethodName := ⟨RX12, "isCell", "(I)Z"⟩
abbrev cX12_isStrip : ByteArray := prog_14_method_13_code
def yX12_isStrip : MethodName := ⟨RX12, "isStrip", "(I)Z"⟩
abbrev cX12_driesAt : ByteArray := prog_14_method_14_code
def yX12_driesAt : MethodName := ⟨RX12, "driesAt", "(I)I"⟩
abbrev cX12_shows : ByteArray := prog_14_method_15_code
def yX12_shows : MethodName := ⟨RX12, "shows", "(II)I"⟩
abbrev cX12_tables : ByteArray := prog_14_method_16_code
def yX12_tables : MethodName := ⟨RX12, "tables", "()V"⟩
abbrev cX12_isSeam : ByteArray := prog_14_method_17_code
def yX12_isSeam : MethodName := ⟨RX12, "isSeam", "(I)Z"⟩
abbrev cX12_seamAt : ByteArray := prog_14_method_18_code
def yX12_seamAt : MethodName := ⟨RX12, "seamAt", "(I)I"⟩
abbrev cX12_ofCell : ByteArray := prog_14_method_19_code
def yX12_ofCell : MethodName := ⟨RX12, "ofCell", "(II)I"⟩
abbrev cX12_isHand : ByteArray := prog_14_method_20_code
def yX12_isHand : MethodName := ⟨RX12, "isHand", "(I)Z"⟩
abbrev cX12_kindOf : ByteArray := prog_14_method_21_code
def yX12_kindOf : MethodName := ⟨RX12, "kindOf", "(I)I"⟩
abbrev cX12_mOf : ByteArray := prog_14_method_22_code
def yX12_mOf : MethodName := ⟨RX12, "mOf", "(I)I"⟩
abbrev cX12_hand : ByteArray := prog_14_method_23_code
def yX12_hand : MethodName := ⟨RX12, "hand", "(I)I"⟩
abbrev cX12_paceOf : ByteArray := prog_14_method_24_code
def yX12_paceOf : MethodName := ⟨RX12, "paceOf", "(III)I"⟩
abbrev cX12_loadOf : ByteArray := prog_14_method_25_code
def yX12_loadOf : MethodName := ⟨RX12, "loadOf", "(II)I"⟩
abbrev cX12_usesOf : ByteArray := prog_14_method_26_code
def yX12_usesOf : MethodName := ⟨RX12, "usesOf", "(II)I"⟩
abbrev cX12_ofHand : ByteArray := prog_14_method_27_code
def yX12_ofHand : MethodName := ⟨RX12, "ofHand", "(II)I"⟩
abbrev cX12_become : ByteArray := prog_14_method_28_code
def yX12_become : MethodName := ⟨RX12, "become", "(II)I"⟩
abbrev cX12_above : ByteArray := prog_14_method_29_code
def yX12_above : MethodName := ⟨RX12, "above", "(I)I"⟩
abbrev cX12_as : ByteArray := prog_14_method_30_code
def yX12_as : MethodName := ⟨RX12, "as", "(II)I"⟩
abbrev cX12_byteAt : ByteArray := prog_14_method_31_code
def yX12_byteAt : MethodName := ⟨RX12, "byteAt", "(I)I"⟩
abbrev cX12_isDigit : ByteArray := prog_14_method_32_code
def yX12_isDigit : MethodName := ⟨RX12, "isDigit", "(I)Z"⟩
abbrev cX12_fails : ByteArray := prog_14_method_33_code
def yX12_fails : MethodName := ⟨RX12, "fails", "()I"⟩
abbrev cX12_number : ByteArray := prog_14_method_34_code
def yX12_number : MethodName := ⟨RX12, "number", "()I"⟩
abbrev cX12_named : ByteArray := prog_14_method_35_code
def yX12_named : MethodName := ⟨RX12, "named", "(I)I"⟩
abbrev cX12_factor : ByteArray := prog_14_method_36_code
def yX12_factor : MethodName := ⟨RX12, "factor", "()I"⟩
abbrev cX12_product : ByteArray := prog_14_method_37_code
def yX12_product : MethodName := ⟨RX12, "product", "()I"⟩
abbrev cX12_sum : ByteArray := prog_14_method_38_code
def yX12_sum : MethodName := ⟨RX12, "sum", "()I"⟩
abbrev cX12_compared : ByteArray := prog_14_method_39_code
def yX12_compared : MethodName := ⟨RX12, "compared", "()I"⟩
abbrev cX12_both : ByteArray := prog_14_method_40_code
def yX12_both : MethodName := ⟨RX12, "both", "()I"⟩
abbrev cX12_whole : ByteArray := prog_14_method_41_code
def yX12_whole : MethodName := ⟨RX12, "whole", "()I"⟩
abbrev cX12_walks : ByteArray := prog_14_method_42_code
def yX12_walks : MethodName := ⟨RX12, "walks", "(IIII)I"⟩
abbrev cX12_lawOf : ByteArray := prog_14_method_43_code
def yX12_lawOf : MethodName := ⟨RX12, "lawOf", "(IIII)I"⟩
abbrev cX12_law : ByteArray := prog_14_method_44_code
def yX12_law : MethodName := ⟨RX12, "law", "(IIII)I"⟩
abbrev cX12_feed : ByteArray := prog_14_method_45_code
def yX12_feed : MethodName := ⟨RX12, "feed", "(JI)I"⟩
abbrev cX12_text : ByteArray := prog_14_method_46_code
def yX12_text : MethodName := ⟨RX12, "text", "(I)I"⟩
abbrev cX12_rolls : ByteArray := prog_14_method_47_code
def yX12_rolls : MethodName := ⟨RX12, "rolls", "(IIII)V"⟩
abbrev cX12_rollsBy : ByteArray := prog_14_method_48_code
def yX12_rollsBy : MethodName := ⟨RX12, "rollsBy", "(III)V"⟩
abbrev cX12_roll : ByteArray := prog_14_method_49_code
def yX12_roll : MethodName := ⟨RX12, "roll", "(III)I"⟩
abbrev cX12_minutes : ByteArray := prog_14_method_50_code
def yX12_minutes : MethodName := ⟨RX12, "minutes", "(I)I"⟩
abbrev cX12_drawn : ByteArray := prog_14_method_51_code
def yX12_drawn : MethodName := ⟨RX12, "drawn", "(I)I"⟩
abbrev cX12_days : ByteArray := prog_14_method_52_code
def yX12_days : MethodName := ⟨RX12, "days", "(I)I"⟩
abbrev cX12_seen : ByteArray := prog_14_method_53_code
def yX12_seen : MethodName := ⟨RX12, "seen", "()I"⟩
abbrev cX12_seams : ByteArray := prog_14_method_54_code
def yX12_seams : MethodName := ⟨RX12, "seams", "(I)I"⟩
abbrev cX12_isSheet : ByteArray := prog_14_method_55_code
def yX12_isSheet : MethodName := ⟨RX12, "isSheet", "(I)Z"⟩
abbrev cX12_seenBy : ByteArray := prog_14_method_56_code
def yX12_seenBy : MethodName := ⟨RX12, "seenBy", "(I)I"⟩
abbrev cX12_done : ByteArray := prog_14_method_57_code
def yX12_done : MethodName := ⟨RX12, "done", "(II)I"⟩
abbrev cX12_goesOn : ByteArray := prog_14_method_58_code
def yX12_goesOn : MethodName := ⟨RX12, "goesOn", "()Z"⟩
abbrev cX12_leastSeen : ByteArray := prog_14_method_59_code
def yX12_leastSeen : MethodName := ⟨RX12, "leastSeen", "(I)I"⟩
abbrev cX12_order : ByteArray := prog_14_method_60_code
def yX12_order : MethodName := ⟨RX12, "order", "(II)I"⟩
abbrev cX12_clean : ByteArray := prog_14_method_61_code
def yX12_clean : MethodName := ⟨RX12, "clean", "(II)I"⟩
abbrev cX12_seenAway : ByteArray := prog_14_method_62_code
def yX12_seenAway : MethodName := ⟨RX12, "seenAway", "(III)I"⟩
abbrev cX12_isLater : ByteArray := prog_14_method_63_code
def yX12_isLater : MethodName := ⟨RX12, "isLater", "(I)Z"⟩
abbrev cX12_called : ByteArray := prog_14_method_64_code
def yX12_called : MethodName := ⟨RX12, "called", "(III)I"⟩
abbrev cX12_worst : ByteArray := prog_14_method_65_code
def yX12_worst : MethodName := ⟨RX12, "worst", "(III)I"⟩
abbrev cX12_howLong : ByteArray := prog_14_method_66_code
def yX12_howLong : MethodName := ⟨RX12, "howLong", "(II)I"⟩
abbrev cX12_cans : ByteArray := prog_14_method_67_code
def yX12_cans : MethodName := ⟨RX12, "cans", "(I)I"⟩
abbrev cX12_rollsSo : ByteArray := prog_14_method_68_code
def yX12_rollsSo : MethodName := ⟨RX12, "rollsSo", "(IIII)Z"⟩
abbrev cX12_whose : ByteArray := prog_14_method_69_code
def yX12_whose : MethodName := ⟨RX12, "whose", "(III)I"⟩
abbrev cX12_odds : ByteArray := prog_14_method_70_code
def yX12_odds : MethodName := ⟨RX12, "odds", "(IIII)I"⟩
abbrev cX12_seed : ByteArray := prog_14_method_71_code
def yX12_seed : MethodName := ⟨RX12, "seed", "(I)I"⟩
abbrev cX12_ran : ByteArray := prog_14_method_72_code
def yX12_ran : MethodName := ⟨RX12, "ran", "(I)V"⟩
abbrev cX12_loadsIn : ByteArray := prog_14_method_73_code
def yX12_loadsIn : MethodName := ⟨RX12, "loadsIn", "(II)I"⟩
abbrev cX12_driesIn : ByteArray := prog_14_method_74_code
def yX12_driesIn : MethodName := ⟨RX12, "driesIn", "(II)I"⟩
abbrev cX12_rollsIn : ByteArray := prog_14_method_75_code
def yX12_rollsIn : MethodName := ⟨RX12, "rollsIn", "(II)I"⟩
abbrev cX12_tellsIn : ByteArray := prog_14_method_76_code
def yX12_tellsIn : MethodName := ⟨RX12, "tellsIn", "(II)I"⟩
abbrev cX12_voice : ByteArray := prog_14_method_77_code
def yX12_voice : MethodName := ⟨RX12, "voice", "(III)I"⟩
abbrev cX12_trace : ByteArray := prog_14_method_78_code
def yX12_trace : MethodName := ⟨RX12, "trace", "(I)I"⟩
abbrev cX12_narrow : ByteArray := prog_14_method_79_code
def yX12_narrow : MethodName := ⟨RX12, "narrow", "(II)I"⟩
abbrev cX12_sheet : ByteArray := prog_14_method_80_code
def yX12_sheet : MethodName := ⟨RX12, "sheet", "(III)I"⟩
abbrev cX12_put : ByteArray := prog_14_method_81_code
def yX12_put : MethodName := ⟨RX12, "put", "(III)I"⟩
abbrev cX12_move : ByteArray := prog_14_method_82_code
def yX12_move : MethodName := ⟨RX12, "move", "(IIIII)I"⟩
abbrev cX12_whites : ByteArray := prog_14_method_83_code
def yX12_whites : MethodName := ⟨RX12, "whites", "(I)I"⟩
abbrev cX12_judge : ByteArray := prog_14_method_84_code
def yX12_judge : MethodName := ⟨RX12, "judge", "(I)I"⟩
abbrev cX12_image : ByteArray := prog_14_method_85_code
def yX12_image : MethodName := ⟨RX12, "image", "()I"⟩
abbrev cX12_restore : ByteArray := prog_14_method_86_code
def yX12_restore : MethodName := ⟨RX12, "restore", "()I"⟩
abbrev cX12_tell : ByteArray := prog_14_method_87_code
def yX12_tell : MethodName := ⟨RX12, "tell", "(I)I"⟩
abbrev cX12_check : ByteArray := prog_14_method_88_code
def yX12_check : MethodName := ⟨RX12, "check", "()I"⟩
abbrev cX12_rolledMany : ByteArray := prog_14_method_89_code
def yX12_rolledMany : MethodName := ⟨RX12, "rolledMany", "()I"⟩
abbrev cX12_count : ByteArray := prog_14_method_90_code
def yX12_count : MethodName := ⟨RX12, "count", "(I)I"⟩
abbrev cX12_told : ByteArray := prog_14_method_91_code
def yX12_told : MethodName := ⟨RX12, "told", "(I)I"⟩
def RJ9 : String := "java/lang/Math"
def TJ9 : u_T := fun k => match k with
  | _ => ("", "", "", false)
def tyJ9 : Nat → FieldType := fun k => match k with
  | _ => .int
abbrev wsJ90 : List Cond := u_ws RJ9 TJ9 0
theorem nmJ9 : ∀ a, a < 0 → ∀ b, b < 0 → a ≠ b → (TJ9 a).2.1 ≠ (TJ9 b).2.1 := by decide +kernel
theorem tyJ9_ok : ∀ k, k < 0 → parseFieldDescriptor (TJ9 k).2.2.1 = some (tyJ9 k) := by decide +kernel
abbrev cJ9_abs_0f7a4 : ByteArray := prog_15_method_59_code
def yJ9_abs_0f7a4 : MethodName := ⟨RJ9, "abs", "(I)I"⟩
abbrev cJ9_max_7cf53 : ByteArray := prog_15_method_65_code
def yJ9_max_7cf53 : MethodName := ⟨RJ9, "max", "(II)I"⟩
abbrev cJ9_min_7cf53 : ByteArray := prog_15_method_69_code
def yJ9_min_7cf53 : MethodName := ⟨RJ9, "min", "(II)I"⟩
def RL : String := "OneGoCeilingLaw"
abbrev cL_law : ByteArray := code
def yL_law : MethodName := ⟨RL, "law", "([I)Z"⟩
abbrev vwCl : List vw_C := [(RX0, TX0, 10), (RX1, TX1, 2), (RX2, TX2, 4), (RX4, TX4, 5), (RX5, TX5, 2), (RX6, TX6, 2), (RX7, TX7, 7), (RX8, TX8, 3), (RX9, TX9, 9), (RX10, TX10, 4), (RX11, TX11, 9), (RX12, TX12, 30)]
end
section
/-! THE THOUGHT MACHINE: cells have numbers (0, 1, .. as they are made) instead of addresses; a method is walked over them, and what it says is true of the machine -/
abbrev AE : Type := (Nat × (Nat → Int32)) ⊕ ((Nat × (Nat → Option Nat)) ⊕ (Nat × List Value))
abbrev AH : Type := Nat × (Nat → AE)
abbrev MI : Type := MethodName × ByteArray × Nat × Option FieldType × Nat
abbrev XT : Type := Option (Nat × (Nat → Int32))
def cv (b base : Nat) (v : Value) : Value := match v with
  | .ref a => .ref (base + a)
  | .float _ => .ref b
  | w => w
def ce (b base : Nat) (cA : ClassId) (x : AE) : va_E := match x with
  | .inl a => .inl (cA, a.1, .inl a.2)
  | .inr (.inl a) => .inl (cA, a.1, .inr (.inr (.inr (.inr (fun j => (a.2 j).map (fun k => base + k))))))
  | .inr (.inr o) => .inr (o.1, o.2.map (cv b base))
def ak (cA : ClassId) (x : AE) (s : State) : Prop := match x with
  | .inl _ => ArrOfT s cA .int ∧ va_RA s cA .int
  | .inr (.inl _) => ArrOfT s cA (.object "OneGoCeiling$Sheet") ∧ va_RA s cA (.object "OneGoCeiling$Sheet")
  | .inr (.inr _) => True
def hset (h : AH) (i : Nat) (x : AE) : AH := (h.1, fun j => if j = i then x else h.2 j)
def hnew (h : AH) (x : AE) : AH := (h.1 + 1, fun j => if j = h.1 then x else h.2 j)
def iA (base : Nat) : Nat → Prop := fun q => base ≤ q
def Hp (D : va_G) (b base : Nat) (s : State) (h : AH) (H : Heap) : Prop :=
  ∃ cA : Nat → ClassId, H.size = base + h.1 ∧ (∀ i, i < h.1 → va_at D vwCl (base + i, ce b base (cA i) (h.2 i)) H) ∧ ∀ i, i < h.1 → ak (cA i) (h.2 i) s
def lAB : List Int32 := [-1, 0, 0, 0, 1, 2, 3]
def lBO : List Int32 := [10, 11, 12, 13, 0, 0, 20, 0, 0, 30, 0, 0, 40, 0, 0, 0, 0, 0, 50, 51, 0, 60, 0, 0, 0, 0, 0, 70]
def fAB : Nat → Value := fun j => .int (lAB.getD j 0)
def fBO : Nat → Value := fun j => .int (lBO.getD j 0)
def Sa (base : Nat) (U : State) (H : Heap) : Prop := ∃ t, va_Z "OneGoCeiling$Kinds" "ABOVE" "[I" (.ref t) (iA base) U H ∧ va_T .int t 7 fAB (iA base) U H
def Sb (base : Nat) (U : State) (H : Heap) : Prop := ∃ t, va_Z "OneGoCeiling$Voices" "BODIES" "[I" (.ref t) (iA base) U H ∧ va_T .int t 28 fBO (iA base) U H
def Sc (b base : Nat) (X : XT) (U : State) (H : Heap) : Prop := ∀ L xs, X = some (L, xs) → va_X b L xs U H ∧ b < base
def Wd (D : va_G) (b base : Nat) (X : XT) (h : AH) (U : State) : Prop :=
  va_K D vwCl [] U ∧ va_AO "OneGoCeiling$Sheet" U ∧ Sa base U U.heap ∧ Sb base U U.heap ∧ Sc b base X U U.heap ∧ Hp D b base U h U.heap
def rmd (d mc ms : Nat) : Room := { frames := d, cells := mc, slots := ms, locals := 41 * d }
def lw_g : List Cond := lw_tbl.filter goodWord
def wsM (μ : MI) : List Cond := .code μ.1 μ.2.1 μ.2.2.1 μ.2.2.2.1 :: lw_g
def QM (D : va_G) (b base : Nat) (X : XT) (Q : Option Value → AH → Prop) : Array Value → State → Outcome → State → Prop := fun _ st o t =>
  (∃ v h', o = .returned (v.map (cv b base)) ∧ Q v h' ∧ Wd D b base X h' t) ∧ st.heap.size ≤ t.heap.size ∧ ∀ q, q < base → t.heap[q]? = st.heap[q]?
/-- a method's contract, by a heap -/
def CT (d mc ms : Nat) (μ : MI) (as : List Value) (h : AH) (Q : Option Value → AH → Prop) : Prop :=
  ∀ (l : Launch) (D : va_G) (b base : Nat) (X : XT), Met l μ.1 (wsM μ) (rmd d mc ms) (fun args U => args = (as.map (cv b base)).toArray ∧ Wd D b base X h U) (QM D b base X Q) mc ms (iA base)
def lget : List (Option Value) → Nat → Option Value
  | [], _ => none
  | v :: _, 0 => v
  | _ :: l, i + 1 => lget l i
def lset : List (Option Value) → Nat → Value → List (Option Value)
  | [], _, _ => []
  | _ :: l, 0, v => some v :: l
  | w :: l, i + 1, v => w :: lset l i v
def lvl (f : Value → Value) : Nat → List (Option Value) → List (Nat × Value)
  | _, [] => []
  | i, none :: l => lvl f (i + 1) l
  | i, some v :: l => (i, f v) :: lvl f (i + 1) l
def lok : List (Option Value) → Nat → Bool
  | some (.long _) :: _, 1 => false
  | some (.double _) :: _, 1 => false
  | [], _ => true
  | _, 0 => true
  | _ :: l, i + 1 => lok l i
def ent : List Value → List (Option Value)
  | [] => []
  | .long x :: l => some (.long x) :: none :: ent l
  | .double x :: l => some (.double x) :: none :: ent l
  | v :: l => some v :: ent l
def pad : Nat → List (Option Value) → List (Option Value)
  | 0, l => l
  | n + 1, [] => none :: pad n []
  | n + 1, v :: l => v :: pad n l
def Re (μ : MI) (pc : Nat) (v : Option Value) : Prop := match v with
  | none => decode μ.2.1 pc = .ok (.return_, 1) ∧ μ.2.2.2.1 = none
  | some (.int x) => decode μ.2.1 pc = .ok (.ireturn, 1) ∧ ∃ ty, μ.2.2.2.1 = some ty ∧ narrow ty (.int x) = .int x
  | some w => decode μ.2.1 pc = .ok (.areturn, 1) ∧ (∃ ty, μ.2.2.2.1 = some ty ∧ ((∃ n, ty = .object n) ∨ ∃ t, ty = .array t)) ∧ (w = .null ∨ ∃ a, w = .ref a)
def Cx (μ : MI) (b base : Nat) (X : XT) (D : va_G) (p : Program) (s : State) (m : MethodId) (args : Array Value) (meth : Method) (c : Code) : Prop :=
  p.tables.exec = Jvm.exec ∧ c.code = μ.2.1 ∧ c.maxLocals = μ.2.2.1 ∧ meth.sig.returnType = μ.2.2.2.1 ∧ s.vm.findClass μ.1.cls = some m.cls ∧ meth.locks = false ∧ (μ.1.name = "<init>" → meth.name = "<init>") ∧ (∀ w ∈ lw_g, w.before args s = true) ∧ va_K D vwCl [] s ∧ va_AO "OneGoCeiling$Sheet" s ∧ Sa base s s.heap ∧ Sb base s s.heap ∧ Sc b base X s s.heap ∧ base ≤ s.heap.size
/-- from this instruction on, with these locals, this stack, any heap of P: the method ends with Q -/
def AW (XS : XT → Prop) (R : Room) (μ : MI) (kc ks pc : Nat) (ls : List (Option Value)) (st : List Value) (P : AH → Prop) (Q : Option Value → AH → Prop) : Prop :=
  ∀ (p : Program) (l : Launch) (e : Env) (s : State) (m : MethodId) (args : Array Value) (below : List Frame) (meth : Method) (c : Code) (D : va_G) (b base : Nat) (X : XT) (Z : State → Prop),
    XS X → Cx μ b base X D p s m args meth c →
    (∀ (pc : Nat) (v : Option Value) (h : AH) (H : Heap) (locs : List Loc) (lsA : Array Slot), Q v h → Re μ pc v → Hp D b base s h H → va_S (iA base) s.heap H locs → W p l e R s m args below meth c H locs R.cells R.slots Z (F0 m pc lsA (v.toList.map (cv b base)))) →
    ∀ (h : AH) (H : Heap) (locs : List Loc) (lsA : Array Slot), P h → Hp D b base s h H → va_S (iA base) s.heap H locs → lv_has lsA μ.2.2.1 (lvl (cv b base) 0 ls) → W p l e R s m args below meth c H locs kc ks Z (F0 m pc lsA (st.map (cv b base)))
-- ===== plain facts =====
theorem cv_cat (b base : Nat) (v : Value) : (cv b base v).category = v.category := by cases v <;> rfl
theorem lvl_mem {f : Value → Value} : ∀ {ls : List (Option Value)} {i : Nat} {q : Nat × Value}, q ∈ lvl f i ls ↔ ∃ j v, q = (i + j, f v) ∧ lget ls j = some v := by
  intro ls
  induction ls with
  | nil => intro i q; simp [lvl, lget]
  | cons w l ih =>
    intro i q
    cases w with
    | none =>
      rw [lvl, ih]
      constructor
      · rintro ⟨j, v, rfl, h⟩
        exact ⟨j + 1, v, by rw [show i + (j + 1) = i + 1 + j by omega], h⟩
      · rintro ⟨j, v, rfl, h⟩
        cases j with
        | zero => cases h
        | succ j => exact ⟨j, v, by rw [show i + (j + 1) = i + 1 + j by omega], h⟩
    | some w =>
      rw [lvl, List.mem_cons, ih]
      constructor
      · rintro (rfl | ⟨j, v, rfl, h⟩)
        · exact ⟨0, w, rfl, rfl⟩
        · exact ⟨j + 1, v, by rw [show i + (j + 1) = i + 1 + j by omega], h⟩
      · rintro ⟨j, v, rfl, h⟩
        cases j with
        | zero => cases h; exact Or.inl rfl
        | succ j => exact Or.inr ⟨j, v, by rw [show i + (j + 1) = i + 1 + j by omega], h⟩
theorem lget_ok {f : Value → Value} {ls : List (Option Value)} {lsA : Array Slot} {n i : Nat} {v : Value} (h : lv_has lsA n (lvl f 0 ls)) (hl : lget ls i = some v) : lsA[i]? = some (.val (f v)) :=
  h.2.2 (i, f v) (lvl_mem.mpr ⟨i, v, by rw [Nat.zero_add], hl⟩)
theorem lget_lset : ∀ {ls : List (Option Value)} {i j : Nat} {v w : Value}, lget (lset ls i v) j = some w → (j = i ∧ w = v) ∨ (j ≠ i ∧ lget ls j = some w) := by
  intro ls
  induction ls with
  | nil => intro i j v w h; simp [lset, lget] at h
  | cons x l ih =>
    intro i j v w h
    cases i with
    | zero =>
      cases j with
      | zero => simp only [lset, lget, Option.some.injEq] at h; exact Or.inl ⟨rfl, h.symm⟩
      | succ j => exact Or.inr ⟨by omega, h⟩
    | succ i =>
      cases j with
      | zero => exact Or.inr ⟨by omega, h⟩
      | succ j =>
        rcases ih (i := i) (j := j) (v := v) (w := w) h with ⟨a, b⟩ | ⟨a, b⟩
        · exact Or.inl ⟨by omega, b⟩
        · exact Or.inr ⟨by omega, b⟩
theorem lok_ok : ∀ {ls : List (Option Value)} {i : Nat} {v : Value}, lok ls (i + 1) = true → lget ls i = some v → v.category = 1 := by
  intro ls
  induction ls with
  | nil => intro i v _ h; simp [lget] at h
  | cons x l ih =>
    intro i v hk h
    cases i with
    | zero =>
      simp only [lget] at h
      subst h
      cases v <;> first | rfl | (simp [lok] at hk)
    | succ i =>
      have hk2 : lok l (i + 1) = true := by
        cases x with
        | none => exact hk
        | some y => cases y <;> exact hk
      exact ih hk2 h
/-- a store of one slot -/
theorem lset_ok {f : Value → Value} {ls : List (Option Value)} {lsA : Array Slot} {n i : Nat} {v : Value} (hf : ∀ w, (f w).category = w.category) (hk : lok ls i = true)
    (h : lv_has lsA n ((i, f v) :: (lvl f 0 ls).filter (fun q => !(q.1 == i) && !(q.1 + 1 == i && q.2.category == 2)))) : lv_has lsA n (lvl f 0 (lset ls i v)) := by
  refine ⟨h.1, h.2.1, fun q hq => h.2.2 q ?_⟩
  obtain ⟨j, w, rfl, hj⟩ := lvl_mem.mp hq
  rw [Nat.zero_add]
  rcases lget_lset hj with ⟨rfl, rfl⟩ | ⟨hne, hg⟩
  · exact List.mem_cons_self
  · refine List.mem_cons_of_mem _ (List.mem_filter.mpr ⟨lvl_mem.mpr ⟨j, w, by rw [Nat.zero_add], hg⟩, ?_⟩)
    simp only [Bool.and_eq_true, Bool.not_eq_true', beq_eq_false_iff_ne, ne_eq, Bool.and_eq_false_imp, beq_iff_eq]
    refine ⟨hne, fun e => ?_⟩
    subst e
    rw [hf, lok_ok hk hg]
    decide
theorem lget_pad : ∀ {n : Nat} {ls : List (Option Value)} {i : Nat} {v : Value}, lget (pad n ls) i = some v → lget ls i = some v := by
  intro n
  induction n with
  | zero => intro ls i v h; exact h
  | succ n ih =>
    intro ls i v h
    cases ls with
    | nil =>
      cases i with
      | zero => simp [pad, lget] at h
      | succ i => have := ih (ls := []) (i := i) h; simp [lget] at this
    | cons x l =>
      cases i with
      | zero => exact h
      | succ i => exact ih (ls := l) (i := i) h
theorem ent_ok {f : Value → Value} (hf : ∀ w, (f w).category = w.category) : ∀ (as : List Value) (i : Nat) (q : Nat × Value), q ∈ lvl f i (ent as) → q ∈ lv_args i (as.map f) := by
  intro as
  induction as with
  | nil => intro i q h; simp [ent, lvl] at h
  | cons v l ih =>
    intro i q h
    rw [List.map_cons, lv_args, hf]
    cases v with
    | long x =>
      simp only [ent, lvl, List.mem_cons] at h
      rcases h with h | h
      · exact List.mem_cons.mpr (Or.inl h)
      · exact List.mem_cons_of_mem _ (ih _ _ h)
    | double x =>
      simp only [ent, lvl, List.mem_cons] at h
      rcases h with h | h
      · exact List.mem_cons.mpr (Or.inl h)
      · exact List.mem_cons_of_mem _ (ih _ _ h)
    | _ =>
      simp only [ent, lvl, List.mem_cons] at h
      rcases h with h | h
      · exact List.mem_cons.mpr (Or.inl h)
      · exact List.mem_cons_of_mem _ (ih _ _ h)
theorem ent_pad {f : Value → Value} (hf : ∀ w, (f w).category = w.category) {as : List Value} {lsA : Array Slot} {n : Nat} (h : lv_has lsA n (lv_args 0 (as.map f))) : lv_has lsA n (lvl f 0 (pad n (ent as))) := by
  refine ⟨h.1, h.2.1, fun q hq => h.2.2 q ?_⟩
  obtain ⟨j, w, rfl, hj⟩ := lvl_mem.mp hq
  exact ent_ok hf as 0 _ (lvl_mem.mpr ⟨j, w, rfl, lget_pad hj⟩)
theorem cat_sum (b base : Nat) (st : List Value) : ((st.map (cv b base)).map fun v => v.category).sum = (st.map fun v => v.category).sum := by
  rw [List.map_map]
  congr 1
  exact List.map_congr_left fun v _ => cv_cat b base v
theorem lwg_in : ∀ w ∈ lw_g, w ∈ lw_tbl := fun w h => (List.mem_filter.mp h).1
theorem lwg_good : ∀ w ∈ lw_g, (w.onTables && w.keeps) = true ∨ ∃ ty, w = .arrayClass ty := fun w h => good_of_word (List.mem_filter.mp h).2
theorem lwg_at (i : Nat) {w : Cond} (h : lw_tbl[i]? = some w) (h2 : goodWord w = true) : w ∈ lw_g := List.mem_filter.mpr ⟨List.mem_of_getElem? h, h2⟩
theorem lwg_ws {μ : MI} (hc : Cond.code μ.1 μ.2.1 μ.2.2.1 μ.2.2.2.1 ∈ lw_g) : GoodIn lw_g (wsM μ) := fun w hw => by
  rcases List.mem_cons.mp hw with rfl | h
  · exact ⟨hc, lwg_good _ hc⟩
  · exact ⟨h, lwg_good _ h⟩
theorem hset_same (h : AH) (i : Nat) (x : AE) : (hset h i x).2 i = x := if_pos rfl
theorem hset_ne (h : AH) {i j : Nat} (x : AE) (n : j ≠ i) : (hset h i x).2 j = h.2 j := if_neg n
theorem hset_1 (h : AH) (i : Nat) (x : AE) : (hset h i x).1 = h.1 := rfl
end
section
section RowsA
variable {XS : XT → Prop} {R : Room} {μ : MI} {kc ks pc : Nat} {ls : List (Option Value)} {st : List Value} {P : AH → Prop} {Q : Option Value → AH → Prop}
theorem aw_P {P' : AH → Prop} (hp : ∀ h, P h → P' h) (kk : AW XS R μ kc ks pc ls st P' Q) : AW XS R μ kc ks pc ls st P Q := by
  intro p l e s m args below meth c D b base X Z hX hc hz h H locs lsA hP
  exact kk p l e s m args below meth c D b base X Z hX hc hz h H locs lsA (hp h hP)
theorem aw_at (kk : ∀ h, P h → AW XS R μ kc ks pc ls st (fun g => g = h) Q) : AW XS R μ kc ks pc ls st P Q := by
  intro p l e s m args below meth c D b base X Z hX hc hz h H locs lsA hP
  exact kk h hP p l e s m args below meth c D b base X Z hX hc hz h H locs lsA rfl
theorem aw_ex {α : Type} {F : α → AH → Prop} (kk : ∀ x, AW XS R μ kc ks pc ls st (F x) Q) : AW XS R μ kc ks pc ls st (fun h => ∃ x, F x h) Q := by
  intro p l e s m args below meth c D b base X Z hX hc hz h H locs lsA hP
  obtain ⟨x, hx⟩ := hP
  exact kk x p l e s m args below meth c D b base X Z hX hc hz h H locs lsA hx
theorem aw_pr {G : Prop} (kk : G → AW XS R μ kc ks pc ls st P Q) : AW XS R μ kc ks pc ls st (fun h => G ∧ P h) Q := by
  intro p l e s m args below meth c D b base X Z hX hc hz h H locs lsA hP
  exact kk hP.1 p l e s m args below meth c D b base X Z hX hc hz h H locs lsA hP.2
theorem aw_pc {pc' : Nat} (e0 : pc = pc') (kk : AW XS R μ kc ks pc' ls st P Q) : AW XS R μ kc ks pc ls st P Q := e0 ▸ kk
theorem aw_lk {ls' : List (Option Value)} (h0 : ∀ i v, lget ls' i = some v → lget ls i = some v) (kk : AW XS R μ kc ks pc ls' st P Q) : AW XS R μ kc ks pc ls st P Q := by
  intro p l e s m args below meth c D b base X Z hX hc hz h H locs lsA hP hH hS hL
  refine kk p l e s m args below meth c D b base X Z hX hc hz h H locs lsA hP hH hS ⟨hL.1, hL.2.1, fun q hq => ?_⟩
  obtain ⟨j, v, rfl, hj⟩ := lvl_mem.mp hq
  exact hL.2.2 _ (lvl_mem.mpr ⟨j, v, rfl, h0 j v hj⟩)
theorem r_iconst {n : Int} {v : Int32} (hf : decode μ.2.1 pc = .ok (.iconst n, 1)) (hv : Int32.ofInt n = v) (kk : AW XS R μ kc ks (pc + 1) ls (.int v :: st) P Q) : AW XS R μ kc ks pc ls st P Q := by
  intro p l e s m args below meth c D b base X Z hX hc hz h H locs lsA hP hH hS hL
  exact lv_iconst hc.1 hc.2.1 hf hv (kk p l e s m args below meth c D b base X Z hX hc hz h H locs lsA hP hH hS hL)
theorem r_bipush {n : Int} {v : Int32} (hf : decode μ.2.1 pc = .ok (.bipush n, 2)) (hv : (Int8.ofInt n).toInt32 = v) (kk : AW XS R μ kc ks (pc + 2) ls (.int v :: st) P Q) : AW XS R μ kc ks pc ls st P Q := by
  intro p l e s m args below meth c D b base X Z hX hc hz h H locs lsA hP hH hS hL
  exact lv_bipush hc.1 hc.2.1 hf hv (kk p l e s m args below meth c D b base X Z hX hc hz h H locs lsA hP hH hS hL)
theorem r_sipush {n : Int} {v : Int32} (hf : decode μ.2.1 pc = .ok (.sipush n, 3)) (hv : (Int16.ofInt n).toInt32 = v) (kk : AW XS R μ kc ks (pc + 3) ls (.int v :: st) P Q) : AW XS R μ kc ks pc ls st P Q := by
  intro p l e s m args below meth c D b base X Z hX hc hz h H locs lsA hP hH hS hL
  exact lv_sipush hc.1 hc.2.1 hf hv (kk p l e s m args below meth c D b base X Z hX hc hz h H locs lsA hP hH hS hL)
theorem r_ldc {i : Nat} {v : Int32} (hf : decode μ.2.1 pc = .ok (.ldc i, 2)) (hw : Cond.constant μ.1.cls i v ∈ lw_g) (kk : AW XS R μ kc ks (pc + 2) ls (.int v :: st) P Q) : AW XS R μ kc ks pc ls st P Q := by
  intro p l e s m args below meth c D b base X Z hX hc hz h H locs lsA hP hH hS hL
  exact lv_ldc hc.1 hc.2.1 hc.2.2.2.2.1 (hc.2.2.2.2.2.2.2.1 _ hw) hf (kk p l e s m args below meth c D b base X Z hX hc hz h H locs lsA hP hH hS hL)
theorem r_ldcw {i : Nat} {v : Int32} (hf : decode μ.2.1 pc = .ok (.ldc_w i, 3)) (hw : Cond.constant μ.1.cls i v ∈ lw_g) (kk : AW XS R μ kc ks (pc + 3) ls (.int v :: st) P Q) : AW XS R μ kc ks pc ls st P Q := by
  intro p l e s m args below meth c D b base X Z hX hc hz h H locs lsA hP hH hS hL
  exact lv_ldcw hc.1 hc.2.1 hc.2.2.2.2.1 (hc.2.2.2.2.2.2.2.1 _ hw) hf (kk p l e s m args below meth c D b base X Z hX hc hz h H locs lsA hP hH hS hL)
theorem r_ldc2 {i : Nat} {v : Int64} (hf : decode μ.2.1 pc = .ok (.ldc2_w i, 3)) (hw : Cond.constantLong μ.1.cls i v ∈ lw_g) (kk : AW XS R μ kc ks (pc + 3) ls (.long v :: st) P Q) : AW XS R μ kc ks pc ls st P Q := by
  intro p l e s m args below meth c D b base X Z hX hc hz h H locs lsA hP hH hS hL
  exact lv_ldc2 hc.1 hc.2.1 hc.2.2.2.2.1 (hc.2.2.2.2.2.2.2.1 _ hw) hf (kk p l e s m args below meth c D b base X Z hX hc hz h H locs lsA hP hH hS hL)
theorem r_iload_n {k : Fin 4} {x : Int32} (hf : decode μ.2.1 pc = .ok (.iload_n k, 1)) (hl : lget ls k = some (.int x)) (kk : AW XS R μ kc ks (pc + 1) ls (.int x :: st) P Q) : AW XS R μ kc ks pc ls st P Q := by
  intro p l e s m args below meth c D b base X Z hX hc hz h H locs lsA hP hH hS hL
  exact lv_iload_n hc.1 hc.2.1 hf rfl (lget_ok hL hl) (kk p l e s m args below meth c D b base X Z hX hc hz h H locs lsA hP hH hS hL)
theorem r_iload {i : Nat} {x : Int32} (hf : decode μ.2.1 pc = .ok (.iload i, 2)) (hl : lget ls i = some (.int x)) (kk : AW XS R μ kc ks (pc + 2) ls (.int x :: st) P Q) : AW XS R μ kc ks pc ls st P Q := by
  intro p l e s m args below meth c D b base X Z hX hc hz h H locs lsA hP hH hS hL
  exact lv_iload hc.1 hc.2.1 hf (lget_ok hL hl) (kk p l e s m args below meth c D b base X Z hX hc hz h H locs lsA hP hH hS hL)
theorem r_lload_n {k : Fin 4} {x : Int64} (hf : decode μ.2.1 pc = .ok (.lload_n k, 1)) (hl : lget ls k = some (.long x)) (kk : AW XS R μ kc ks (pc + 1) ls (.long x :: st) P Q) : AW XS R μ kc ks pc ls st P Q := by
  intro p l e s m args below meth c D b base X Z hX hc hz h H locs lsA hP hH hS hL
  exact lv_lload_n hc.1 hc.2.1 hf rfl (lget_ok hL hl) (kk p l e s m args below meth c D b base X Z hX hc hz h H locs lsA hP hH hS hL)
theorem r_aload_n {k : Fin 4} {x : Nat} (hf : decode μ.2.1 pc = .ok (.aload_n k, 1)) (hl : lget ls k = some (.ref x)) (kk : AW XS R μ kc ks (pc + 1) ls (.ref x :: st) P Q) : AW XS R μ kc ks pc ls st P Q := by
  intro p l e s m args below meth c D b base X Z hX hc hz h H locs lsA hP hH hS hL
  exact lv_aload_n hc.1 hc.2.1 hf rfl (lget_ok hL hl) (kk p l e s m args below meth c D b base X Z hX hc hz h H locs lsA hP hH hS hL)
theorem r_aload {i : Nat} {x : Nat} (hf : decode μ.2.1 pc = .ok (.aload i, 2)) (hl : lget ls i = some (.ref x)) (kk : AW XS R μ kc ks (pc + 2) ls (.ref x :: st) P Q) : AW XS R μ kc ks pc ls st P Q := by
  intro p l e s m args below meth c D b base X Z hX hc hz h H locs lsA hP hH hS hL
  exact lv_aload hc.1 hc.2.1 hf (lget_ok hL hl) (kk p l e s m args below meth c D b base X Z hX hc hz h H locs lsA hP hH hS hL)
theorem r_aload_nN {k : Fin 4} (hf : decode μ.2.1 pc = .ok (.aload_n k, 1)) (hl : lget ls k = some .null) (kk : AW XS R μ kc ks (pc + 1) ls (.null :: st) P Q) : AW XS R μ kc ks pc ls st P Q := by
  intro p l e s m args below meth c D b base X Z hX hc hz h H locs lsA hP hH hS hL
  exact lv_aload_nN hc.1 hc.2.1 hf rfl (lget_ok hL hl) (kk p l e s m args below meth c D b base X Z hX hc hz h H locs lsA hP hH hS hL)
theorem r_aloadN {i : Nat} (hf : decode μ.2.1 pc = .ok (.aload i, 2)) (hl : lget ls i = some .null) (kk : AW XS R μ kc ks (pc + 2) ls (.null :: st) P Q) : AW XS R μ kc ks pc ls st P Q := by
  intro p l e s m args below meth c D b base X Z hX hc hz h H locs lsA hP hH hS hL
  exact lv_aloadN hc.1 hc.2.1 hf (lget_ok hL hl) (kk p l e s m args below meth c D b base X Z hX hc hz h H locs lsA hP hH hS hL)
theorem r_aload_nX {k : Fin 4} {z : UInt32} (hf : decode μ.2.1 pc = .ok (.aload_n k, 1)) (hl : lget ls k = some (.float z)) (kk : AW XS R μ kc ks (pc + 1) ls (.float z :: st) P Q) : AW XS R μ kc ks pc ls st P Q := by
  intro p l e s m args below meth c D b base X Z hX hc hz h H locs lsA hP hH hS hL
  exact lv_aload_n hc.1 hc.2.1 hf rfl (lget_ok hL hl) (kk p l e s m args below meth c D b base X Z hX hc hz h H locs lsA hP hH hS hL)
theorem r_istore_n {k : Fin 4} {i : Nat} {x : Int32} (hf : decode μ.2.1 pc = .ok (.istore_n k, 1)) (hi : (k : Nat) = i) (hn : i < μ.2.2.1) (hk : lok ls i = true) (kk : AW XS R μ kc ks (pc + 1) (lset ls i (.int x)) st P Q) : AW XS R μ kc ks pc ls ((.int x) :: st) P Q := by
  intro p l e s m args below meth c D b base X Z hX hc hz h H locs lsA hP hH hS hL
  exact lv_istore_n hc.1 hc.2.1 hf hi hL hn rfl (fun ls' hl' => kk p l e s m args below meth c D b base X Z hX hc hz h H locs ls' hP hH hS (lset_ok (cv_cat b base) hk hl'))
theorem r_istore {i : Nat} {x : Int32} (hf : decode μ.2.1 pc = .ok (.istore i, 2)) (hn : i < μ.2.2.1) (hk : lok ls i = true) (kk : AW XS R μ kc ks (pc + 2) (lset ls i (.int x)) st P Q) : AW XS R μ kc ks pc ls ((.int x) :: st) P Q := by
  intro p l e s m args below meth c D b base X Z hX hc hz h H locs lsA hP hH hS hL
  exact lv_istore hc.1 hc.2.1 hf hL hn rfl (fun ls' hl' => kk p l e s m args below meth c D b base X Z hX hc hz h H locs ls' hP hH hS (lset_ok (cv_cat b base) hk hl'))
theorem r_astore_n {k : Fin 4} {i : Nat} {x : Nat} (hf : decode μ.2.1 pc = .ok (.astore_n k, 1)) (hi : (k : Nat) = i) (hn : i < μ.2.2.1) (hk : lok ls i = true) (kk : AW XS R μ kc ks (pc + 1) (lset ls i (.ref x)) st P Q) : AW XS R μ kc ks pc ls ((.ref x) :: st) P Q := by
  intro p l e s m args below meth c D b base X Z hX hc hz h H locs lsA hP hH hS hL
  exact lv_astore_n hc.1 hc.2.1 hf hi hL hn rfl (fun ls' hl' => kk p l e s m args below meth c D b base X Z hX hc hz h H locs ls' hP hH hS (lset_ok (cv_cat b base) hk hl'))
theorem r_astore {i : Nat} {x : Nat} (hf : decode μ.2.1 pc = .ok (.astore i, 2)) (hn : i < μ.2.2.1) (hk : lok ls i = true) (kk : AW XS R μ kc ks (pc + 2) (lset ls i (.ref x)) st P Q) : AW XS R μ kc ks pc ls ((.ref x) :: st) P Q := by
  intro p l e s m args below meth c D b base X Z hX hc hz h H locs lsA hP hH hS hL
  exact lv_astore hc.1 hc.2.1 hf hL hn rfl (fun ls' hl' => kk p l e s m args below meth c D b base X Z hX hc hz h H locs ls' hP hH hS (lset_ok (cv_cat b base) hk hl'))
theorem r_astore_nN {k : Fin 4} {i : Nat}  (hf : decode μ.2.1 pc = .ok (.astore_n k, 1)) (hi : (k : Nat) = i) (hn : i < μ.2.2.1) (hk : lok ls i = true) (kk : AW XS R μ kc ks (pc + 1) (lset ls i .null) st P Q) : AW XS R μ kc ks pc ls (.null :: st) P Q := by
  intro p l e s m args below meth c D b base X Z hX hc hz h H locs lsA hP hH hS hL
  exact lv_astore_nN hc.1 hc.2.1 hf hi hL hn rfl (fun ls' hl' => kk p l e s m args below meth c D b base X Z hX hc hz h H locs ls' hP hH hS (lset_ok (cv_cat b base) hk hl'))
theorem r_astoreN {i : Nat}  (hf : decode μ.2.1 pc = .ok (.astore i, 2)) (hn : i < μ.2.2.1) (hk : lok ls i = true) (kk : AW XS R μ kc ks (pc + 2) (lset ls i .null) st P Q) : AW XS R μ kc ks pc ls (.null :: st) P Q := by
  intro p l e s m args below meth c D b base X Z hX hc hz h H locs lsA hP hH hS hL
  exact lv_astoreN hc.1 hc.2.1 hf hL hn rfl (fun ls' hl' => kk p l e s m args below meth c D b base X Z hX hc hz h H locs ls' hP hH hS (lset_ok (cv_cat b base) hk hl'))
theorem rk_at {f : Value → Value} {ls : List (Option Value)} {i : Nat} {v : Value} (h : lget ls i = some v) : ∃ k : Nat, (lvl f 0 ls)[k]? = some (i, f v) := by
  obtain ⟨k, hk⟩ := List.getElem?_of_mem (lvl_mem.mpr ⟨i, v, by rw [Nat.zero_add], h⟩ : (i, f v) ∈ lvl f 0 ls)
  exact ⟨k, hk⟩
theorem r_iinc {i : Nat} {n : Int} {x v : Int32} (hf : decode μ.2.1 pc = .ok (.iinc i n, 3)) (hl : lget ls i = some (.int x)) (hv : x + Int32.ofInt n = v) (hn : i < μ.2.2.1) (hk : lok ls i = true) (kk : AW XS R μ kc ks (pc + 3) (lset ls i (.int v)) st P Q) : AW XS R μ kc ks pc ls st P Q := by
  intro p l e s m args below meth c D b base X Z hX hc hz h H locs lsA hP hH hS hL
  obtain ⟨k, hk2⟩ := rk_at (f := cv b base) hl
  exact lv_iinc hc.1 hc.2.1 hf hL hk2 hv hn rfl (fun ls' hl' => kk p l e s m args below meth c D b base X Z hX hc hz h H locs ls' hP hH hS (lset_ok (v := .int v) (cv_cat b base) hk hl'))
theorem r_iadd {x y : Int32} (hf : decode μ.2.1 pc = .ok (.iadd, 1)) (kk : AW XS R μ kc ks (pc + 1) ls (.int (x + y) :: st) P Q) : AW XS R μ kc ks pc ls (.int y :: .int x :: st) P Q := by
  intro p l e s m args below meth c D b base X Z hX hc hz h H locs lsA hP hH hS hL
  exact lv_iadd hc.1 hc.2.1 hf (kk p l e s m args below meth c D b base X Z hX hc hz h H locs lsA hP hH hS hL)
theorem r_isub {x y : Int32} (hf : decode μ.2.1 pc = .ok (.isub, 1)) (kk : AW XS R μ kc ks (pc + 1) ls (.int (x - y) :: st) P Q) : AW XS R μ kc ks pc ls (.int y :: .int x :: st) P Q := by
  intro p l e s m args below meth c D b base X Z hX hc hz h H locs lsA hP hH hS hL
  exact lv_isub hc.1 hc.2.1 hf (kk p l e s m args below meth c D b base X Z hX hc hz h H locs lsA hP hH hS hL)
theorem r_imul {x y : Int32} (hf : decode μ.2.1 pc = .ok (.imul, 1)) (kk : AW XS R μ kc ks (pc + 1) ls (.int (x * y) :: st) P Q) : AW XS R μ kc ks pc ls (.int y :: .int x :: st) P Q := by
  intro p l e s m args below meth c D b base X Z hX hc hz h H locs lsA hP hH hS hL
  exact lv_imul hc.1 hc.2.1 hf (kk p l e s m args below meth c D b base X Z hX hc hz h H locs lsA hP hH hS hL)
theorem r_iand {x y : Int32} (hf : decode μ.2.1 pc = .ok (.iand, 1)) (kk : AW XS R μ kc ks (pc + 1) ls (.int (x &&& y) :: st) P Q) : AW XS R μ kc ks pc ls (.int y :: .int x :: st) P Q := by
  intro p l e s m args below meth c D b base X Z hX hc hz h H locs lsA hP hH hS hL
  exact lv_iand hc.1 hc.2.1 hf (kk p l e s m args below meth c D b base X Z hX hc hz h H locs lsA hP hH hS hL)
theorem r_ior {x y : Int32} (hf : decode μ.2.1 pc = .ok (.ior, 1)) (kk : AW XS R μ kc ks (pc + 1) ls (.int (x ||| y) :: st) P Q) : AW XS R μ kc ks pc ls (.int y :: .int x :: st) P Q := by
  intro p l e s m args below meth c D b base X Z hX hc hz h H locs lsA hP hH hS hL
  exact lv_ior hc.1 hc.2.1 hf (kk p l e s m args below meth c D b base X Z hX hc hz h H locs lsA hP hH hS hL)
theorem r_ixor {x y : Int32} (hf : decode μ.2.1 pc = .ok (.ixor, 1)) (kk : AW XS R μ kc ks (pc + 1) ls (.int (x ^^^ y) :: st) P Q) : AW XS R μ kc ks pc ls (.int y :: .int x :: st) P Q := by
  intro p l e s m args below meth c D b base X Z hX hc hz h H locs lsA hP hH hS hL
  exact lv_ixor hc.1 hc.2.1 hf (kk p l e s m args below meth c D b base X Z hX hc hz h H locs lsA hP hH hS hL)
theorem r_ishl {x y : Int32} (hf : decode μ.2.1 pc = .ok (.ishl, 1)) (kk : AW XS R μ kc ks (pc + 1) ls (.int (x <<< (y &&& 31)) :: st) P Q) : AW XS R μ kc ks pc ls (.int y :: .int x :: st) P Q := by
  intro p l e s m args below meth c D b base X Z hX hc hz h H locs lsA hP hH hS hL
  exact lv_ishl hc.1 hc.2.1 hf (kk p l e s m args below meth c D b base X Z hX hc hz h H locs lsA hP hH hS hL)
theorem r_ishr {x y : Int32} (hf : decode μ.2.1 pc = .ok (.ishr, 1)) (kk : AW XS R μ kc ks (pc + 1) ls (.int (x >>> (y &&& 31)) :: st) P Q) : AW XS R μ kc ks pc ls (.int y :: .int x :: st) P Q := by
  intro p l e s m args below meth c D b base X Z hX hc hz h H locs lsA hP hH hS hL
  exact lv_ishr hc.1 hc.2.1 hf (kk p l e s m args below meth c D b base X Z hX hc hz h H locs lsA hP hH hS hL)
theorem r_ineg {x : Int32} (hf : decode μ.2.1 pc = .ok (.ineg, 1)) (kk : AW XS R μ kc ks (pc + 1) ls (.int (-x) :: st) P Q) : AW XS R μ kc ks pc ls (.int x :: st) P Q := by
  intro p l e s m args below meth c D b base X Z hX hc hz h H locs lsA hP hH hS hL
  exact lv_ineg hc.1 hc.2.1 hf (kk p l e s m args below meth c D b base X Z hX hc hz h H locs lsA hP hH hS hL)
theorem r_idiv {x y : Int32} (hf : decode μ.2.1 pc = .ok (.idiv, 1)) (hne : ¬ y = 0) (kk : AW XS R μ kc ks (pc + 1) ls (.int (x / y) :: st) P Q) : AW XS R μ kc ks pc ls (.int y :: .int x :: st) P Q := by
  intro p l e s m args below meth c D b base X Z hX hc hz h H locs lsA hP hH hS hL
  exact lv_idiv hc.1 hc.2.1 hf hne (kk p l e s m args below meth c D b base X Z hX hc hz h H locs lsA hP hH hS hL)
theorem r_irem {x y v : Int32} (hf : decode μ.2.1 pc = .ok (.irem, 1)) (hne : ¬ y = 0) (hv : x - x / y * y = v) (kk : AW XS R μ kc ks (pc + 1) ls (.int v :: st) P Q) : AW XS R μ kc ks pc ls (.int y :: .int x :: st) P Q := by
  intro p l e s m args below meth c D b base X Z hX hc hz h H locs lsA hP hH hS hL
  subst hv
  exact lv_irem hc.1 hc.2.1 hf hne (kk p l e s m args below meth c D b base X Z hX hc hz h H locs lsA hP hH hS hL)
theorem r_iushr {x y v : Int32} (hf : decode μ.2.1 pc = .ok (.iushr, 1)) (hv : (x.toUInt32 >>> (y.toUInt32 &&& Int32.toUInt32 31)).toInt32 = v) (kk : AW XS R μ kc ks (pc + 1) ls (.int v :: st) P Q) : AW XS R μ kc ks pc ls (.int y :: .int x :: st) P Q := by
  intro p l e s m args below meth c D b base X Z hX hc hz h H locs lsA hP hH hS hL
  exact lv_iushr hc.1 hc.2.1 hf hv (kk p l e s m args below meth c D b base X Z hX hc hz h H locs lsA hP hH hS hL)
theorem r_i2l {x : Int32} (hf : decode μ.2.1 pc = .ok (.i2l, 1)) (kk : AW XS R μ kc ks (pc + 1) ls (.long x.toInt64 :: st) P Q) : AW XS R μ kc ks pc ls (.int x :: st) P Q := by
  intro p l e s m args below meth c D b base X Z hX hc hz h H locs lsA hP hH hS hL
  exact lv_i2l hc.1 hc.2.1 hf rfl (kk p l e s m args below meth c D b base X Z hX hc hz h H locs lsA hP hH hS hL)
theorem r_l2i {x : Int64} (hf : decode μ.2.1 pc = .ok (.l2i, 1)) (kk : AW XS R μ kc ks (pc + 1) ls (.int x.toInt32 :: st) P Q) : AW XS R μ kc ks pc ls (.long x :: st) P Q := by
  intro p l e s m args below meth c D b base X Z hX hc hz h H locs lsA hP hH hS hL
  exact lv_l2i hc.1 hc.2.1 hf rfl (kk p l e s m args below meth c D b base X Z hX hc hz h H locs lsA hP hH hS hL)
theorem r_i2b {x : Int32} (hf : decode μ.2.1 pc = .ok (.i2b, 1)) (kk : AW XS R μ kc ks (pc + 1) ls (.int x.toInt8.toInt32 :: st) P Q) : AW XS R μ kc ks pc ls (.int x :: st) P Q := by
  intro p l e s m args below meth c D b base X Z hX hc hz h H locs lsA hP hH hS hL
  exact lv_i2b hc.1 hc.2.1 hf rfl (kk p l e s m args below meth c D b base X Z hX hc hz h H locs lsA hP hH hS hL)
theorem r_i2s {x : Int32} (hf : decode μ.2.1 pc = .ok (.i2s, 1)) (kk : AW XS R μ kc ks (pc + 1) ls (.int x.toInt16.toInt32 :: st) P Q) : AW XS R μ kc ks pc ls (.int x :: st) P Q := by
  intro p l e s m args below meth c D b base X Z hX hc hz h H locs lsA hP hH hS hL
  exact lv_i2s hc.1 hc.2.1 hf rfl (kk p l e s m args below meth c D b base X Z hX hc hz h H locs lsA hP hH hS hL)
theorem r_land {x y : Int64} (hf : decode μ.2.1 pc = .ok (.land, 1)) (kk : AW XS R μ kc ks (pc + 1) ls (.long (x &&& y) :: st) P Q) : AW XS R μ kc ks pc ls (.long y :: .long x :: st) P Q := by
  intro p l e s m args below meth c D b base X Z hX hc hz h H locs lsA hP hH hS hL
  exact lv_land hc.1 hc.2.1 hf (kk p l e s m args below meth c D b base X Z hX hc hz h H locs lsA hP hH hS hL)
theorem r_lor {x y : Int64} (hf : decode μ.2.1 pc = .ok (.lor, 1)) (kk : AW XS R μ kc ks (pc + 1) ls (.long (x ||| y) :: st) P Q) : AW XS R μ kc ks pc ls (.long y :: .long x :: st) P Q := by
  intro p l e s m args below meth c D b base X Z hX hc hz h H locs lsA hP hH hS hL
  exact lv_lor hc.1 hc.2.1 hf (kk p l e s m args below meth c D b base X Z hX hc hz h H locs lsA hP hH hS hL)
theorem r_lshl {x : Int64} {y : Int32} (hf : decode μ.2.1 pc = .ok (.lshl, 1)) (kk : AW XS R μ kc ks (pc + 1) ls (.long (x <<< (y.toInt64 &&& 63)) :: st) P Q) : AW XS R μ kc ks pc ls (.int y :: .long x :: st) P Q := by
  intro p l e s m args below meth c D b base X Z hX hc hz h H locs lsA hP hH hS hL
  exact lv_lshl hc.1 hc.2.1 hf rfl (kk p l e s m args below meth c D b base X Z hX hc hz h H locs lsA hP hH hS hL)
theorem r_lshr {x : Int64} {y : Int32} (hf : decode μ.2.1 pc = .ok (.lshr, 1)) (kk : AW XS R μ kc ks (pc + 1) ls (.long (x >>> (y.toInt64 &&& 63)) :: st) P Q) : AW XS R μ kc ks pc ls (.int y :: .long x :: st) P Q := by
  intro p l e s m args below meth c D b base X Z hX hc hz h H locs lsA hP hH hS hL
  exact lv_lshr hc.1 hc.2.1 hf rfl (kk p l e s m args below meth c D b base X Z hX hc hz h H locs lsA hP hH hS hL)
theorem r_lushr {x : Int64} {y : Int32} (hf : decode μ.2.1 pc = .ok (.lushr, 1)) (kk : AW XS R μ kc ks (pc + 1) ls (.long ((x.toUInt64 >>> (y.toInt64.toUInt64 &&& Int64.toUInt64 63)).toInt64) :: st) P Q) : AW XS R μ kc ks pc ls (.int y :: .long x :: st) P Q := by
  intro p l e s m args below meth c D b base X Z hX hc hz h H locs lsA hP hH hS hL
  exact lv_lushr hc.1 hc.2.1 hf rfl (kk p l e s m args below meth c D b base X Z hX hc hz h H locs lsA hP hH hS hL)
theorem r_null (hf : decode μ.2.1 pc = .ok (.aconst_null, 1)) (kk : AW XS R μ kc ks (pc + 1) ls (.null :: st) P Q) : AW XS R μ kc ks pc ls st P Q := by
  intro p l e s m args below meth c D b base X Z hX hc hz h H locs lsA hP hH hS hL
  exact lv_null hc.1 hc.2.1 hf (kk p l e s m args below meth c D b base X Z hX hc hz h H locs lsA hP hH hS hL)
theorem r_dup {va : Value} (hf : decode μ.2.1 pc = .ok (.dup, 1)) (hva : va.category = 1) (kk : AW XS R μ kc ks (pc + 1) ls (va :: va :: st) P Q) : AW XS R μ kc ks pc ls (va :: st) P Q := by
  intro p l e s m args below meth c D b base X Z hX hc hz h H locs lsA hP hH hS hL
  exact lv_dup hc.1 hc.2.1 hf (by rw [cv_cat]; exact hva) (kk p l e s m args below meth c D b base X Z hX hc hz h H locs lsA hP hH hS hL)
theorem r_pop {va : Value} (hf : decode μ.2.1 pc = .ok (.pop, 1)) (hva : va.category = 1) (kk : AW XS R μ kc ks (pc + 1) ls st P Q) : AW XS R μ kc ks pc ls (va :: st) P Q := by
  intro p l e s m args below meth c D b base X Z hX hc hz h H locs lsA hP hH hS hL
  exact lv_pop hc.1 hc.2.1 hf (by rw [cv_cat]; exact hva) (kk p l e s m args below meth c D b base X Z hX hc hz h H locs lsA hP hH hS hL)
theorem r_dup2 {va vb : Value} (hf : decode μ.2.1 pc = .ok (.dup2, 1)) (hva : va.category = 1) (hvb : vb.category = 1) (kk : AW XS R μ kc ks (pc + 1) ls (va :: vb :: va :: vb :: st) P Q) : AW XS R μ kc ks pc ls (va :: vb :: st) P Q := by
  intro p l e s m args below meth c D b base X Z hX hc hz h H locs lsA hP hH hS hL
  exact lv_dup2_11 hc.1 hc.2.1 hf (by rw [cv_cat]; exact hva) (by rw [cv_cat]; exact hvb) (kk p l e s m args below meth c D b base X Z hX hc hz h H locs lsA hP hH hS hL)
theorem r_if_eq {x : Int32} {off : Int} (tgt : Nat) (hf : decode μ.2.1 pc = .ok (.ifCond .eq off, 3)) (ht : (pc : Int) + off = (tgt : Int)) (kt : x = 0 → AW XS R μ kc ks tgt ls st P Q) (kf : ¬ x = 0 → AW XS R μ kc ks (pc + 3) ls st P Q) : AW XS R μ kc ks pc ls (.int x :: st) P Q := by
  intro p l e s m args below meth c D b base X Z hX hc hz h H locs lsA hP hH hS hL
  exact lv_if_eq hc.1 hc.2.1 hf ht (fun q => kt q p l e s m args below meth c D b base X Z hX hc hz h H locs lsA hP hH hS hL) (fun q => kf q p l e s m args below meth c D b base X Z hX hc hz h H locs lsA hP hH hS hL)
theorem r_icmp_eq {x y : Int32} {off : Int} (tgt : Nat) (hf : decode μ.2.1 pc = .ok (.if_icmp .eq off, 3)) (ht : (pc : Int) + off = (tgt : Int)) (kt : x = y → AW XS R μ kc ks tgt ls st P Q) (kf : ¬ x = y → AW XS R μ kc ks (pc + 3) ls st P Q) : AW XS R μ kc ks pc ls (.int y :: .int x :: st) P Q := by
  intro p l e s m args below meth c D b base X Z hX hc hz h H locs lsA hP hH hS hL
  exact lv_icmp_eq hc.1 hc.2.1 hf ht (fun q => kt q p l e s m args below meth c D b base X Z hX hc hz h H locs lsA hP hH hS hL) (fun q => kf q p l e s m args below meth c D b base X Z hX hc hz h H locs lsA hP hH hS hL)
theorem r_if_ne {x : Int32} {off : Int} (tgt : Nat) (hf : decode μ.2.1 pc = .ok (.ifCond .ne off, 3)) (ht : (pc : Int) + off = (tgt : Int)) (kt : ¬ x = 0 → AW XS R μ kc ks tgt ls st P Q) (kf : x = 0 → AW XS R μ kc ks (pc + 3) ls st P Q) : AW XS R μ kc ks pc ls (.int x :: st) P Q := by
  intro p l e s m args below meth c D b base X Z hX hc hz h H locs lsA hP hH hS hL
  exact lv_if_ne hc.1 hc.2.1 hf ht (fun q => kt q p l e s m args below meth c D b base X Z hX hc hz h H locs lsA hP hH hS hL) (fun q => kf q p l e s m args below meth c D b base X Z hX hc hz h H locs lsA hP hH hS hL)
theorem r_icmp_ne {x y : Int32} {off : Int} (tgt : Nat) (hf : decode μ.2.1 pc = .ok (.if_icmp .ne off, 3)) (ht : (pc : Int) + off = (tgt : Int)) (kt : ¬ x = y → AW XS R μ kc ks tgt ls st P Q) (kf : x = y → AW XS R μ kc ks (pc + 3) ls st P Q) : AW XS R μ kc ks pc ls (.int y :: .int x :: st) P Q := by
  intro p l e s m args below meth c D b base X Z hX hc hz h H locs lsA hP hH hS hL
  exact lv_icmp_ne hc.1 hc.2.1 hf ht (fun q => kt q p l e s m args below meth c D b base X Z hX hc hz h H locs lsA hP hH hS hL) (fun q => kf q p l e s m args below meth c D b base X Z hX hc hz h H locs lsA hP hH hS hL)
theorem r_if_lt {x : Int32} {off : Int} (tgt : Nat) (hf : decode μ.2.1 pc = .ok (.ifCond .lt off, 3)) (ht : (pc : Int) + off = (tgt : Int)) (kt : x < 0 → AW XS R μ kc ks tgt ls st P Q) (kf : ¬ x < 0 → AW XS R μ kc ks (pc + 3) ls st P Q) : AW XS R μ kc ks pc ls (.int x :: st) P Q := by
  intro p l e s m args below meth c D b base X Z hX hc hz h H locs lsA hP hH hS hL
  exact lv_if_lt hc.1 hc.2.1 hf ht (fun q => kt q p l e s m args below meth c D b base X Z hX hc hz h H locs lsA hP hH hS hL) (fun q => kf q p l e s m args below meth c D b base X Z hX hc hz h H locs lsA hP hH hS hL)
theorem r_icmp_lt {x y : Int32} {off : Int} (tgt : Nat) (hf : decode μ.2.1 pc = .ok (.if_icmp .lt off, 3)) (ht : (pc : Int) + off = (tgt : Int)) (kt : x < y → AW XS R μ kc ks tgt ls st P Q) (kf : ¬ x < y → AW XS R μ kc ks (pc + 3) ls st P Q) : AW XS R μ kc ks pc ls (.int y :: .int x :: st) P Q := by
  intro p l e s m args below meth c D b base X Z hX hc hz h H locs lsA hP hH hS hL
  exact lv_icmp_lt hc.1 hc.2.1 hf ht (fun q => kt q p l e s m args below meth c D b base X Z hX hc hz h H locs lsA hP hH hS hL) (fun q => kf q p l e s m args below meth c D b base X Z hX hc hz h H locs lsA hP hH hS hL)
theorem r_if_ge {x : Int32} {off : Int} (tgt : Nat) (hf : decode μ.2.1 pc = .ok (.ifCond .ge off, 3)) (ht : (pc : Int) + off = (tgt : Int)) (kt : 0 ≤ x → AW XS R μ kc ks tgt ls st P Q) (kf : ¬ 0 ≤ x → AW XS R μ kc ks (pc + 3) ls st P Q) : AW XS R μ kc ks pc ls (.int x :: st) P Q := by
  intro p l e s m args below meth c D b base X Z hX hc hz h H locs lsA hP hH hS hL
  exact lv_if_ge hc.1 hc.2.1 hf ht (fun q => kt q p l e s m args below meth c D b base X Z hX hc hz h H locs lsA hP hH hS hL) (fun q => kf q p l e s m args below meth c D b base X Z hX hc hz h H locs lsA hP hH hS hL)
theorem r_icmp_ge {x y : Int32} {off : Int} (tgt : Nat) (hf : decode μ.2.1 pc = .ok (.if_icmp .ge off, 3)) (ht : (pc : Int) + off = (tgt : Int)) (kt : y ≤ x → AW XS R μ kc ks tgt ls st P Q) (kf : ¬ y ≤ x → AW XS R μ kc ks (pc + 3) ls st P Q) : AW XS R μ kc ks pc ls (.int y :: .int x :: st) P Q := by
  intro p l e s m args below meth c D b base X Z hX hc hz h H locs lsA hP hH hS hL
  exact lv_icmp_ge hc.1 hc.2.1 hf ht (fun q => kt q p l e s m args below meth c D b base X Z hX hc hz h H locs lsA hP hH hS hL) (fun q => kf q p l e s m args below meth c D b base X Z hX hc hz h H locs lsA hP hH hS hL)
theorem r_if_gt {x : Int32} {off : Int} (tgt : Nat) (hf : decode μ.2.1 pc = .ok (.ifCond .gt off, 3)) (ht : (pc : Int) + off = (tgt : Int)) (kt : 0 < x → AW XS R μ kc ks tgt ls st P Q) (kf : ¬ 0 < x → AW XS R μ kc ks (pc + 3) ls st P Q) : AW XS R μ kc ks pc ls (.int x :: st) P Q := by
  intro p l e s m args below meth c D b base X Z hX hc hz h H locs lsA hP hH hS hL
  exact lv_if_gt hc.1 hc.2.1 hf ht (fun q => kt q p l e s m args below meth c D b base X Z hX hc hz h H locs lsA hP hH hS hL) (fun q => kf q p l e s m args below meth c D b base X Z hX hc hz h H locs lsA hP hH hS hL)
theorem r_icmp_gt {x y : Int32} {off : Int} (tgt : Nat) (hf : decode μ.2.1 pc = .ok (.if_icmp .gt off, 3)) (ht : (pc : Int) + off = (tgt : Int)) (kt : y < x → AW XS R μ kc ks tgt ls st P Q) (kf : ¬ y < x → AW XS R μ kc ks (pc + 3) ls st P Q) : AW XS R μ kc ks pc ls (.int y :: .int x :: st) P Q := by
  intro p l e s m args below meth c D b base X Z hX hc hz h H locs lsA hP hH hS hL
  exact lv_icmp_gt hc.1 hc.2.1 hf ht (fun q => kt q p l e s m args below meth c D b base X Z hX hc hz h H locs lsA hP hH hS hL) (fun q => kf q p l e s m args below meth c D b base X Z hX hc hz h H locs lsA hP hH hS hL)
theorem r_if_le {x : Int32} {off : Int} (tgt : Nat) (hf : decode μ.2.1 pc = .ok (.ifCond .le off, 3)) (ht : (pc : Int) + off = (tgt : Int)) (kt : x ≤ 0 → AW XS R μ kc ks tgt ls st P Q) (kf : ¬ x ≤ 0 → AW XS R μ kc ks (pc + 3) ls st P Q) : AW XS R μ kc ks pc ls (.int x :: st) P Q := by
  intro p l e s m args below meth c D b base X Z hX hc hz h H locs lsA hP hH hS hL
  exact lv_if_le hc.1 hc.2.1 hf ht (fun q => kt q p l e s m args below meth c D b base X Z hX hc hz h H locs lsA hP hH hS hL) (fun q => kf q p l e s m args below meth c D b base X Z hX hc hz h H locs lsA hP hH hS hL)
theorem r_icmp_le {x y : Int32} {off : Int} (tgt : Nat) (hf : decode μ.2.1 pc = .ok (.if_icmp .le off, 3)) (ht : (pc : Int) + off = (tgt : Int)) (kt : x ≤ y → AW XS R μ kc ks tgt ls st P Q) (kf : ¬ x ≤ y → AW XS R μ kc ks (pc + 3) ls st P Q) : AW XS R μ kc ks pc ls (.int y :: .int x :: st) P Q := by
  intro p l e s m args below meth c D b base X Z hX hc hz h H locs lsA hP hH hS hL
  exact lv_icmp_le hc.1 hc.2.1 hf ht (fun q => kt q p l e s m args below meth c D b base X Z hX hc hz h H locs lsA hP hH hS hL) (fun q => kf q p l e s m args below meth c D b base X Z hX hc hz h H locs lsA hP hH hS hL)
theorem r_goto {off : Int} (tgt : Nat) (hf : decode μ.2.1 pc = .ok (.goto off, 3)) (ht : (pc : Int) + off = (tgt : Int)) (kk : AW XS R μ kc ks (tgt) ls st P Q) : AW XS R μ kc ks pc ls st P Q := by
  intro p l e s m args below meth c D b base X Z hX hc hz h H locs lsA hP hH hS hL
  exact lv_goto hc.1 hc.2.1 hf ht (kk p l e s m args below meth c D b base X Z hX hc hz h H locs lsA hP hH hS hL)
theorem r_ifnonnull {off : Int} {x : Nat} (tgt : Nat) (hf : decode μ.2.1 pc = .ok (.ifnonnull off, 3)) (ht : (pc : Int) + off = (tgt : Int)) (kk : AW XS R μ kc ks (tgt) ls st P Q) : AW XS R μ kc ks pc ls (.ref x :: st) P Q := by
  intro p l e s m args below meth c D b base X Z hX hc hz h H locs lsA hP hH hS hL
  exact lv_ifnonnull hc.1 hc.2.1 hf ht (kk p l e s m args below meth c D b base X Z hX hc hz h H locs lsA hP hH hS hL)
theorem r_ifnonnullN {off : Int} (hf : decode μ.2.1 pc = .ok (.ifnonnull off, 3)) (kk : AW XS R μ kc ks (pc + 3) ls st P Q) : AW XS R μ kc ks pc ls (.null :: st) P Q := by
  intro p l e s m args below meth c D b base X Z hX hc hz h H locs lsA hP hH hS hL
  exact lv_ifnonnullN hc.1 hc.2.1 hf (kk p l e s m args below meth c D b base X Z hX hc hz h H locs lsA hP hH hS hL)
theorem r_ifnull {off : Int} {x : Nat} (hf : decode μ.2.1 pc = .ok (.ifnull off, 3)) (kk : AW XS R μ kc ks (pc + 3) ls st P Q) : AW XS R μ kc ks pc ls (.ref x :: st) P Q := by
  intro p l e s m args below meth c D b base X Z hX hc hz h H locs lsA hP hH hS hL
  exact lv_ifnull hc.1 hc.2.1 hf (kk p l e s m args below meth c D b base X Z hX hc hz h H locs lsA hP hH hS hL)
theorem r_ifnullN {off : Int} (tgt : Nat) (hf : decode μ.2.1 pc = .ok (.ifnull off, 3)) (ht : (pc : Int) + off = (tgt : Int)) (kk : AW XS R μ kc ks (tgt) ls st P Q) : AW XS R μ kc ks pc ls (.null :: st) P Q := by
  intro p l e s m args below meth c D b base X Z hX hc hz h H locs lsA hP hH hS hL
  exact lv_ifnullN hc.1 hc.2.1 hf ht (kk p l e s m args below meth c D b base X Z hX hc hz h H locs lsA hP hH hS hL)
theorem r_tableIn {dflt lo hi : Int} {offs : Array Int} {len : Nat} {x : Int32} {off : Int} (tgt : Nat) (hf : decode μ.2.1 pc = .ok (.tableswitch dflt lo hi offs, len)) (h1 : ¬ x.toInt < lo) (h2 : ¬ hi < x.toInt) (ho : offs[(x.toInt - lo).toNat]? = some off) (ht : (pc : Int) + off = (tgt : Int)) (kk : AW XS R μ kc ks (tgt) ls st P Q) : AW XS R μ kc ks pc ls (.int x :: st) P Q := by
  intro p l e s m args below meth c D b base X Z hX hc hz h H locs lsA hP hH hS hL
  exact lv_tableIn hc.1 hc.2.1 hf h1 h2 ho ht (kk p l e s m args below meth c D b base X Z hX hc hz h H locs lsA hP hH hS hL)
theorem r_tableOut {dflt lo hi : Int} {offs : Array Int} {len : Nat} {x : Int32} (tgt : Nat) (hf : decode μ.2.1 pc = .ok (.tableswitch dflt lo hi offs, len)) (h1 : x.toInt < lo ∨ hi < x.toInt) (ht : (pc : Int) + dflt = (tgt : Int)) (kk : AW XS R μ kc ks (tgt) ls st P Q) : AW XS R μ kc ks pc ls (.int x :: st) P Q := by
  intro p l e s m args below meth c D b base X Z hX hc hz h H locs lsA hP hH hS hL
  exact lv_tableOut hc.1 hc.2.1 hf h1 ht (kk p l e s m args below meth c D b base X Z hX hc hz h H locs lsA hP hH hS hL)
theorem r_lookup {dflt : Int} {qs : Array (Int × Int)} {len : Nat} {x : Int32} {off : Int} (tgt : Nat) (hf : decode μ.2.1 pc = .ok (.lookupswitch dflt qs, len)) (hp : (qs.toList.zip (qs.toList.drop 1)).all (fun (a, next) => a.1 < next.1) = true) (ho : Op.lookupswitch.offset qs.toList dflt x.toInt = off) (ht : (pc : Int) + off = (tgt : Int)) (kk : AW XS R μ kc ks (tgt) ls st P Q) : AW XS R μ kc ks pc ls (.int x :: st) P Q := by
  intro p l e s m args below meth c D b base X Z hX hc hz h H locs lsA hP hH hS hL
  exact lv_lookup hc.1 hc.2.1 hf hp ho ht (kk p l e s m args below meth c D b base X Z hX hc hz h H locs lsA hP hH hS hL)
end RowsA
end
section
/-! rows over cells, calls, ends -/
theorem va_one {D : va_G} {cl : List vw_C} {x : Nat × va_E} {H : Heap} (h : va_at D cl x H) : va_P D cl [x] H := by
  intro k q hq
  cases k with
  | zero => cases hq; exact h
  | succ k => cases hq
theorem Sa.moved {base : Nat} {U U' : State} {H H' : Heap} (h : Sa base U H) (hvm : U.vm.Alike U'.vm) (hq : ∀ q, q < base → H'[q]? = H[q]?) : Sa base U' H' := by
  obtain ⟨t, h1, h2⟩ := h
  exact ⟨t, (h1.moved hvm).kept (fun a _ hA => hq a (Nat.not_le.mp hA)), (h2.moved hvm).kept (fun a _ hA => hq a (Nat.not_le.mp hA))⟩
theorem Sb.moved {base : Nat} {U U' : State} {H H' : Heap} (h : Sb base U H) (hvm : U.vm.Alike U'.vm) (hq : ∀ q, q < base → H'[q]? = H[q]?) : Sb base U' H' := by
  obtain ⟨t, h1, h2⟩ := h
  exact ⟨t, (h1.moved hvm).kept (fun a _ hA => hq a (Nat.not_le.mp hA)), (h2.moved hvm).kept (fun a _ hA => hq a (Nat.not_le.mp hA))⟩
theorem Sc.moved {b base : Nat} {X : XT} {U U' : State} {H H' : Heap} (h : Sc b base X U H) (hvm : U.vm.Alike U'.vm) (hq : ∀ q, q < base → H'[q]? = H[q]?) : Sc b base X U' H' := by
  intro L xs hX
  obtain ⟨h1, h2⟩ := h L xs hX
  exact ⟨(h1.moved hvm).kept (hq b h2), h2⟩
theorem ak.moved {cA : ClassId} {x : AE} {U U' : State} (h : ak cA x U) (hvm : U.vm.Alike U'.vm) : ak cA x U' := by
  match x, h with
  | .inl _, h => exact ⟨arrOfT_moved hvm h.1, h.2.moved hvm⟩
  | .inr (.inl _), h => exact ⟨arrOfT_moved hvm h.1, h.2.moved hvm⟩
  | .inr (.inr _), _ => trivial
theorem Hp.moved {D : va_G} {b base : Nat} {U U' : State} {h : AH} {H : Heap} (hh : Hp D b base U h H) (hvm : U.vm.Alike U'.vm) : Hp D b base U' h H := by
  obtain ⟨cA, h1, h2, h3⟩ := hh
  exact ⟨cA, h1, h2, fun i hi => (h3 i hi).moved hvm⟩
theorem Wd.moved {D : va_G} {b base : Nat} {X : XT} {h : AH} {U U' : State} (w : Wd D b base X h U) (hvm : U.vm.Alike U'.vm) (hh : U'.heap = U.heap) : Wd D b base X h U' := by
  obtain ⟨a1, a2, a3, a4, a5, a6⟩ := w
  have hq : ∀ q, q < base → U'.heap[q]? = U.heap[q]? := fun q _ => by rw [hh]
  exact ⟨a1.moved hvm, a2.moved hvm, a3.moved hvm hq, a4.moved hvm hq, a5.moved hvm hq, by rw [hh]; exact a6.moved hvm⟩
theorem Cx.wd {μ : MI} {b base : Nat} {X : XT} {D : va_G} {p : Program} {s U : State} {m : MethodId} {args : Array Value} {meth : Method} {c : Code} {h : AH} {H : Heap} {locs : List Loc} (hc : Cx μ b base X D p s m args meth c) (hH : Hp D b base s h H) (hS : va_S (iA base) s.heap H locs) (hU : U.heap = H) (hvm : s.vm.Alike U.vm) : Wd D b base X h U := by
  obtain ⟨-, -, -, -, -, -, -, -, a1, a2, a3, a4, a5, a6⟩ := hc
  have hq : ∀ q, q < base → U.heap[q]? = s.heap[q]? := fun q hq => by rw [hU]; exact hS.2.1 q (Nat.lt_of_lt_of_le hq a6) (Nat.not_le.mpr hq)
  exact ⟨a1.moved hvm, a2.moved hvm, a3.moved hvm hq, a4.moved hvm hq, a5.moved hvm hq, by rw [hU]; exact hH.moved hvm⟩
section RowsB
variable {XS : XT → Prop} {R : Room} {μ : MI} {kc ks pc : Nat} {ls : List (Option Value)} {st : List Value} {P P' : AH → Prop} {Q : Option Value → AH → Prop}
theorem r_getf {C : String} {T : u_T} {N ci idx k a : Nat} {fs : List Value} {v : Value} (hf : decode μ.2.1 pc = .ok (.getfield idx, 3)) (hin : ∀ w ∈ u_ws C T N, w ∈ lw_g) (hc0 : vwCl[ci]? = some (C, T, N)) (hk : k < N) (hlink : Cond.fieldLink μ.1.cls idx (T k).1 (T k).2.1 (T k).2.2.1 ∈ lw_g)
    (ho : ∀ h, P h → a < h.1 ∧ h.2 a = .inr (.inr (ci, fs))) (hv : fs[k]? = some v) (kk : AW XS R μ kc ks (pc + 3) ls (v :: st) P Q) : AW XS R μ kc ks pc ls (.ref a :: st) P Q := by
  intro p l e s m args below meth c D b base X Z hX hc hz h H locs lsA hP hH hS hL
  obtain ⟨cA, hsz, hat, hak⟩ := id hH
  obtain ⟨hlt, hob⟩ := ho h hP
  have h0 := hat a hlt
  rw [hob] at h0
  exact va_get (ws := [(base + a, .inr (ci, fs.map (cv b base)))]) (fs := fs.map (cv b base)) (v := cv b base v) (C := C) (T := T) (N := N) hc.1 hc.2.1 hc.2.2.2.2.2.2.2.1 hin hc.2.2.2.2.1 hc.2.2.2.2.2.2.2.2.1 (va_one h0) 0 rfl hc0 k hk (hc.2.2.2.2.2.2.2.1 _ hlink) (fun _ q => q) (by rw [List.getElem?_map, hv]; rfl) hf (kk p l e s m args below meth c D b base X Z hX hc hz h H locs lsA hP hH hS hL)
theorem Hp.set {D : va_G} {b base : Nat} {s : State} {h : AH} {H H' : Heap} {a : Nat} {x : AE} {cA : Nat → ClassId} (hsz : H.size = base + h.1) (hat : ∀ i, i < h.1 → va_at D vwCl (base + i, ce b base (cA i) (h.2 i)) H) (hak : ∀ i, i < h.1 → ak (cA i) (h.2 i) s)
    (e2 : H'.size = H.size) (e3 : ∀ q, q ≠ base + a → H'[q]? = H[q]?) (hx : va_at D vwCl (base + a, ce b base (cA a) x) H') (hxk : ak (cA a) x s) : Hp D b base s (hset h a x) H' := by
  refine ⟨cA, by rw [e2]; exact hsz, fun i hi => ?_, fun i hi => ?_⟩
  · by_cases hia : i = a
    · subst hia; rw [hset_same]; exact hx
    · rw [hset_ne _ _ hia]; exact (hat i hi).kept (e3 (base + i) (by omega))
  · by_cases hia : i = a
    · subst hia; rw [hset_same]; exact hxk
    · rw [hset_ne _ _ hia]; exact hak i hi
theorem r_putf {C : String} {T : u_T} {N ci idx k a : Nat} {fs : List Value} {v : Value} {ty : FieldType} (ty0 : Nat → FieldType) (hf : decode μ.2.1 pc = .ok (.putfield idx, 3)) (hin : ∀ w ∈ u_ws C T N, w ∈ lw_g) (hty : ∀ k, k < N → parseFieldDescriptor (T k).2.2.1 = some (ty0 k)) (hnm : ∀ a, a < N → ∀ b, b < N → a ≠ b → (T a).2.1 ≠ (T b).2.1) (hc0 : vwCl[ci]? = some (C, T, N)) (hk : k < N) (hlink : Cond.fieldLink μ.1.cls idx (T k).1 (T k).2.1 (T k).2.2.1 ∈ lw_g)
    (hfin : (T k).2.2.2 = false) (hd : ty0 k = ty) (hn : ∀ b base, narrow ty (cv b base v) = cv b base v) (hfit : ∀ b base, fits ty (cv b base v) = true) (hl : k < fs.length) (ho : ∀ h, P h → a < h.1 ∧ h.2 a = .inr (.inr (ci, fs))) (hu : ∀ h, P h → P' (hset h a (.inr (.inr (ci, fs.set k v))))) (kk : AW XS R μ kc ks (pc + 3) ls st P' Q) : AW XS R μ kc ks pc ls (v :: .ref a :: st) P Q := by
  intro p l e s m args below meth c D b base X Z hX hc hz h H locs lsA hP hH hS hL
  obtain ⟨cA, hsz, hat, hak⟩ := id hH
  obtain ⟨hlt, hob⟩ := ho h hP
  have h0 := hat a hlt
  rw [hob] at h0
  have hts := hc.2.2.2.2.2.2.2.1
  have hown := hc.2.2.2.2.1
  have hK := hc.2.2.2.2.2.2.2.2.1
  have hap := va_apart (own := μ.1.cls) hts hin ty0 hty hnm hK hc0
  obtain ⟨r, h1, cell, q1, q2, q3, q4⟩ := h0
  have hr : r = (C, T, N) := Option.some.inj (h1.symm.trans hc0)
  subst hr
  obtain ⟨hS0, hfc, kC, hkC, hkind⟩ := hK.1 ci _ hc0
  obtain ⟨cf, kf, fi, f, hi, hsl⟩ := hS0 k hk
  have hlay := hts _ (hin _ (u_in_lay hk))
  unfold u_lay at hlay
  rw [if_neg (by rw [hfin]; decide)] at hlay
  have hst := (u_facts hfc hkC (u_lays hts hin hk) hi).1
  have h6 := u_store hfc hkC hkind hlay hi (by rw [hty k hk, hd]) (hn b base) (hfit b base)
  refine W.putK hc.1 hc.2.1 (f := f) ⟨hown, hts _ hlink, ⟨_, _, _, hi⟩, hst⟩ (by rw [q2]; exact h6) q1 q3 (by rw [hsl]; exact k2_hasslot (q4 k hk)) rfl rfl hf fun H' e1 e2 e3 => ?_
  rw [hsl] at e1 ⊢
  refine kk p l e s m args below meth c D b base X Z hX hc hz _ H' _ lsA (hu h hP) (Hp.set hsz hat hak e2 e3 ?_ trivial) (hS.put e2 e3 (Nat.le_add_right base a)) hL
  refine ⟨_, hc0, t_OB.to (V := updV (vp_V (fs.map (cv b base))) k (cv b base v)) ⟨_, e1, q2, q3, t_set q4 hap hk _⟩ (fun j _ => ?_)⟩
  rw [List.map_set]
  exact vp_updV_set (by rw [List.length_map]; exact hl) _ j
theorem r_putF {C : String} {T : u_T} {N ci idx k a : Nat} {fs : List Value} {v : Value} {ty : FieldType} (ty0 : Nat → FieldType) (hf : decode μ.2.1 pc = .ok (.putfield idx, 3)) (hin : ∀ w ∈ u_ws C T N, w ∈ lw_g) (hty : ∀ k, k < N → parseFieldDescriptor (T k).2.2.1 = some (ty0 k)) (hnm : ∀ a, a < N → ∀ b, b < N → a ≠ b → (T a).2.1 ≠ (T b).2.1) (hc0 : vwCl[ci]? = some (C, T, N)) (hk : k < N) (hlink : Cond.fieldLink μ.1.cls idx (T k).1 (T k).2.1 (T k).2.2.1 ∈ lw_g)
    (hfin : (T k).2.2.2 = true) (hin2 : μ.1.name = "<init>") (hdecl : (T k).1 = μ.1.cls) (hd : ty0 k = ty) (hn : ∀ b base, narrow ty (cv b base v) = cv b base v) (hfit : ∀ b base, fits ty (cv b base v) = true) (hl : k < fs.length) (ho : ∀ h, P h → a < h.1 ∧ h.2 a = .inr (.inr (ci, fs))) (hu : ∀ h, P h → P' (hset h a (.inr (.inr (ci, fs.set k v))))) (kk : AW XS R μ kc ks (pc + 3) ls st P' Q) : AW XS R μ kc ks pc ls (v :: .ref a :: st) P Q := by
  intro p l e s m args below meth c D b base X Z hX hc hz h H locs lsA hP hH hS hL
  obtain ⟨cA, hsz, hat, hak⟩ := id hH
  obtain ⟨hlt, hob⟩ := ho h hP
  have h0 := hat a hlt
  rw [hob] at h0
  have hts := hc.2.2.2.2.2.2.2.1
  have hown := hc.2.2.2.2.1
  have hK := hc.2.2.2.2.2.2.2.2.1
  have hap := va_apart (own := μ.1.cls) hts hin ty0 hty hnm hK hc0
  obtain ⟨r, h1, cell, q1, q2, q3, q4⟩ := h0
  have hr : r = (C, T, N) := Option.some.inj (h1.symm.trans hc0)
  subst hr
  obtain ⟨hS0, hfc, kC, hkC, hkind⟩ := hK.1 ci _ hc0
  obtain ⟨cf, kf, fi, f, hi, hsl⟩ := hS0 k hk
  have hlay := hts _ (hin _ (u_in_lay hk))
  unfold u_lay at hlay
  rw [if_pos hfin] at hlay
  have hst := (u_facts hfc hkC (u_lays hts hin hk) hi).1
  have hcf : m.cls = cf := by
    obtain ⟨_, _, c', _, _, _, -, -, hf', -, -, -, hown2, -⟩ := Cond.laysFinal_spec hlay
    have e1 : c' = cf := by have := hi.symm.trans hf'; simp at this; exact this.1.symm
    rw [hdecl] at hown2
    rw [← e1]; exact Option.some.inj (hown.symm.trans hown2)
  have h6 := u_fits hfc hkC hkind (Or.inr hlay) hi (by rw [hty k hk, hd]) (hn b base) (hfit b base)
  refine W.putFinK hc.1 hc.2.1 hown (hts _ hlink) hi hst hcf (hc.2.2.2.2.2.2.1 hin2) (by rw [q2]; exact h6) q1 q3 (by rw [hsl]; exact k2_hasslot (q4 k hk)) rfl rfl hf fun H' e1 e2 e3 => ?_
  rw [hsl] at e1 ⊢
  refine kk p l e s m args below meth c D b base X Z hX hc hz _ H' _ lsA (hu h hP) (Hp.set hsz hat hak e2 e3 ?_ trivial) (hS.put e2 e3 (Nat.le_add_right base a)) hL
  refine ⟨_, hc0, t_OB.to (V := updV (vp_V (fs.map (cv b base))) k (cv b base v)) ⟨_, e1, q2, q3, t_set q4 hap hk _⟩ (fun j _ => ?_)⟩
  rw [List.map_set]
  exact vp_updV_set (by rw [List.length_map]; exact hl) _ j
theorem ix_in {i : Int32} {j n : Nat} (hi : i.toInt = (j : Int)) (hj : j < n) : vp_in i n := vp_in_iff.mpr ⟨by omega, by omega⟩
theorem ix_cl {i : Int32} {j : Nat} (hi : i.toInt = (j : Int)) : i.toNatClampNeg = j := by
  show i.toInt.toNat = j
  rw [hi]; rfl
theorem r_iald {n a j : Nat} {i : Int32} {f : Nat → Int32} (hf : decode μ.2.1 pc = .ok (.iaload, 1)) (ho : ∀ h, P h → a < h.1 ∧ h.2 a = .inl (n, f)) (hi : i.toInt = (j : Int)) (hj : j < n) (kk : AW XS R μ kc ks (pc + 1) ls (.int (f j) :: st) P Q) : AW XS R μ kc ks pc ls (.int i :: .ref a :: st) P Q := by
  intro p l e s m args below meth c D b base X Z hX hc hz h H locs lsA hP hH hS hL
  obtain ⟨cA, hsz, hat, hak⟩ := id hH
  obtain ⟨hlt, hob⟩ := ho h hP
  have h0 := hat a hlt
  have k0 := hak a hlt
  rw [hob] at h0 k0
  have hK : va_K D vwCl [(cA a, .int)] s := ⟨hc.2.2.2.2.2.2.2.2.1.1, fun k q hq => by
    cases k with
    | zero => cases hq; exact k0
    | succ k => cases hq⟩
  refine va_iald (ws := [(base + a, .inl (cA a, n, .inl f))]) hc.1 hc.2.1 hK (va_one h0) 0 0 rfl rfl (ix_in hi hj) hf ?_
  rw [ix_cl hi]
  exact kk p l e s m args below meth c D b base X Z hX hc hz h H locs lsA hP hH hS hL
theorem r_iast {n a j : Nat} {i x : Int32} {f : Nat → Int32} (hf : decode μ.2.1 pc = .ok (.iastore, 1)) (ho : ∀ h, P h → a < h.1 ∧ h.2 a = .inl (n, f)) (hi : i.toInt = (j : Int)) (hj : j < n) (hu : ∀ h, P h → P' (hset h a (.inl (n, upd f j x)))) (kk : AW XS R μ kc ks (pc + 1) ls st P' Q) : AW XS R μ kc ks pc ls (.int x :: .int i :: .ref a :: st) P Q := by
  intro p l e s m args below meth c D b base X Z hX hc hz h H locs lsA hP hH hS hL
  obtain ⟨cA, hsz, hat, hak⟩ := id hH
  obtain ⟨hlt, hob⟩ := ho h hP
  have h0 := hat a hlt
  have k0 := hak a hlt
  rw [hob] at h0 k0
  refine W.iast hc.1 hc.2.1 h0 (k0.1 n (fun j => .int (f j))) (fun q => by cases q) (by show ¬ (i < 0 ∨ (arrV _ _ _).slots.size ≤ _); rw [arrV_size]; exact ix_in hi hj) rfl rfl hf fun H1 e1 e2 e3 => ?_
  refine kk p l e s m args below meth c D b base X Z hX hc hz _ H1 _ lsA (hu h hP) (Hp.set hsz hat hak e2 e3 ?_ k0) (hS.put e2 e3 (Nat.le_add_right base a)) hL
  show H1[base + a]? = some (vp_cell _ _)
  rw [e1, ix_cl hi]
  show some ((arrV (cA a) n fun j => .int (f j)).setSlot j (.int x)) = some (arrV (cA a) n fun k => .int (upd f j x k))
  rw [arrV_store]
  congr 2
  funext q
  by_cases hq : q = j
  · subst hq; simp [updV, upd]
  · simp [updV, upd, hq]
theorem r_alen {a : Nat} {y : Nat × (Nat → Int32)} {v : Int32} (hf : decode μ.2.1 pc = .ok (.arraylength, 1)) (ho : ∀ h, P h → a < h.1 ∧ h.2 a = .inl y) (hv : Int32.ofNat y.1 = v) (kk : AW XS R μ kc ks (pc + 1) ls (.int v :: st) P Q) : AW XS R μ kc ks pc ls (.ref a :: st) P Q := by
  intro p l e s m args below meth c D b base X Z hX hc hz h H locs lsA hP hH hS hL
  obtain ⟨cA, hsz, hat, hak⟩ := id hH
  obtain ⟨hlt, hob⟩ := ho h hP
  have h0 := hat a hlt
  have k0 := hak a hlt
  rw [hob] at h0 k0
  have hK : va_K D vwCl [(cA a, .int)] s := ⟨hc.2.2.2.2.2.2.2.2.1.1, fun k q hq => by
    cases k with
    | zero => cases hq; exact k0
    | succ k => cases hq⟩
  exact va_alen (ws := [(base + a, .inl (cA a, y.1, .inl y.2))]) hc.1 hc.2.1 hK (va_one h0) 0 0 rfl rfl hv hf (kk p l e s m args below meth c D b base X Z hX hc hz h H locs lsA hP hH hS hL)
theorem r_alenq {a : Nat} {y : Nat × (Nat → Option Nat)} {v : Int32} (hf : decode μ.2.1 pc = .ok (.arraylength, 1)) (ho : ∀ h, P h → a < h.1 ∧ h.2 a = .inr (.inl y)) (hv : Int32.ofNat y.1 = v) (kk : AW XS R μ kc ks (pc + 1) ls (.int v :: st) P Q) : AW XS R μ kc ks pc ls (.ref a :: st) P Q := by
  intro p l e s m args below meth c D b base X Z hX hc hz h H locs lsA hP hH hS hL
  obtain ⟨cA, hsz, hat, hak⟩ := id hH
  obtain ⟨hlt, hob⟩ := ho h hP
  have h0 := hat a hlt
  have k0 := hak a hlt
  rw [hob] at h0 k0
  have hK : va_K D vwCl [(cA a, .object "OneGoCeiling$Sheet")] s := ⟨hc.2.2.2.2.2.2.2.2.1.1, fun k q hq => by
    cases k with
    | zero => cases hq; exact k0
    | succ k => cases hq⟩
  exact va_alen (ws := [(base + a, .inl (cA a, y.1, .inr (.inr (.inr (.inr (fun j => (y.2 j).map (fun k => base + k)))))))]) hc.1 hc.2.1 hK (va_one h0) 0 0 rfl rfl hv hf (kk p l e s m args below meth c D b base X Z hX hc hz h H locs lsA hP hH hS hL)
theorem r_aald {n a j y : Nat} {i : Int32} {f : Nat → Option Nat} (hf : decode μ.2.1 pc = .ok (.aaload, 1)) (ho : ∀ h, P h → a < h.1 ∧ h.2 a = .inr (.inl (n, f))) (hi : i.toInt = (j : Int)) (hj : j < n) (hy : f j = some y) (kk : AW XS R μ kc ks (pc + 1) ls (.ref y :: st) P Q) : AW XS R μ kc ks pc ls (.int i :: .ref a :: st) P Q := by
  intro p l e s m args below meth c D b base X Z hX hc hz h H locs lsA hP hH hS hL
  obtain ⟨cA, hsz, hat, hak⟩ := id hH
  obtain ⟨hlt, hob⟩ := ho h hP
  have h0 := hat a hlt
  have k0 := hak a hlt
  rw [hob] at h0 k0
  have hK : va_K D vwCl [(cA a, .object "OneGoCeiling$Sheet")] s := ⟨hc.2.2.2.2.2.2.2.2.1.1, fun k q hq => by
    cases k with
    | zero => cases hq; exact k0
    | succ k => cases hq⟩
  refine va_aldq (ws := [(base + a, .inl (cA a, n, .inr (.inr (.inr (.inr (fun j => (f j).map (fun k => base + k)))))))]) hc.1 hc.2.1 hK (va_one h0) 0 0 rfl rfl (ix_in hi hj) hf ?_
  rw [ix_cl hi, hy]
  exact kk p l e s m args below meth c D b base X Z hX hc hz h H locs lsA hP hH hS hL
theorem r_aast {n a j v : Nat} {i : Int32} {vs : List Value} {f : Nat → Option Nat} (hf : decode μ.2.1 pc = .ok (.aastore, 1)) (ho : ∀ h, P h → a < h.1 ∧ h.2 a = .inr (.inl (n, f))) (hv : ∀ h, P h → v < h.1 ∧ h.2 v = .inr (.inr (5, vs))) (hi : i.toInt = (j : Int)) (hj : j < n) (hu : ∀ h, P h → P' (hset h a (.inr (.inl (n, va_up f j (some v)))))) (kk : AW XS R μ kc ks (pc + 1) ls st P' Q) : AW XS R μ kc ks pc ls (.ref v :: .int i :: .ref a :: st) P Q := by
  intro p l e s m args below meth c D b base X Z hX hc hz h H locs lsA hP hH hS hL
  obtain ⟨cA, hsz, hat, hak⟩ := id hH
  obtain ⟨hlt, hob⟩ := ho h hP
  obtain ⟨hvlt, hvob⟩ := hv h hP
  have h0 := hat a hlt
  have k0 := hak a hlt
  have v0 := hat v hvlt
  rw [hob] at h0 k0
  rw [hvob] at v0
  have hK := hc.2.2.2.2.2.2.2.2.1
  have hx0 := ix_in hi hj
  have hlt2 : i.toNatClampNeg < n := Nat.not_le.mp fun q => hx0 (Or.inr q)
  have hn0 : ¬ i < 0 := fun q => hx0 (Or.inl q)
  obtain ⟨r', hr', cellV, g1, g2, g3, -⟩ := v0
  have hcl5 : vwCl[5]? = some (RX6, TX6, 2) := rfl
  have hcls := (hK.1 5 _ hcl5).2
  obtain ⟨kA, comp, k1, k2, k3, -⟩ := k0.2
  have hcomp : comp = D.1 5 := Option.some.inj (k3.symm.trans hcls.1)
  subst hcomp
  obtain ⟨kC, hkC, -⟩ := hcls.2
  refine W.aast hc.1 hc.2.1 h0 (fun q h => by cases h) (fun h => by cases h) k1 k2 rfl hkC ⟨hn0, by show _ < (arrV _ _ _).slots.size; rw [arrV_size]; exact hlt2⟩ g1 (fun q h => by rw [g3] at h; cases h) (by rw [g2]; exact hkC) (by rw [g2]; exact va_assign hcls) rfl rfl hf fun H1 e1 e2 e3 => ?_
  refine kk p l e s m args below meth c D b base X Z hX hc hz _ H1 _ lsA (hu h hP) (Hp.set hsz hat hak e2 e3 ?_ k0) (hS.put e2 e3 (Nat.le_add_right base a)) hL
  show H1[base + a]? = some (vp_cell _ _)
  rw [e1, ix_cl hi]
  show some ((arrV (cA a) n fun j => va_rf ((f j).map fun k => base + k)).setSlot j (.ref (base + v))) = some (arrV (cA a) n fun q => va_rf ((va_up f j (some v) q).map fun k => base + k))
  rw [arrV_store]
  congr 2
  funext q
  by_cases hq : q = j
  · subst hq; simp [updV, va_up, va_rf]
  · simp [updV, va_up, hq]
end RowsB
end
section
/-! new cells, calls, ends -/
section RowsC
variable {XS : XT → Prop} {R : Room} {μ : MI} {kc ks pc : Nat} {ls : List (Option Value)} {st : List Value} {P P' : AH → Prop} {Q : Option Value → AH → Prop}
theorem Hp.new {D : va_G} {b base : Nat} {s : State} {h : AH} {H H' : Heap} {x : AE} {cA : Nat → ClassId} {c0 : ClassId} (hsz : H.size = base + h.1) (hat : ∀ i, i < h.1 → va_at D vwCl (base + i, ce b base (cA i) (h.2 i)) H) (hak : ∀ i, i < h.1 → ak (cA i) (h.2 i) s)
    (e2 : H'.size = H.size + 1) (e3 : ∀ q, q < H.size → H'[q]? = H[q]?) (hx : va_at D vwCl (H.size, ce b base c0 x) H') (hxk : ak c0 x s) : Hp D b base s (hnew h x) H' := by
  refine ⟨fun i => if i = h.1 then c0 else cA i, by rw [e2, hsz]; rfl, fun i hi => ?_, fun i hi => ?_⟩
  · by_cases hia : i = h.1
    · subst hia
      show va_at D vwCl (base + h.1, ce b base (if h.1 = h.1 then c0 else cA h.1) (if h.1 = h.1 then x else h.2 h.1)) H'
      rw [if_pos rfl, if_pos rfl, ← hsz]
      exact hx
    · show va_at D vwCl (base + i, ce b base (if i = h.1 then c0 else cA i) (if i = h.1 then x else h.2 i)) H'
      have hi2 : i < h.1 + 1 := hi
      rw [if_neg hia, if_neg hia]
      exact (hat i (by omega)).kept (e3 (base + i) (by omega))
  · by_cases hia : i = h.1
    · subst hia
      show ak (if h.1 = h.1 then c0 else cA h.1) (if h.1 = h.1 then x else h.2 h.1) s
      rw [if_pos rfl, if_pos rfl]
      exact hxk
    · show ak (if i = h.1 then c0 else cA i) (if i = h.1 then x else h.2 i) s
      have hi2 : i < h.1 + 1 := hi
      rw [if_neg hia, if_neg hia]
      exact hak i (by omega)
theorem va_S.grown {A : Nat → Prop} {H0 H H' : Heap} {locs : List Loc} (hS : va_S A H0 H locs) (e2 : H'.size = H.size + 1) (e3 : ∀ q, q < H.size → H'[q]? = H[q]?) : va_S A H0 H' locs :=
  ⟨Nat.le_trans hS.1 (by omega), fun x h1 h2 => (e3 x (Nat.lt_of_lt_of_le h1 hS.1)).trans (hS.2.1 x h1 h2), hS.2.2⟩
theorem r_new {C : String} {T : u_T} {N ci idx n : Nat} {fs : List Value} (ty0 : Nat → FieldType) (hf : decode μ.2.1 pc = .ok (.new idx, 3)) (hin : ∀ w ∈ u_ws C T N, w ∈ lw_g) (hty : ∀ k, k < N → parseFieldDescriptor (T k).2.2.1 = some (ty0 k)) (hc0 : vwCl[ci]? = some (C, T, N)) (hcl : Cond.classLink μ.1.cls idx C ∈ lw_g) (hins : Cond.instantiable C N ∈ lw_g) (hini : Cond.initialized C ∈ lw_g)
    (hfs : ∀ b base j, j < N → defaultValue (ty0 j) = vp_V (fs.map (cv b base)) j) (hcells : kc + 1 ≤ R.cells) (hslots : ks + N ≤ R.slots) (hn : ∀ h, P h → h.1 = n) (hu : ∀ h, P h → P' (hnew h (.inr (.inr (ci, fs))))) (kk : AW XS R μ (kc + 1) (ks + N) (pc + 3) ls (.ref n :: st) P' Q) : AW XS R μ kc ks pc ls st P Q := by
  intro p l e s m args below meth c D b base X Z hX hc hz h H locs lsA hP hH hS hL
  obtain ⟨cA, hsz, hat, hak⟩ := id hH
  have hts := hc.2.2.2.2.2.2.2.1
  have hKn := hc.2.2.2.2.2.2.2.2.1.1 ci _ hc0
  refine W.newcK hc.1 hc.2.1 hc.2.2.2.2.1 (hts _ hcl) (hts _ hins) (hts _ hini) rfl hf hcells hslots hKn.2.1 rfl fun H1 kC hkC e1 z1 o1 => ?_
  have e0 : H.size = base + n := by rw [hsz, hn h hP]
  rw [e0]
  refine kk p l e s m args below meth c D b base X Z hX hc hz _ H1 _ lsA (hu h hP) (Hp.new (c0 := 0) hsz hat hak z1 o1 ?_ trivial) (hS.grown z1 o1) hL
  exact ⟨_, hc0, (u_born ty0 hts hin hKn hkC e1 hty).to (hfs b base)⟩
theorem r_newa {n N : Nat} {x : Int32} (hf : decode μ.2.1 pc = .ok (.newarray .int, 2)) (hac : Cond.arrayClass .int ∈ lw_g) (hx : x.toInt = (N : Int)) (hN : N ≤ 100000) (hcells : kc + 1 ≤ R.cells) (hslots : ks + N ≤ R.slots) (hn : ∀ h, P h → h.1 = n) (hu : ∀ h, P h → P' (hnew h (.inl (N, fun _ => 0)))) (kk : AW XS R μ (kc + 1) (ks + N) (pc + 2) ls (.ref n :: st) P' Q) : AW XS R μ kc ks pc ls (.int x :: st) P Q := by
  intro p l e s m args below meth c D b base X Z hX hc hz h H locs lsA hP hH hS hL
  obtain ⟨cA, hsz, hat, hak⟩ := id hH
  have hts := hc.2.2.2.2.2.2.2.1
  have h0 : ¬ x < 0 := fun q => by
    have := Int32.lt_iff_toInt_lt.mp q
    rw [hx] at this
    simp at this
    omega
  refine va_newaK hc.1 hc.2.1 (atype := .int) (hts _ hac) rfl hf rfl h0 (ix_cl hx) (by show N * 4 ≤ 536870912; omega) hcells hslots rfl fun H1 cA1 e1 z1 o1 hAr hNm => ?_
  have e0 : H.size = base + n := by rw [hsz, hn h hP]
  rw [e0]
  exact kk p l e s m args below meth c D b base X Z hX hc hz _ H1 _ lsA (hu h hP) (Hp.new (c0 := cA1) hsz hat hak z1 o1 e1 ⟨hAr, hNm⟩) (hS.grown z1 o1) hL
theorem r_newq {n N idx : Nat} {x : Int32} (hf : decode μ.2.1 pc = .ok (.anewarray idx, 3)) (hcl : Cond.classLink μ.1.cls idx "OneGoCeiling$Sheet" ∈ lw_g) (hx : x.toInt = (N : Int)) (hN : N ≤ 100000) (hcells : kc + 1 ≤ R.cells) (hslots : ks + N ≤ R.slots) (hn : ∀ h, P h → h.1 = n) (hu : ∀ h, P h → P' (hnew h (.inr (.inl (N, fun _ => none))))) (kk : AW XS R μ (kc + 1) (ks + N) (pc + 3) ls (.ref n :: st) P' Q) : AW XS R μ kc ks pc ls (.int x :: st) P Q := by
  intro p l e s m args below meth c D b base X Z hX hc hz h H locs lsA hP hH hS hL
  obtain ⟨cA, hsz, hat, hak⟩ := id hH
  have hts := hc.2.2.2.2.2.2.2.1
  have h0 : ¬ x < 0 := fun q => by
    have := Int32.lt_iff_toInt_lt.mp q
    rw [hx] at this
    simp at this
    omega
  have hxn := ix_cl hx
  refine W.anew (own := μ.1.cls) (C := "OneGoCeiling$Sheet") hc.1 hc.2.1 hc.2.2.2.2.1 (hts _ hcl) (va_AO.use hc.2.2.2.2.2.2.2.2.2.1) rfl hf rfl h0 (by rw [hxn]; omega) hcells (by rw [hxn]; exact hslots) fun cA1 kA comp f1 f2 f3 f4 => ?_
  rw [hxn]
  generalize hH1 : H.push ({ cls := cA1, slots := Array.replicate N .null, vm := .none } : Cell) = H1
  have z1 : H1.size = H.size + 1 := by rw [← hH1, Array.size_push]
  have e1 : H1[H.size]? = some (arrV cA1 N (fun _ => .null)) := by rw [← hH1, Array.getElem?_push_size, ← arrV_new]
  have o1 : ∀ q : Nat, q < H.size → H1[q]? = H[q]? := fun q hq => by rw [← hH1, Array.getElem?_push, if_neg (Nat.ne_of_lt hq)]
  have e0 : H.size = base + n := by rw [hsz, hn h hP]
  rw [e0]
  exact kk p l e s m args below meth c D b base X Z hX hc hz _ H1 _ lsA (hu h hP) (Hp.new (c0 := cA1) hsz hat hak z1 o1 e1 ⟨fun _ z => ⟨fun k h => (by cases h), kA, f2, comp, f3⟩, kA, comp, f2, f3, f4, f1⟩) (hS.grown z1 o1) hL
theorem r_objInit {idx a : Nat} (hf : decode μ.2.1 pc = .ok (.invokespecial idx, 3)) (hl : Cond.methodLink μ.1.cls idx objectInit ∈ lw_g) (hi : Cond.instanceMethod objectInit ∈ lw_g) (hco : Cond.code objectInit ⟨#[0xb1]⟩ 1 none ∈ lw_g) (hr : 1 ≤ R.frames ∧ 20 ≤ R.locals) (hst : (st.map fun v => v.category).sum ≤ 8) (kk : AW XS R μ kc ks (pc + 3) ls st P Q) : AW XS R μ kc ks pc ls (.ref a :: st) P Q := by
  intro p l e s m args below meth c D b base X Z hX hc hz h H locs lsA hP hH hS hL
  have hts := hc.2.2.2.2.2.2.2.1
  refine W.objInit hc.1 hc.2.1 hc.2.2.2.2.1 (hts _ hl) (hts _ hi) (hts _ hco) rfl (hL.1.trans hc.2.2.1.symm) rfl hf hr.1 ?_ ?_
  · rw [cat_sum]
    show 2 * 0 + _ + 12 ≤ _
    omega
  · exact kk p l e s m args below meth c D b base X Z hX hc hz h H locs lsA hP hH hS hL
/-- what is fixed of a method that is called: its words are there, its class is plain, how many arguments -/
def Lk (μ : MI) (n : Nat) : Prop := Cond.code μ.1 μ.2.1 μ.2.2.1 μ.2.2.2.1 ∈ lw_g ∧ Cond.initialized μ.1.cls ∈ lw_g ∧ (μ.1.cls ≠ "java/lang/invoke/MethodHandle" ∧ μ.1.cls ≠ "java/lang/invoke/VarHandle") ∧ (parseMethodDescriptor μ.1.desc).map (fun d => d.parameters.length) = some n
theorem Lk.B {R : Room} {s : State} {args : Array Value} {own : String} {idx n d mc ms : Nat} {μ : MI} (h : Lk μ n) (hts : ∀ w ∈ lw_g, w.before args s = true) (hl : Cond.methodLink own idx μ.1 ∈ lw_g) (hR : d + 1 ≤ R.frames ∧ 41 * d + μ.2.2.1 + 19 ≤ R.locals) : CallB R s args own idx μ.1 μ.2.1 μ.2.2.1 μ.2.2.2.1 (wsM μ) (rmd d mc ms) mc ms n :=
  callB_of n hts (lwg_ws h.1) rfl rfl rfl (hts _ h.2.1) (hts _ hl) ⟨h.2.2.1.1, h.2.2.1.2, h.2.2.2⟩ ⟨hR.1, by show 8 + (μ.2.2.1 + 11) + 41 * d ≤ _; omega⟩
theorem rb_call {p : Program} {l : Launch} {e : Env} {s : State} {m : MethodId} {args : Array Value} {below : List Frame} {meth : Method} {c : Code} {D : va_G} {b base : Nat} {X : XT} {Z : State → Prop} {H : Heap} {locs : List Loc} {mc ms : Nat} {lsA : Array Slot} {st0 rest : List Value} {Q' : Option Value → AH → Prop} {a : Array Value}
    (hr : va_Run p l e R s m args below meth c H locs kc ks mc ms (F0 m pc lsA st0) rest (QM D b base X Q' a) (iA base)) (hS : va_S (iA base) s.heap H locs) (hb : base ≤ s.heap.size)
    (kk : ∀ (v : Option Value) (h' : AH) (H' : Heap) (locs' : List Loc), Q' v h' → Hp D b base s h' H' → va_S (iA base) s.heap H' locs' → W p l e R s m args below meth c H' locs' (kc + mc) (ks + ms) Z (F0 m (pc + 3) lsA ((v.map (cv b base)).toList ++ rest))) : W p l e R s m args below meth c H locs kc ks Z (F0 m pc lsA st0) := by
  intro T hT X0
  obtain ⟨v, st₀, t, T', L, h0, X', hL, e1, e2, ⟨⟨v', h', hv, hQ, hw⟩, hz, hk⟩, stp⟩ := hr T hT X0
  cases hv
  rw [h0] at hz hk
  have hal : t.vm.Alike s.vm := by rw [← e2]; exact X'.warmed.alike.symm
  obtain ⟨-, -, -, -, -, hHp⟩ := hw
  obtain ⟨t2, a1, b1⟩ := kk v' h' T'.heap (locs ++ L) hQ (by rw [e1]; exact hHp.moved hal)
    ⟨Nat.le_trans hS.1 (by rw [e1]; exact hz), fun q h1 h2 => by rw [e1, hk q (Nat.not_le.mp h2)]; exact hS.2.1 q h1 h2, fun q hq => by
      rcases List.mem_append.mp hq with h | h
      · exact hS.2.2 q h
      · exact hL q h⟩ T' rfl X'
  exact ⟨t2, stp t2 a1, b1⟩
theorem Cx.pre {b base : Nat} {X : XT} {D : va_G} {p : Program} {s : State} {m : MethodId} {args : Array Value} {meth : Method} {c : Code} {h : AH} {H : Heap} {locs : List Loc} {vs : List Value} (hc : Cx μ b base X D p s m args meth c) (hH : Hp D b base s h H) (hS : va_S (iA base) s.heap H locs) :
    PreS s H (fun args U => args = (vs.map (cv b base)).toArray ∧ Wd D b base X h U) (vs.map (cv b base)) :=
  ⟨fun a U g mk q => ⟨q.1, q.2.moved (U' := U.calling g mk a) (Vm.Alike.refl U.vm) rfl⟩, fun U hU hW => ⟨rfl, hc.wd hH hS hU hW.alike⟩⟩
/-- a static method -/
theorem r_invS {idx n d mc ms : Nat} {μ' : MI} {Q' : Option Value → AH → Prop} (as rest : List Value) (hf : decode μ.2.1 pc = .ok (.invokestatic idx, 3)) (hl : Cond.methodLink μ.1.cls idx μ'.1 ∈ lw_g) (hs : Cond.static μ'.1 ∈ lw_g) (hk : Lk μ' n) (hn : as.length = n) (hst : st = as.reverse ++ rest) (hR : d + 1 ≤ R.frames ∧ 41 * d + μ'.2.2.1 + 19 ≤ R.locals) (hW : (rest.map fun v => v.category).sum ≤ 8) (hm : kc + mc ≤ R.cells ∧ ks + ms ≤ R.slots)
    (hct : ∀ h, P h → CT d mc ms μ' as h Q') (kk : ∀ v, AW XS R μ (kc + mc) (ks + ms) (pc + 3) ls (v.toList ++ rest) (Q' v) Q) : AW XS R μ kc ks pc ls st P Q := by
  subst hst
  intro p l e s m args below meth c D b base X Z hX hc hz h H locs lsA hP hH hS hL
  have hts := hc.2.2.2.2.2.2.2.1
  refine rb_call (mc := mc) (ms := ms) (a := (as.map (cv b base)).toArray) (va_runS (As := as.map (cv b base)) (rest := rest.map (cv b base)) (n := n) ⟨hc.1, hc.2.1, hc.2.2.1, hc.2.2.2.2.1, hts⟩ (hct h hP l D b base X) ⟨hk.B hts hl hR, hts _ hs⟩ (hc.pre hH hS) rfl (by rw [List.length_map]; exact hn) hL.1 (by rw [List.map_append, List.map_reverse]) (lv_room (by rw [cat_sum]; exact hW)) hf hm) hS hc.2.2.2.2.2.2.2.2.2.2.2.2.2 fun v h' H' locs' hQ hH' hS' => ?_
  have := kk v p l e s m args below meth c D b base X Z hX hc hz h' H' locs' lsA hQ hH' hS' hL
  cases v <;> exact this
/-- a constructor -/
theorem r_invI {idx n d mc ms a : Nat} {μ' : MI} {Q' : Option Value → AH → Prop} (as rest : List Value) (hf : decode μ.2.1 pc = .ok (.invokespecial idx, 3)) (hl : Cond.methodLink μ.1.cls idx μ'.1 ∈ lw_g) (hs : Cond.instanceMethod μ'.1 ∈ lw_g) (hnm : μ'.1.name = "<init>") (hnr : μ'.2.2.2.1 = none) (hk : Lk μ' n) (hn : as.length = n) (hst : st = as.reverse ++ .ref a :: rest) (hR : d + 1 ≤ R.frames ∧ 41 * d + μ'.2.2.1 + 19 ≤ R.locals) (hW : (rest.map fun v => v.category).sum ≤ 8) (hm : kc + mc ≤ R.cells ∧ ks + ms ≤ R.slots)
    (hct : ∀ h, P h → CT d mc ms μ' (.ref a :: as) h Q') (kk : ∀ v, AW XS R μ (kc + mc) (ks + ms) (pc + 3) ls (v.toList ++ rest) (Q' v) Q) : AW XS R μ kc ks pc ls st P Q := by
  subst hst
  intro p l e s m args below meth c D b base X Z hX hc hz h H locs lsA hP hH hS hL
  have hts := hc.2.2.2.2.2.2.2.1
  have hB := hk.B (mc := mc) (ms := ms) hts hl hR
  rw [hnr] at hB
  refine rb_call (mc := mc) (ms := ms) (a := ((Value.ref a :: as).map (cv b base)).toArray) (va_runI (b := base + a) (As := as.map (cv b base)) (rest := rest.map (cv b base)) (n := n) ⟨hc.1, hc.2.1, hc.2.2.1, hc.2.2.2.2.1, hts⟩ (hct h hP l D b base X) ⟨hB, hnm, hts _ hs⟩ (hc.pre (vs := .ref a :: as) hH hS) rfl (by rw [List.length_map]; exact hn) hL.1 (by rw [List.map_append, List.map_reverse]; rfl) (lv_room (by rw [cat_sum]; exact hW)) hf hm) hS hc.2.2.2.2.2.2.2.2.2.2.2.2.2 fun v h' H' locs' hQ hH' hS' => ?_
  have := kk v p l e s m args below meth c D b base X Z hX hc hz h' H' locs' lsA hQ hH' hS' hL
  cases v <;> exact this
/-- an object's method: the receiver is of the method's class -/
def CV (d mc ms : Nat) (μ : MI) (a : Nat) (as : List Value) (h : AH) (Q : Option Value → AH → Prop) : Prop := (∃ (fs : List Value) (T : u_T) (N : Nat), a < h.1 ∧ h.2 a = .inr (.inr (μ.2.2.2.2, fs)) ∧ vwCl[μ.2.2.2.2]? = some (μ.1.cls, T, N)) ∧ CT d mc ms μ (.ref a :: as) h Q
theorem r_invV {idx n d mc ms a : Nat} {μ' : MI} {Q' : Option Value → AH → Prop} (as rest : List Value) (hf : decode μ.2.1 pc = .ok (.invokevirtual idx, 3)) (hl : Cond.methodLink μ.1.cls idx μ'.1 ∈ lw_g) (hs : Cond.instanceMethod μ'.1 ∈ lw_g) (hse : Cond.selects μ'.1.cls μ'.1 μ'.1 ∈ lw_g) (hk : Lk μ' n) (hn : as.length = n) (hst : st = as.reverse ++ .ref a :: rest) (hR : d + 1 ≤ R.frames ∧ 41 * d + μ'.2.2.1 + 19 ≤ R.locals) (hW : (rest.map fun v => v.category).sum ≤ 8) (hm : kc + mc ≤ R.cells ∧ ks + ms ≤ R.slots)
    (hct : ∀ h, P h → CV d mc ms μ' a as h Q') (kk : ∀ v, AW XS R μ (kc + mc) (ks + ms) (pc + 3) ls (v.toList ++ rest) (Q' v) Q) : AW XS R μ kc ks pc ls st P Q := by
  subst hst
  intro p l e s m args below meth c D b base X Z hX hc hz h H locs lsA hP hH hS hL
  obtain ⟨cA, hsz, hat, hak⟩ := id hH
  have hts := hc.2.2.2.2.2.2.2.1
  obtain ⟨⟨fs, T, N, hlt, hob, hcl⟩, hct2⟩ := hct h hP
  have h0 := hat a hlt
  rw [hob] at h0
  have hp := hc.pre (vs := .ref a :: as) hH hS
  refine rb_call (mc := mc) (ms := ms) (a := ((Value.ref a :: as).map (cv b base)).toArray) (va_runV (b := base + a) (C := μ'.1.cls) (As := as.map (cv b base)) (rest := rest.map (cv b base)) (n := n) ⟨hc.1, hc.2.1, hc.2.2.1, hc.2.2.2.2.1, hts⟩ (hct2 l D b base X) ⟨hk.B hts hl hR, hts _ hs, hts _ hse⟩ ⟨hp.1, va_recv (q0 := 0) hc.2.2.2.2.2.2.2.2.1 (va_one h0) hcl rfl, hp.2⟩ rfl (by rw [List.length_map]; exact hn) hL.1 (by rw [List.map_append, List.map_reverse]; rfl) (lv_room (by rw [cat_sum]; exact hW)) hf hm) hS hc.2.2.2.2.2.2.2.2.2.2.2.2.2 fun v h' H' locs' hQ hH' hS' => ?_
  have := kk v p l e s m args below meth c D b base X Z hX hc hz h' H' locs' lsA hQ hH' hS' hL
  cases v <;> exact this
theorem r_mmax {idx : Nat} {x y v : Int32} (hf : decode μ.2.1 pc = .ok (.invokestatic idx, 3)) (hl : Cond.methodLink μ.1.cls idx Lib.Math.max.name ∈ lw_g) (hs : Cond.static Lib.Math.max.name ∈ lw_g) (hi : Cond.initialized "java/lang/Math" ∈ lw_g) (hco : Cond.code Lib.Math.max.name Lib.Math.max.code 2 (some .int) ∈ lw_g) (hr : 1 ≤ R.frames ∧ 21 ≤ R.locals) (hst : (st.map fun v => v.category).sum ≤ 8) (hm : kc ≤ R.cells ∧ ks ≤ R.slots) (hv : (if x < y then y else x) = v) (kk : AW XS R μ kc ks (pc + 3) ls (.int v :: st) P Q) : AW XS R μ kc ks pc ls (.int y :: .int x :: st) P Q := by
  subst hv
  intro p l e s m args below meth c D b base X Z hX hc hz h H locs lsA hP hH hS hL
  have hts := hc.2.2.2.2.2.2.2.1
  exact va_mmax hc.1 hc.2.1 (hc.2.2.1.trans hL.1.symm) hc.2.2.2.2.1 (hts _ hl) (hts _ hs) (hts _ hi) (hts _ hco) hr.1 (by rw [cat_sum]; omega) hm.1 hm.2 hf (kk p l e s m args below meth c D b base X Z hX hc hz h H locs lsA hP hH hS hL)
theorem r_mmin {idx : Nat} {x y v : Int32} (hf : decode μ.2.1 pc = .ok (.invokestatic idx, 3)) (hl : Cond.methodLink μ.1.cls idx Lib.Math.min.name ∈ lw_g) (hs : Cond.static Lib.Math.min.name ∈ lw_g) (hi : Cond.initialized "java/lang/Math" ∈ lw_g) (hco : Cond.code Lib.Math.min.name Lib.Math.min.code 2 (some .int) ∈ lw_g) (hr : 1 ≤ R.frames ∧ 21 ≤ R.locals) (hst : (st.map fun v => v.category).sum ≤ 8) (hm : kc ≤ R.cells ∧ ks ≤ R.slots) (hv : (if y < x then y else x) = v) (kk : AW XS R μ kc ks (pc + 3) ls (.int v :: st) P Q) : AW XS R μ kc ks pc ls (.int y :: .int x :: st) P Q := by
  subst hv
  intro p l e s m args below meth c D b base X Z hX hc hz h H locs lsA hP hH hS hL
  have hts := hc.2.2.2.2.2.2.2.1
  exact va_mmin hc.1 hc.2.1 (hc.2.2.1.trans hL.1.symm) hc.2.2.2.2.1 (hts _ hl) (hts _ hs) (hts _ hi) (hts _ hco) hr.1 (by rw [cat_sum]; omega) hm.1 hm.2 hf (kk p l e s m args below meth c D b base X Z hX hc hz h H locs lsA hP hH hS hL)
theorem r_mabs {idx : Nat} {x v : Int32} (hf : decode μ.2.1 pc = .ok (.invokestatic idx, 3)) (hl : Cond.methodLink μ.1.cls idx Lib.Math.abs.name ∈ lw_g) (hs : Cond.static Lib.Math.abs.name ∈ lw_g) (hi : Cond.initialized "java/lang/Math" ∈ lw_g) (hco : Cond.code Lib.Math.abs.name Lib.Math.abs.code 1 (some .int) ∈ lw_g) (hr : 1 ≤ R.frames ∧ 21 ≤ R.locals) (hst : (st.map fun v => v.category).sum ≤ 8) (hm : kc ≤ R.cells ∧ ks ≤ R.slots) (hv : (if 0 ≤ x then x else 0 - x) = v) (kk : AW XS R μ kc ks (pc + 3) ls (.int v :: st) P Q) : AW XS R μ kc ks pc ls (.int x :: st) P Q := by
  subst hv
  intro p l e s m args below meth c D b base X Z hX hc hz h H locs lsA hP hH hS hL
  have hts := hc.2.2.2.2.2.2.2.1
  exact va_mabs hc.1 hc.2.1 (hc.2.2.1.trans hL.1.symm) hc.2.2.2.2.1 (hts _ hl) (hts _ hs) (hts _ hi) (hts _ hco) hr.1 (by rw [cat_sum]; omega) hm.1 hm.2 hf (kk p l e s m args below meth c D b base X Z hX hc hz h H locs lsA hP hH hS hL)
/-- the end, with a value -/
theorem r_ret {v : Option Value} (hr : Re μ pc v) (hm : kc ≤ R.cells ∧ ks ≤ R.slots) (hq : ∀ h, P h → Q v h) : AW XS R μ kc ks pc ls v.toList P Q := by
  intro p l e s m args below meth c D b base X Z hX hc hz h H locs lsA hP hH hS hL
  exact W.widen hm.1 hm.2 (hz pc v h H locs lsA (hq h hP) hr hH hS)
theorem r_ireturn {x : Int32} {ty : FieldType} (hf : decode μ.2.1 pc = .ok (.ireturn, 1)) (hr : μ.2.2.2.1 = some ty) (hn : narrow ty (.int x) = .int x) (hm : kc ≤ R.cells ∧ ks ≤ R.slots) (hq : ∀ h, P h → Q (some (.int x)) h) : AW XS R μ kc ks pc ls [.int x] P Q :=
  r_ret (v := some (.int x)) ⟨hf, ty, hr, hn⟩ hm hq
theorem r_return (hf : decode μ.2.1 pc = .ok (.return_, 1)) (hr : μ.2.2.2.1 = none) (hm : kc ≤ R.cells ∧ ks ≤ R.slots) (hq : ∀ h, P h → Q none h) : AW XS R μ kc ks pc ls [] P Q :=
  r_ret (v := none) ⟨hf, hr⟩ hm hq
theorem r_areturn {x : Nat} {n : String} (hf : decode μ.2.1 pc = .ok (.areturn, 1)) (hr : μ.2.2.2.1 = some (.object n)) (hm : kc ≤ R.cells ∧ ks ≤ R.slots) (hq : ∀ h, P h → Q (some (.ref x)) h) : AW XS R μ kc ks pc ls [.ref x] P Q :=
  r_ret (v := some (.ref x)) ⟨hf, ⟨_, hr, Or.inl ⟨n, rfl⟩⟩, Or.inr ⟨x, rfl⟩⟩ hm hq
theorem r_areturnN {n : String} (hf : decode μ.2.1 pc = .ok (.areturn, 1)) (hr : μ.2.2.2.1 = some (.object n)) (hm : kc ≤ R.cells ∧ ks ≤ R.slots) (hq : ∀ h, P h → Q (some .null) h) : AW XS R μ kc ks pc ls [.null] P Q :=
  r_ret (v := some .null) ⟨hf, ⟨_, hr, Or.inl ⟨n, rfl⟩⟩, Or.inl rfl⟩ hm hq
end RowsC
/-- a method's contract out of its walk -/
theorem ct_of {d mc ms : Nat} {μ : MI} {as : List Value} {h : AH} {Q : Option Value → AH → Prop} (hy : plainName μ.1.cls = true) (hlen : ∀ b base, (lg_sl (as.map (cv b base))).length ≤ μ.2.2.1) (body : AW (fun _ => True) (rmd d mc ms) μ 0 0 0 (pad μ.2.2.1 (ent as)) [] (fun g => g = h) Q) : CT d mc ms μ as h Q := by
  intro l D b base X
  refine Met.ofW (cc := μ.2.1) (maxL := μ.2.2.1) (ret := μ.2.2.2.1) hy rfl ?_
  intro p e s m args below meth c s₁ B hml hv
  obtain ⟨rfl, hK, hAO, hSa, hSb, hSc, hHp⟩ := hv
  have hts := atoms_spec (ws := wsM μ) B.pre
  obtain ⟨cA0, hsz0, -, -⟩ := id hHp
  have hC : Cx μ b base X D p s m (as.map (cv b base)).toArray meth c := ⟨B.exec, B.bytes, hml, B.returns, findClass_of_methodNamed B.named, B.notSynchronized, fun q => ((name_of_methodNamed B.named B.method).1).trans q, fun w hw => hts w (List.mem_cons_of_mem _ hw), hK, hAO, hSa, hSb, hSc, by omega⟩
  have hl := lv_entry (as.map (cv b base)) (n := μ.2.2.1) (hlen b base)
  rw [lg_entry_eq]
  refine body p l e s m _ below meth c D b base X _ trivial hC ?_ h s.heap [] _ rfl hHp va_S.rf (ent_pad (cv_cat b base) hl)
  intro pc v h' H locs lsA hQ hRe hH hS
  have hq : ∀ (o : Outcome) (t : State), o = .returned (v.map (cv b base)) → t.heap = H → s.WarmedH t.vm → QM D b base X Q (as.map (cv b base)).toArray s o t := fun o t ho ht hW =>
    ⟨⟨v, h', ho, hQ, hC.wd hH hS ht hW.alike⟩, by rw [ht]; exact hS.1, fun q hq => by rw [ht]; exact hS.2.1 q (by omega) (Nat.not_le.mpr hq)⟩
  match v, hRe, hq with
  | none, hRe, hq => exact W.vret B.exec B.bytes (B.returns.trans hRe.2) (fun t ht hW => hq _ t rfl ht hW) hS.2.2 hRe.1 B.notSynchronized
  | some (.int x), hRe, hq =>
    obtain ⟨hf, ty, h1, h2⟩ := hRe
    exact W.zret B.exec B.bytes (B.returns.trans h1) h2 (fun t ht hW => hq _ t rfl ht hW) hS.2.2 hf B.notSynchronized
  | some .null, hRe, hq =>
    obtain ⟨hf, ⟨ty, h1, h2⟩, h3⟩ := hRe
    exact W.aret B.exec B.bytes (B.returns.trans h1) h2 (Or.inl rfl) (fun t ht hW => hq _ t rfl ht hW) hS.2.2 hf B.notSynchronized
  | some (.ref x), hRe, hq =>
    obtain ⟨hf, ⟨ty, h1, h2⟩, h3⟩ := hRe
    exact W.aret B.exec B.bytes (B.returns.trans h1) h2 (Or.inr ⟨base + x, rfl⟩) (fun t ht hW => hq _ t rfl ht hW) hS.2.2 hf B.notSynchronized
  | some (.long x), hRe, _ => obtain ⟨-, -, h3⟩ := hRe; rcases h3 with h3 | ⟨_, h3⟩ <;> cases h3
  | some (.float x), hRe, _ => obtain ⟨-, -, h3⟩ := hRe; rcases h3 with h3 | ⟨_, h3⟩ <;> cases h3
  | some (.double x), hRe, _ => obtain ⟨-, -, h3⟩ := hRe; rcases h3 with h3 | ⟨_, h3⟩ <;> cases h3
end
