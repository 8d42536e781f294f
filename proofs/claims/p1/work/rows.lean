section
-- ===== PART A: goes FIRST, ahead of the names: the tables' words, and 'selects' of the private methods out of them =====
/-- a private method of a class that the tables say can be made, by its rows of tables_1 -/
def lw_okq (q : MethodName × Nat) : Prop := (q.1.cls ≠ "java/lang/invoke/MethodHandle" ∧ q.1.cls ≠ "java/lang/invoke/VarHandle") ∧ Cond.instantiable q.1.cls q.2 ∈ tables_1 ∧ Cond.privateMethod q.1 ∈ tables_1 ∧ Cond.instanceMethod q.1 ∈ tables_1
theorem lw_p0 : lw_okq (⟨"FlapBoard$Tape", "wordRead", "()I"⟩, 7) := ⟨⟨by decide +kernel, by decide +kernel⟩, List.mem_of_getElem? (i := 26) (by decide +kernel), List.mem_of_getElem? (i := 331) (by decide +kernel), List.mem_of_getElem? (i := 332) (by decide +kernel)⟩
theorem lw_p1 : lw_okq (⟨"FlapBoard$Tape", "isRead", "(Ljava/lang/String;)Z"⟩, 7) := ⟨⟨by decide +kernel, by decide +kernel⟩, List.mem_of_getElem? (i := 26) (by decide +kernel), List.mem_of_getElem? (i := 336) (by decide +kernel), List.mem_of_getElem? (i := 337) (by decide +kernel)⟩
theorem lw_p2 : lw_okq (⟨"FlapBoard$Board", "flapFor", "(IILFlapBoard$Tape;II)I"⟩, 18) := ⟨⟨by decide +kernel, by decide +kernel⟩, List.mem_of_getElem? (i := 65) (by decide +kernel), List.mem_of_getElem? (i := 472) (by decide +kernel), List.mem_of_getElem? (i := 473) (by decide +kernel)⟩
theorem lw_p3 : lw_okq (⟨"FlapBoard$Board", "entryStart", "(I)I"⟩, 18) := ⟨⟨by decide +kernel, by decide +kernel⟩, List.mem_of_getElem? (i := 65) (by decide +kernel), List.mem_of_getElem? (i := 509) (by decide +kernel), List.mem_of_getElem? (i := 510) (by decide +kernel)⟩
theorem lw_p4 : lw_okq (⟨"FlapBoard", "whyNotRow", "(I)I"⟩, 7) := ⟨⟨by decide +kernel, by decide +kernel⟩, List.mem_of_getElem? (i := 18) (by decide +kernel), List.mem_of_getElem? (i := 521) (by decide +kernel), List.mem_of_getElem? (i := 522) (by decide +kernel)⟩
theorem lw_p5 : lw_okq (⟨"FlapBoard", "isRowText", "(II)Z"⟩, 7) := ⟨⟨by decide +kernel, by decide +kernel⟩, List.mem_of_getElem? (i := 18) (by decide +kernel), List.mem_of_getElem? (i := 529) (by decide +kernel), List.mem_of_getElem? (i := 530) (by decide +kernel)⟩
theorem lw_p6 : lw_okq (⟨"FlapBoard$Board", "wantFlap", "(II)I"⟩, 18) := ⟨⟨by decide +kernel, by decide +kernel⟩, List.mem_of_getElem? (i := 65) (by decide +kernel), List.mem_of_getElem? (i := 551) (by decide +kernel), List.mem_of_getElem? (i := 552) (by decide +kernel)⟩
theorem lw_p7 : lw_okq (⟨"FlapBoard$Motor", "startCounting", "()V"⟩, 12) := ⟨⟨by decide +kernel, by decide +kernel⟩, List.mem_of_getElem? (i := 151) (by decide +kernel), List.mem_of_getElem? (i := 589) (by decide +kernel), List.mem_of_getElem? (i := 590) (by decide +kernel)⟩
theorem lw_p8 : lw_okq (⟨"FlapBoard$Motor", "sortByLeft", "(LFlapBoard$Board;)I"⟩, 12) := ⟨⟨by decide +kernel, by decide +kernel⟩, List.mem_of_getElem? (i := 151) (by decide +kernel), List.mem_of_getElem? (i := 597) (by decide +kernel), List.mem_of_getElem? (i := 598) (by decide +kernel)⟩
theorem lw_p9 : lw_okq (⟨"FlapBoard$Motor", "countTick", "(I)V"⟩, 12) := ⟨⟨by decide +kernel, by decide +kernel⟩, List.mem_of_getElem? (i := 151) (by decide +kernel), List.mem_of_getElem? (i := 621) (by decide +kernel), List.mem_of_getElem? (i := 622) (by decide +kernel)⟩
theorem lw_p10 : lw_okq (⟨"FlapBoard", "whyNotProgram", "()I"⟩, 7) := ⟨⟨by decide +kernel, by decide +kernel⟩, List.mem_of_getElem? (i := 18) (by decide +kernel), List.mem_of_getElem? (i := 689) (by decide +kernel), List.mem_of_getElem? (i := 690) (by decide +kernel)⟩
theorem lw_p11 : lw_okq (⟨"FlapBoard$Program", "readStep", "(ILFlapBoard$Tape;LFlapBoard$Board;)V"⟩, 10) := ⟨⟨by decide +kernel, by decide +kernel⟩, List.mem_of_getElem? (i := 202) (by decide +kernel), List.mem_of_getElem? (i := 699) (by decide +kernel), List.mem_of_getElem? (i := 700) (by decide +kernel)⟩
theorem lw_p12 : lw_okq (⟨"FlapBoard$Program", "openTimes", "(LFlapBoard$Tape;)V"⟩, 10) := ⟨⟨by decide +kernel, by decide +kernel⟩, List.mem_of_getElem? (i := 202) (by decide +kernel), List.mem_of_getElem? (i := 706) (by decide +kernel), List.mem_of_getElem? (i := 707) (by decide +kernel)⟩
theorem lw_p13 : lw_okq (⟨"FlapBoard$Program", "addStep", "(IIII)V"⟩, 10) := ⟨⟨by decide +kernel, by decide +kernel⟩, List.mem_of_getElem? (i := 202) (by decide +kernel), List.mem_of_getElem? (i := 714) (by decide +kernel), List.mem_of_getElem? (i := 715) (by decide +kernel)⟩
theorem lw_p14 : lw_okq (⟨"FlapBoard$Program", "goesOn", "(LFlapBoard$Tape;)Z"⟩, 10) := ⟨⟨by decide +kernel, by decide +kernel⟩, List.mem_of_getElem? (i := 202) (by decide +kernel), List.mem_of_getElem? (i := 718) (by decide +kernel), List.mem_of_getElem? (i := 719) (by decide +kernel)⟩
theorem lw_p15 : lw_okq (⟨"FlapBoard$Program", "closeTimes", "(I)V"⟩, 10) := ⟨⟨by decide +kernel, by decide +kernel⟩, List.mem_of_getElem? (i := 202) (by decide +kernel), List.mem_of_getElem? (i := 722) (by decide +kernel), List.mem_of_getElem? (i := 723) (by decide +kernel)⟩
def lw_privs_1 : List (MethodName × Nat) := [(⟨"FlapBoard$Tape", "wordRead", "()I"⟩, 7), (⟨"FlapBoard$Tape", "isRead", "(Ljava/lang/String;)Z"⟩, 7), (⟨"FlapBoard$Board", "flapFor", "(IILFlapBoard$Tape;II)I"⟩, 18), (⟨"FlapBoard$Board", "entryStart", "(I)I"⟩, 18), (⟨"FlapBoard", "whyNotRow", "(I)I"⟩, 7), (⟨"FlapBoard", "isRowText", "(II)Z"⟩, 7), (⟨"FlapBoard$Board", "wantFlap", "(II)I"⟩, 18), (⟨"FlapBoard$Motor", "startCounting", "()V"⟩, 12), (⟨"FlapBoard$Motor", "sortByLeft", "(LFlapBoard$Board;)I"⟩, 12), (⟨"FlapBoard$Motor", "countTick", "(I)V"⟩, 12), (⟨"FlapBoard", "whyNotProgram", "()I"⟩, 7), (⟨"FlapBoard$Program", "readStep", "(ILFlapBoard$Tape;LFlapBoard$Board;)V"⟩, 10), (⟨"FlapBoard$Program", "openTimes", "(LFlapBoard$Tape;)V"⟩, 10), (⟨"FlapBoard$Program", "addStep", "(IIII)V"⟩, 10), (⟨"FlapBoard$Program", "goesOn", "(LFlapBoard$Tape;)Z"⟩, 10), (⟨"FlapBoard$Program", "closeTimes", "(I)V"⟩, 10)]
theorem lw_r1 : ∀ q ∈ lw_privs_1, lw_okq q := List.forall_mem_cons.mpr ⟨lw_p0, List.forall_mem_cons.mpr ⟨lw_p1, List.forall_mem_cons.mpr ⟨lw_p2, List.forall_mem_cons.mpr ⟨lw_p3, List.forall_mem_cons.mpr ⟨lw_p4, List.forall_mem_cons.mpr ⟨lw_p5, List.forall_mem_cons.mpr ⟨lw_p6, List.forall_mem_cons.mpr ⟨lw_p7, List.forall_mem_cons.mpr ⟨lw_p8, List.forall_mem_cons.mpr ⟨lw_p9, List.forall_mem_cons.mpr ⟨lw_p10, List.forall_mem_cons.mpr ⟨lw_p11, List.forall_mem_cons.mpr ⟨lw_p12, List.forall_mem_cons.mpr ⟨lw_p13, List.forall_mem_cons.mpr ⟨lw_p14, List.forall_mem_cons.mpr ⟨lw_p15, fun _ h => absurd h List.not_mem_nil⟩⟩⟩⟩⟩⟩⟩⟩⟩⟩⟩⟩⟩⟩⟩⟩
theorem lw_p16 : lw_okq (⟨"FlapBoard", "doProgram", "()I"⟩, 7) := ⟨⟨by decide +kernel, by decide +kernel⟩, List.mem_of_getElem? (i := 18) (by decide +kernel), List.mem_of_getElem? (i := 730) (by decide +kernel), List.mem_of_getElem? (i := 731) (by decide +kernel)⟩
theorem lw_p17 : lw_okq (⟨"FlapBoard", "doStep", "(I)V"⟩, 7) := ⟨⟨by decide +kernel, by decide +kernel⟩, List.mem_of_getElem? (i := 18) (by decide +kernel), List.mem_of_getElem? (i := 739) (by decide +kernel), List.mem_of_getElem? (i := 740) (by decide +kernel)⟩
theorem lw_p18 : lw_okq (⟨"FlapBoard", "isSuch", "(II)Z"⟩, 7) := ⟨⟨by decide +kernel, by decide +kernel⟩, List.mem_of_getElem? (i := 18) (by decide +kernel), List.mem_of_getElem? (i := 852) (by decide +kernel), List.mem_of_getElem? (i := 853) (by decide +kernel)⟩
theorem lw_p19 : lw_okq (⟨"FlapBoard", "leastTicks", "()I"⟩, 7) := ⟨⟨by decide +kernel, by decide +kernel⟩, List.mem_of_getElem? (i := 18) (by decide +kernel), List.mem_of_getElem? (i := 875) (by decide +kernel), List.mem_of_getElem? (i := 876) (by decide +kernel)⟩
theorem lw_p20 : lw_okq (⟨"FlapBoard", "tryToSettle", "()V"⟩, 7) := ⟨⟨by decide +kernel, by decide +kernel⟩, List.mem_of_getElem? (i := 18) (by decide +kernel), List.mem_of_getElem? (i := 884) (by decide +kernel), List.mem_of_getElem? (i := 885) (by decide +kernel)⟩
theorem lw_p21 : lw_okq (⟨"FlapBoard$Board", "entryAt", "(IIII)I"⟩, 18) := ⟨⟨by decide +kernel, by decide +kernel⟩, List.mem_of_getElem? (i := 65) (by decide +kernel), List.mem_of_getElem? (i := 944) (by decide +kernel), List.mem_of_getElem? (i := 945) (by decide +kernel)⟩
theorem lw_p22 : lw_okq (⟨"FlapBoard", "shelvesUsed", "()I"⟩, 7) := ⟨⟨by decide +kernel, by decide +kernel⟩, List.mem_of_getElem? (i := 18) (by decide +kernel), List.mem_of_getElem? (i := 1023) (by decide +kernel), List.mem_of_getElem? (i := 1024) (by decide +kernel)⟩
theorem lw_p23 : lw_okq (⟨"FlapBoardModel", "isRow", "(I)Z"⟩, 23) := ⟨⟨by decide +kernel, by decide +kernel⟩, List.mem_of_getElem? (i := 1027) (by decide +kernel), List.mem_of_getElem? (i := 1109) (by decide +kernel), List.mem_of_getElem? (i := 1110) (by decide +kernel)⟩
theorem lw_p24 : lw_okq (⟨"FlapBoardModel", "rows", "()I"⟩, 23) := ⟨⟨by decide +kernel, by decide +kernel⟩, List.mem_of_getElem? (i := 1027) (by decide +kernel), List.mem_of_getElem? (i := 1113) (by decide +kernel), List.mem_of_getElem? (i := 1114) (by decide +kernel)⟩
theorem lw_p25 : lw_okq (⟨"FlapBoardModel", "isRowText", "(I)Z"⟩, 23) := ⟨⟨by decide +kernel, by decide +kernel⟩, List.mem_of_getElem? (i := 1027) (by decide +kernel), List.mem_of_getElem? (i := 1120) (by decide +kernel), List.mem_of_getElem? (i := 1121) (by decide +kernel)⟩
theorem lw_p26 : lw_okq (⟨"FlapBoardModel", "wide", "()I"⟩, 23) := ⟨⟨by decide +kernel, by decide +kernel⟩, List.mem_of_getElem? (i := 1027) (by decide +kernel), List.mem_of_getElem? (i := 1124) (by decide +kernel), List.mem_of_getElem? (i := 1125) (by decide +kernel)⟩
theorem lw_p27 : lw_okq (⟨"FlapBoardModel", "areSigns", "(II)Z"⟩, 23) := ⟨⟨by decide +kernel, by decide +kernel⟩, List.mem_of_getElem? (i := 1027) (by decide +kernel), List.mem_of_getElem? (i := 1128) (by decide +kernel), List.mem_of_getElem? (i := 1129) (by decide +kernel)⟩
theorem lw_p28 : lw_okq (⟨"FlapBoardModel", "keepsAct", "()V"⟩, 23) := ⟨⟨by decide +kernel, by decide +kernel⟩, List.mem_of_getElem? (i := 1027) (by decide +kernel), List.mem_of_getElem? (i := 1137) (by decide +kernel), List.mem_of_getElem? (i := 1138) (by decide +kernel)⟩
theorem lw_p29 : lw_okq (⟨"FlapBoardModel", "wantsSigns", "(IIIZ)I"⟩, 23) := ⟨⟨by decide +kernel, by decide +kernel⟩, List.mem_of_getElem? (i := 1027) (by decide +kernel), List.mem_of_getElem? (i := 1141) (by decide +kernel), List.mem_of_getElem? (i := 1142) (by decide +kernel)⟩
theorem lw_p30 : lw_okq (⟨"FlapBoardModel", "flapFor", "(II)I"⟩, 23) := ⟨⟨by decide +kernel, by decide +kernel⟩, List.mem_of_getElem? (i := 1027) (by decide +kernel), List.mem_of_getElem? (i := 1145) (by decide +kernel), List.mem_of_getElem? (i := 1146) (by decide +kernel)⟩
theorem lw_p31 : lw_okq (⟨"FlapBoardModel", "flaps", "(I)I"⟩, 23) := ⟨⟨by decide +kernel, by decide +kernel⟩, List.mem_of_getElem? (i := 1027) (by decide +kernel), List.mem_of_getElem? (i := 1149) (by decide +kernel), List.mem_of_getElem? (i := 1150) (by decide +kernel)⟩
def lw_privs_2 : List (MethodName × Nat) := [(⟨"FlapBoard", "doProgram", "()I"⟩, 7), (⟨"FlapBoard", "doStep", "(I)V"⟩, 7), (⟨"FlapBoard", "isSuch", "(II)Z"⟩, 7), (⟨"FlapBoard", "leastTicks", "()I"⟩, 7), (⟨"FlapBoard", "tryToSettle", "()V"⟩, 7), (⟨"FlapBoard$Board", "entryAt", "(IIII)I"⟩, 18), (⟨"FlapBoard", "shelvesUsed", "()I"⟩, 7), (⟨"FlapBoardModel", "isRow", "(I)Z"⟩, 23), (⟨"FlapBoardModel", "rows", "()I"⟩, 23), (⟨"FlapBoardModel", "isRowText", "(I)Z"⟩, 23), (⟨"FlapBoardModel", "wide", "()I"⟩, 23), (⟨"FlapBoardModel", "areSigns", "(II)Z"⟩, 23), (⟨"FlapBoardModel", "keepsAct", "()V"⟩, 23), (⟨"FlapBoardModel", "wantsSigns", "(IIIZ)I"⟩, 23), (⟨"FlapBoardModel", "flapFor", "(II)I"⟩, 23), (⟨"FlapBoardModel", "flaps", "(I)I"⟩, 23)]
theorem lw_r2 : ∀ q ∈ lw_privs_2, lw_okq q := List.forall_mem_cons.mpr ⟨lw_p16, List.forall_mem_cons.mpr ⟨lw_p17, List.forall_mem_cons.mpr ⟨lw_p18, List.forall_mem_cons.mpr ⟨lw_p19, List.forall_mem_cons.mpr ⟨lw_p20, List.forall_mem_cons.mpr ⟨lw_p21, List.forall_mem_cons.mpr ⟨lw_p22, List.forall_mem_cons.mpr ⟨lw_p23, List.forall_mem_cons.mpr ⟨lw_p24, List.forall_mem_cons.mpr ⟨lw_p25, List.forall_mem_cons.mpr ⟨lw_p26, List.forall_mem_cons.mpr ⟨lw_p27, List.forall_mem_cons.mpr ⟨lw_p28, List.forall_mem_cons.mpr ⟨lw_p29, List.forall_mem_cons.mpr ⟨lw_p30, List.forall_mem_cons.mpr ⟨lw_p31, fun _ h => absurd h List.not_mem_nil⟩⟩⟩⟩⟩⟩⟩⟩⟩⟩⟩⟩⟩⟩⟩⟩
theorem lw_p32 : lw_okq (⟨"FlapBoardModel", "of", "(II)I"⟩, 23) := ⟨⟨by decide +kernel, by decide +kernel⟩, List.mem_of_getElem? (i := 1027) (by decide +kernel), List.mem_of_getElem? (i := 1153) (by decide +kernel), List.mem_of_getElem? (i := 1154) (by decide +kernel)⟩
theorem lw_p33 : lw_okq (⟨"FlapBoardModel", "flapsOf", "(I)I"⟩, 23) := ⟨⟨by decide +kernel, by decide +kernel⟩, List.mem_of_getElem? (i := 1027) (by decide +kernel), List.mem_of_getElem? (i := 1157) (by decide +kernel), List.mem_of_getElem? (i := 1158) (by decide +kernel)⟩
theorem lw_p34 : lw_okq (⟨"FlapBoardModel", "signOf", "(II)I"⟩, 23) := ⟨⟨by decide +kernel, by decide +kernel⟩, List.mem_of_getElem? (i := 1027) (by decide +kernel), List.mem_of_getElem? (i := 1161) (by decide +kernel), List.mem_of_getElem? (i := 1162) (by decide +kernel)⟩
theorem lw_p35 : lw_okq (⟨"FlapBoardModel", "wornOf", "(I)J"⟩, 23) := ⟨⟨by decide +kernel, by decide +kernel⟩, List.mem_of_getElem? (i := 1027) (by decide +kernel), List.mem_of_getElem? (i := 1165) (by decide +kernel), List.mem_of_getElem? (i := 1166) (by decide +kernel)⟩
theorem lw_p36 : lw_okq (⟨"FlapBoardModel", "wantsFlap", "(IIZ)V"⟩, 23) := ⟨⟨by decide +kernel, by decide +kernel⟩, List.mem_of_getElem? (i := 1027) (by decide +kernel), List.mem_of_getElem? (i := 1175) (by decide +kernel), List.mem_of_getElem? (i := 1176) (by decide +kernel)⟩
theorem lw_p37 : lw_okq (⟨"FlapBoardModel", "sets", "(IIJ)V"⟩, 23) := ⟨⟨by decide +kernel, by decide +kernel⟩, List.mem_of_getElem? (i := 1027) (by decide +kernel), List.mem_of_getElem? (i := 1179) (by decide +kernel), List.mem_of_getElem? (i := 1180) (by decide +kernel)⟩
theorem lw_p38 : lw_okq (⟨"FlapBoardModel", "isBoard", "()Z"⟩, 23) := ⟨⟨by decide +kernel, by decide +kernel⟩, List.mem_of_getElem? (i := 1027) (by decide +kernel), List.mem_of_getElem? (i := 1187) (by decide +kernel), List.mem_of_getElem? (i := 1188) (by decide +kernel)⟩
theorem lw_p39 : lw_okq (⟨"FlapBoardModel", "drums", "()I"⟩, 23) := ⟨⟨by decide +kernel, by decide +kernel⟩, List.mem_of_getElem? (i := 1027) (by decide +kernel), List.mem_of_getElem? (i := 1191) (by decide +kernel), List.mem_of_getElem? (i := 1192) (by decide +kernel)⟩
theorem lw_p40 : lw_okq (⟨"FlapBoardModel", "scrolls", "(II)I"⟩, 23) := ⟨⟨by decide +kernel, by decide +kernel⟩, List.mem_of_getElem? (i := 1027) (by decide +kernel), List.mem_of_getElem? (i := 1195) (by decide +kernel), List.mem_of_getElem? (i := 1196) (by decide +kernel)⟩
theorem lw_p41 : lw_okq (⟨"FlapBoardModel", "cells", "()I"⟩, 23) := ⟨⟨by decide +kernel, by decide +kernel⟩, List.mem_of_getElem? (i := 1027) (by decide +kernel), List.mem_of_getElem? (i := 1199) (by decide +kernel), List.mem_of_getElem? (i := 1200) (by decide +kernel)⟩
theorem lw_p42 : lw_okq (⟨"FlapBoardModel", "ticks", "()I"⟩, 23) := ⟨⟨by decide +kernel, by decide +kernel⟩, List.mem_of_getElem? (i := 1027) (by decide +kernel), List.mem_of_getElem? (i := 1208) (by decide +kernel), List.mem_of_getElem? (i := 1209) (by decide +kernel)⟩
theorem lw_p43 : lw_okq (⟨"FlapBoardModel", "findsTurning", "()V"⟩, 23) := ⟨⟨by decide +kernel, by decide +kernel⟩, List.mem_of_getElem? (i := 1027) (by decide +kernel), List.mem_of_getElem? (i := 1212) (by decide +kernel), List.mem_of_getElem? (i := 1213) (by decide +kernel)⟩
theorem lw_p44 : lw_okq (⟨"FlapBoardModel", "leftOf", "(I)I"⟩, 23) := ⟨⟨by decide +kernel, by decide +kernel⟩, List.mem_of_getElem? (i := 1027) (by decide +kernel), List.mem_of_getElem? (i := 1216) (by decide +kernel), List.mem_of_getElem? (i := 1217) (by decide +kernel)⟩
theorem lw_p45 : lw_okq (⟨"FlapBoardModel", "current", "(I)I"⟩, 23) := ⟨⟨by decide +kernel, by decide +kernel⟩, List.mem_of_getElem? (i := 1027) (by decide +kernel), List.mem_of_getElem? (i := 1220) (by decide +kernel), List.mem_of_getElem? (i := 1221) (by decide +kernel)⟩
theorem lw_p46 : lw_okq (⟨"FlapBoardModel", "currentOf", "(I)I"⟩, 23) := ⟨⟨by decide +kernel, by decide +kernel⟩, List.mem_of_getElem? (i := 1027) (by decide +kernel), List.mem_of_getElem? (i := 1224) (by decide +kernel), List.mem_of_getElem? (i := 1225) (by decide +kernel)⟩
theorem lw_p47 : lw_okq (⟨"FlapBoardModel", "steps", "(I)V"⟩, 23) := ⟨⟨by decide +kernel, by decide +kernel⟩, List.mem_of_getElem? (i := 1027) (by decide +kernel), List.mem_of_getElem? (i := 1228) (by decide +kernel), List.mem_of_getElem? (i := 1229) (by decide +kernel)⟩
def lw_privs_3 : List (MethodName × Nat) := [(⟨"FlapBoardModel", "of", "(II)I"⟩, 23), (⟨"FlapBoardModel", "flapsOf", "(I)I"⟩, 23), (⟨"FlapBoardModel", "signOf", "(II)I"⟩, 23), (⟨"FlapBoardModel", "wornOf", "(I)J"⟩, 23), (⟨"FlapBoardModel", "wantsFlap", "(IIZ)V"⟩, 23), (⟨"FlapBoardModel", "sets", "(IIJ)V"⟩, 23), (⟨"FlapBoardModel", "isBoard", "()Z"⟩, 23), (⟨"FlapBoardModel", "drums", "()I"⟩, 23), (⟨"FlapBoardModel", "scrolls", "(II)I"⟩, 23), (⟨"FlapBoardModel", "cells", "()I"⟩, 23), (⟨"FlapBoardModel", "ticks", "()I"⟩, 23), (⟨"FlapBoardModel", "findsTurning", "()V"⟩, 23), (⟨"FlapBoardModel", "leftOf", "(I)I"⟩, 23), (⟨"FlapBoardModel", "current", "(I)I"⟩, 23), (⟨"FlapBoardModel", "currentOf", "(I)I"⟩, 23), (⟨"FlapBoardModel", "steps", "(I)V"⟩, 23)]
theorem lw_r3 : ∀ q ∈ lw_privs_3, lw_okq q := List.forall_mem_cons.mpr ⟨lw_p32, List.forall_mem_cons.mpr ⟨lw_p33, List.forall_mem_cons.mpr ⟨lw_p34, List.forall_mem_cons.mpr ⟨lw_p35, List.forall_mem_cons.mpr ⟨lw_p36, List.forall_mem_cons.mpr ⟨lw_p37, List.forall_mem_cons.mpr ⟨lw_p38, List.forall_mem_cons.mpr ⟨lw_p39, List.forall_mem_cons.mpr ⟨lw_p40, List.forall_mem_cons.mpr ⟨lw_p41, List.forall_mem_cons.mpr ⟨lw_p42, List.forall_mem_cons.mpr ⟨lw_p43, List.forall_mem_cons.mpr ⟨lw_p44, List.forall_mem_cons.mpr ⟨lw_p45, List.forall_mem_cons.mpr ⟨lw_p46, List.forall_mem_cons.mpr ⟨lw_p47, fun _ h => absurd h List.not_mem_nil⟩⟩⟩⟩⟩⟩⟩⟩⟩⟩⟩⟩⟩⟩⟩⟩
theorem lw_p48 : lw_okq (⟨"FlapBoardModel", "settles", "()I"⟩, 23) := ⟨⟨by decide +kernel, by decide +kernel⟩, List.mem_of_getElem? (i := 1027) (by decide +kernel), List.mem_of_getElem? (i := 1236) (by decide +kernel), List.mem_of_getElem? (i := 1237) (by decide +kernel)⟩
theorem lw_p49 : lw_okq (⟨"FlapBoardModel", "isCell", "(I)Z"⟩, 23) := ⟨⟨by decide +kernel, by decide +kernel⟩, List.mem_of_getElem? (i := 1027) (by decide +kernel), List.mem_of_getElem? (i := 1244) (by decide +kernel), List.mem_of_getElem? (i := 1245) (by decide +kernel)⟩
theorem lw_p50 : lw_okq (⟨"FlapBoardModel", "isFlap", "(II)Z"⟩, 23) := ⟨⟨by decide +kernel, by decide +kernel⟩, List.mem_of_getElem? (i := 1027) (by decide +kernel), List.mem_of_getElem? (i := 1253) (by decide +kernel), List.mem_of_getElem? (i := 1254) (by decide +kernel)⟩
theorem lw_p51 : lw_okq (⟨"FlapBoardModel", "wears", "(II)V"⟩, 23) := ⟨⟨by decide +kernel, by decide +kernel⟩, List.mem_of_getElem? (i := 1027) (by decide +kernel), List.mem_of_getElem? (i := 1257) (by decide +kernel), List.mem_of_getElem? (i := 1258) (by decide +kernel)⟩
theorem lw_p52 : lw_okq (⟨"FlapBoardModel", "isDrum", "(I)Z"⟩, 23) := ⟨⟨by decide +kernel, by decide +kernel⟩, List.mem_of_getElem? (i := 1027) (by decide +kernel), List.mem_of_getElem? (i := 1277) (by decide +kernel), List.mem_of_getElem? (i := 1278) (by decide +kernel)⟩
theorem lw_p53 : lw_okq (⟨"FlapBoardModel", "cellsWith", "(I)I"⟩, 23) := ⟨⟨by decide +kernel, by decide +kernel⟩, List.mem_of_getElem? (i := 1027) (by decide +kernel), List.mem_of_getElem? (i := 1305) (by decide +kernel), List.mem_of_getElem? (i := 1306) (by decide +kernel)⟩
theorem lw_p54 : lw_okq (⟨"FlapBoardModel", "signsOf", "(IZ)I"⟩, 23) := ⟨⟨by decide +kernel, by decide +kernel⟩, List.mem_of_getElem? (i := 1027) (by decide +kernel), List.mem_of_getElem? (i := 1309) (by decide +kernel), List.mem_of_getElem? (i := 1310) (by decide +kernel)⟩
theorem lw_p55 : lw_okq (⟨"FlapBoardModel", "manyWith", "(II)I"⟩, 23) := ⟨⟨by decide +kernel, by decide +kernel⟩, List.mem_of_getElem? (i := 1027) (by decide +kernel), List.mem_of_getElem? (i := 1313) (by decide +kernel), List.mem_of_getElem? (i := 1314) (by decide +kernel)⟩
theorem lw_p56 : lw_okq (⟨"FlapBoardModel", "signAt", "(II)I"⟩, 23) := ⟨⟨by decide +kernel, by decide +kernel⟩, List.mem_of_getElem? (i := 1027) (by decide +kernel), List.mem_of_getElem? (i := 1326) (by decide +kernel), List.mem_of_getElem? (i := 1327) (by decide +kernel)⟩
theorem lw_p57 : lw_okq (⟨"FlapBoardModel", "isSuch", "(II)Z"⟩, 23) := ⟨⟨by decide +kernel, by decide +kernel⟩, List.mem_of_getElem? (i := 1027) (by decide +kernel), List.mem_of_getElem? (i := 1335) (by decide +kernel), List.mem_of_getElem? (i := 1336) (by decide +kernel)⟩
theorem lw_p58 : lw_okq (⟨"FlapBoardModel", "isOther", "(I)Z"⟩, 23) := ⟨⟨by decide +kernel, by decide +kernel⟩, List.mem_of_getElem? (i := 1027) (by decide +kernel), List.mem_of_getElem? (i := 1339) (by decide +kernel), List.mem_of_getElem? (i := 1340) (by decide +kernel)⟩
theorem lw_p59 : lw_okq (⟨"FlapBoardModel", "putsAside", "()V"⟩, 23) := ⟨⟨by decide +kernel, by decide +kernel⟩, List.mem_of_getElem? (i := 1027) (by decide +kernel), List.mem_of_getElem? (i := 1353) (by decide +kernel), List.mem_of_getElem? (i := 1354) (by decide +kernel)⟩
theorem lw_p60 : lw_okq (⟨"FlapBoardModel", "others", "()I"⟩, 23) := ⟨⟨by decide +kernel, by decide +kernel⟩, List.mem_of_getElem? (i := 1027) (by decide +kernel), List.mem_of_getElem? (i := 1357) (by decide +kernel), List.mem_of_getElem? (i := 1358) (by decide +kernel)⟩
theorem lw_p61 : lw_okq (⟨"FlapBoardModel", "takesBack", "()V"⟩, 23) := ⟨⟨by decide +kernel, by decide +kernel⟩, List.mem_of_getElem? (i := 1027) (by decide +kernel), List.mem_of_getElem? (i := 1361) (by decide +kernel), List.mem_of_getElem? (i := 1362) (by decide +kernel)⟩
theorem lw_p62 : lw_okq (⟨"FlapBoardModel", "asks", "(IIII)V"⟩, 23) := ⟨⟨by decide +kernel, by decide +kernel⟩, List.mem_of_getElem? (i := 1027) (by decide +kernel), List.mem_of_getElem? (i := 1395) (by decide +kernel), List.mem_of_getElem? (i := 1396) (by decide +kernel)⟩
theorem lw_p63 : lw_okq (⟨"FlapBoardModel", "endOf", "(I)I"⟩, 23) := ⟨⟨by decide +kernel, by decide +kernel⟩, List.mem_of_getElem? (i := 1027) (by decide +kernel), List.mem_of_getElem? (i := 1403) (by decide +kernel), List.mem_of_getElem? (i := 1404) (by decide +kernel)⟩
def lw_privs_4 : List (MethodName × Nat) := [(⟨"FlapBoardModel", "settles", "()I"⟩, 23), (⟨"FlapBoardModel", "isCell", "(I)Z"⟩, 23), (⟨"FlapBoardModel", "isFlap", "(II)Z"⟩, 23), (⟨"FlapBoardModel", "wears", "(II)V"⟩, 23), (⟨"FlapBoardModel", "isDrum", "(I)Z"⟩, 23), (⟨"FlapBoardModel", "cellsWith", "(I)I"⟩, 23), (⟨"FlapBoardModel", "signsOf", "(IZ)I"⟩, 23), (⟨"FlapBoardModel", "manyWith", "(II)I"⟩, 23), (⟨"FlapBoardModel", "signAt", "(II)I"⟩, 23), (⟨"FlapBoardModel", "isSuch", "(II)Z"⟩, 23), (⟨"FlapBoardModel", "isOther", "(I)Z"⟩, 23), (⟨"FlapBoardModel", "putsAside", "()V"⟩, 23), (⟨"FlapBoardModel", "others", "()I"⟩, 23), (⟨"FlapBoardModel", "takesBack", "()V"⟩, 23), (⟨"FlapBoardModel", "asks", "(IIII)V"⟩, 23), (⟨"FlapBoardModel", "endOf", "(I)I"⟩, 23)]
theorem lw_r4 : ∀ q ∈ lw_privs_4, lw_okq q := List.forall_mem_cons.mpr ⟨lw_p48, List.forall_mem_cons.mpr ⟨lw_p49, List.forall_mem_cons.mpr ⟨lw_p50, List.forall_mem_cons.mpr ⟨lw_p51, List.forall_mem_cons.mpr ⟨lw_p52, List.forall_mem_cons.mpr ⟨lw_p53, List.forall_mem_cons.mpr ⟨lw_p54, List.forall_mem_cons.mpr ⟨lw_p55, List.forall_mem_cons.mpr ⟨lw_p56, List.forall_mem_cons.mpr ⟨lw_p57, List.forall_mem_cons.mpr ⟨lw_p58, List.forall_mem_cons.mpr ⟨lw_p59, List.forall_mem_cons.mpr ⟨lw_p60, List.forall_mem_cons.mpr ⟨lw_p61, List.forall_mem_cons.mpr ⟨lw_p62, List.forall_mem_cons.mpr ⟨lw_p63, fun _ h => absurd h List.not_mem_nil⟩⟩⟩⟩⟩⟩⟩⟩⟩⟩⟩⟩⟩⟩⟩⟩
theorem lw_p64 : lw_okq (⟨"FlapBoardModel", "journey", "(III)I"⟩, 23) := ⟨⟨by decide +kernel, by decide +kernel⟩, List.mem_of_getElem? (i := 1027) (by decide +kernel), List.mem_of_getElem? (i := 1415) (by decide +kernel), List.mem_of_getElem? (i := 1416) (by decide +kernel)⟩
theorem lw_p65 : lw_okq (⟨"FlapBoardModel", "logged", "(III)I"⟩, 23) := ⟨⟨by decide +kernel, by decide +kernel⟩, List.mem_of_getElem? (i := 1027) (by decide +kernel), List.mem_of_getElem? (i := 1419) (by decide +kernel), List.mem_of_getElem? (i := 1420) (by decide +kernel)⟩
theorem lw_p66 : lw_okq (⟨"FlapBoardModel", "entries", "(IZ)I"⟩, 23) := ⟨⟨by decide +kernel, by decide +kernel⟩, List.mem_of_getElem? (i := 1027) (by decide +kernel), List.mem_of_getElem? (i := 1426) (by decide +kernel), List.mem_of_getElem? (i := 1427) (by decide +kernel)⟩
theorem lw_p67 : lw_okq (⟨"FlapBoardModel", "hasElsewhere", "(II)Z"⟩, 23) := ⟨⟨by decide +kernel, by decide +kernel⟩, List.mem_of_getElem? (i := 1027) (by decide +kernel), List.mem_of_getElem? (i := 1446) (by decide +kernel), List.mem_of_getElem? (i := 1447) (by decide +kernel)⟩
theorem lw_p68 : lw_okq (⟨"FlapBoardModel", "lays", "(I)V"⟩, 23) := ⟨⟨by decide +kernel, by decide +kernel⟩, List.mem_of_getElem? (i := 1027) (by decide +kernel), List.mem_of_getElem? (i := 1454) (by decide +kernel), List.mem_of_getElem? (i := 1455) (by decide +kernel)⟩
theorem lw_p69 : lw_okq (⟨"FlapBoardModel", "readsBoard", "()Z"⟩, 23) := ⟨⟨by decide +kernel, by decide +kernel⟩, List.mem_of_getElem? (i := 1027) (by decide +kernel), List.mem_of_getElem? (i := 1466) (by decide +kernel), List.mem_of_getElem? (i := 1467) (by decide +kernel)⟩
theorem lw_p70 : lw_okq (⟨"FlapBoardModel", "mustWord", "(Ljava/lang/String;)Z"⟩, 23) := ⟨⟨by decide +kernel, by decide +kernel⟩, List.mem_of_getElem? (i := 1027) (by decide +kernel), List.mem_of_getElem? (i := 1471) (by decide +kernel), List.mem_of_getElem? (i := 1472) (by decide +kernel)⟩
theorem lw_p71 : lw_okq (⟨"FlapBoardModel", "takesWord", "(Ljava/lang/String;)Z"⟩, 23) := ⟨⟨by decide +kernel, by decide +kernel⟩, List.mem_of_getElem? (i := 1027) (by decide +kernel), List.mem_of_getElem? (i := 1475) (by decide +kernel), List.mem_of_getElem? (i := 1476) (by decide +kernel)⟩
theorem lw_p72 : lw_okq (⟨"FlapBoardModel", "isWord", "(Ljava/lang/String;)Z"⟩, 23) := ⟨⟨by decide +kernel, by decide +kernel⟩, List.mem_of_getElem? (i := 1027) (by decide +kernel), List.mem_of_getElem? (i := 1479) (by decide +kernel), List.mem_of_getElem? (i := 1480) (by decide +kernel)⟩
theorem lw_p73 : lw_okq (⟨"FlapBoardModel", "nextByte", "()I"⟩, 23) := ⟨⟨by decide +kernel, by decide +kernel⟩, List.mem_of_getElem? (i := 1027) (by decide +kernel), List.mem_of_getElem? (i := 1483) (by decide +kernel), List.mem_of_getElem? (i := 1484) (by decide +kernel)⟩
theorem lw_p74 : lw_okq (⟨"FlapBoardModel", "byteAt", "(I)I"⟩, 23) := ⟨⟨by decide +kernel, by decide +kernel⟩, List.mem_of_getElem? (i := 1027) (by decide +kernel), List.mem_of_getElem? (i := 1487) (by decide +kernel), List.mem_of_getElem? (i := 1488) (by decide +kernel)⟩
theorem lw_p75 : lw_okq (⟨"FlapBoardModel", "fails", "(II)Z"⟩, 23) := ⟨⟨by decide +kernel, by decide +kernel⟩, List.mem_of_getElem? (i := 1027) (by decide +kernel), List.mem_of_getElem? (i := 1495) (by decide +kernel), List.mem_of_getElem? (i := 1496) (by decide +kernel)⟩
theorem lw_p76 : lw_okq (⟨"FlapBoardModel", "readsNumber", "(II)Z"⟩, 23) := ⟨⟨by decide +kernel, by decide +kernel⟩, List.mem_of_getElem? (i := 1027) (by decide +kernel), List.mem_of_getElem? (i := 1499) (by decide +kernel), List.mem_of_getElem? (i := 1500) (by decide +kernel)⟩
theorem lw_p77 : lw_okq (⟨"FlapBoardModel", "readsPart", "()Z"⟩, 23) := ⟨⟨by decide +kernel, by decide +kernel⟩, List.mem_of_getElem? (i := 1027) (by decide +kernel), List.mem_of_getElem? (i := 1506) (by decide +kernel), List.mem_of_getElem? (i := 1507) (by decide +kernel)⟩
theorem lw_p78 : lw_okq (⟨"FlapBoardModel", "readsDrum", "()Z"⟩, 23) := ⟨⟨by decide +kernel, by decide +kernel⟩, List.mem_of_getElem? (i := 1027) (by decide +kernel), List.mem_of_getElem? (i := 1511) (by decide +kernel), List.mem_of_getElem? (i := 1512) (by decide +kernel)⟩
theorem lw_p79 : lw_okq (⟨"FlapBoardModel", "readsQuoted", "(II)Z"⟩, 23) := ⟨⟨by decide +kernel, by decide +kernel⟩, List.mem_of_getElem? (i := 1027) (by decide +kernel), List.mem_of_getElem? (i := 1515) (by decide +kernel), List.mem_of_getElem? (i := 1516) (by decide +kernel)⟩
def lw_privs_5 : List (MethodName × Nat) := [(⟨"FlapBoardModel", "journey", "(III)I"⟩, 23), (⟨"FlapBoardModel", "logged", "(III)I"⟩, 23), (⟨"FlapBoardModel", "entries", "(IZ)I"⟩, 23), (⟨"FlapBoardModel", "hasElsewhere", "(II)Z"⟩, 23), (⟨"FlapBoardModel", "lays", "(I)V"⟩, 23), (⟨"FlapBoardModel", "readsBoard", "()Z"⟩, 23), (⟨"FlapBoardModel", "mustWord", "(Ljava/lang/String;)Z"⟩, 23), (⟨"FlapBoardModel", "takesWord", "(Ljava/lang/String;)Z"⟩, 23), (⟨"FlapBoardModel", "isWord", "(Ljava/lang/String;)Z"⟩, 23), (⟨"FlapBoardModel", "nextByte", "()I"⟩, 23), (⟨"FlapBoardModel", "byteAt", "(I)I"⟩, 23), (⟨"FlapBoardModel", "fails", "(II)Z"⟩, 23), (⟨"FlapBoardModel", "readsNumber", "(II)Z"⟩, 23), (⟨"FlapBoardModel", "readsPart", "()Z"⟩, 23), (⟨"FlapBoardModel", "readsDrum", "()Z"⟩, 23), (⟨"FlapBoardModel", "readsQuoted", "(II)Z"⟩, 23)]
theorem lw_r5 : ∀ q ∈ lw_privs_5, lw_okq q := List.forall_mem_cons.mpr ⟨lw_p64, List.forall_mem_cons.mpr ⟨lw_p65, List.forall_mem_cons.mpr ⟨lw_p66, List.forall_mem_cons.mpr ⟨lw_p67, List.forall_mem_cons.mpr ⟨lw_p68, List.forall_mem_cons.mpr ⟨lw_p69, List.forall_mem_cons.mpr ⟨lw_p70, List.forall_mem_cons.mpr ⟨lw_p71, List.forall_mem_cons.mpr ⟨lw_p72, List.forall_mem_cons.mpr ⟨lw_p73, List.forall_mem_cons.mpr ⟨lw_p74, List.forall_mem_cons.mpr ⟨lw_p75, List.forall_mem_cons.mpr ⟨lw_p76, List.forall_mem_cons.mpr ⟨lw_p77, List.forall_mem_cons.mpr ⟨lw_p78, List.forall_mem_cons.mpr ⟨lw_p79, fun _ h => absurd h List.not_mem_nil⟩⟩⟩⟩⟩⟩⟩⟩⟩⟩⟩⟩⟩⟩⟩⟩
theorem lw_p80 : lw_okq (⟨"FlapBoardModel", "mustByte", "(I)Z"⟩, 23) := ⟨⟨by decide +kernel, by decide +kernel⟩, List.mem_of_getElem? (i := 1027) (by decide +kernel), List.mem_of_getElem? (i := 1519) (by decide +kernel), List.mem_of_getElem? (i := 1520) (by decide +kernel)⟩
theorem lw_p81 : lw_okq (⟨"FlapBoardModel", "takesByte", "(I)Z"⟩, 23) := ⟨⟨by decide +kernel, by decide +kernel⟩, List.mem_of_getElem? (i := 1027) (by decide +kernel), List.mem_of_getElem? (i := 1523) (by decide +kernel), List.mem_of_getElem? (i := 1524) (by decide +kernel)⟩
theorem lw_p82 : lw_okq (⟨"FlapBoardModel", "readsCells", "()Z"⟩, 23) := ⟨⟨by decide +kernel, by decide +kernel⟩, List.mem_of_getElem? (i := 1027) (by decide +kernel), List.mem_of_getElem? (i := 1531) (by decide +kernel), List.mem_of_getElem? (i := 1532) (by decide +kernel)⟩
theorem lw_p83 : lw_okq (⟨"FlapBoardModel", "readsWorn", "()Z"⟩, 23) := ⟨⟨by decide +kernel, by decide +kernel⟩, List.mem_of_getElem? (i := 1027) (by decide +kernel), List.mem_of_getElem? (i := 1535) (by decide +kernel), List.mem_of_getElem? (i := 1536) (by decide +kernel)⟩
theorem lw_p84 : lw_okq (⟨"FlapBoardModel", "readsRow", "()Z"⟩, 23) := ⟨⟨by decide +kernel, by decide +kernel⟩, List.mem_of_getElem? (i := 1027) (by decide +kernel), List.mem_of_getElem? (i := 1539) (by decide +kernel), List.mem_of_getElem? (i := 1540) (by decide +kernel)⟩
theorem lw_p85 : lw_okq (⟨"FlapBoardModel", "readsLose", "()Z"⟩, 23) := ⟨⟨by decide +kernel, by decide +kernel⟩, List.mem_of_getElem? (i := 1027) (by decide +kernel), List.mem_of_getElem? (i := 1543) (by decide +kernel), List.mem_of_getElem? (i := 1544) (by decide +kernel)⟩
theorem lw_p86 : lw_okq (⟨"FlapBoardModel", "goesProgram", "(Z)Z"⟩, 23) := ⟨⟨by decide +kernel, by decide +kernel⟩, List.mem_of_getElem? (i := 1027) (by decide +kernel), List.mem_of_getElem? (i := 1551) (by decide +kernel), List.mem_of_getElem? (i := 1552) (by decide +kernel)⟩
theorem lw_p87 : lw_okq (⟨"FlapBoardModel", "goesAll", "(Z)Z"⟩, 23) := ⟨⟨by decide +kernel, by decide +kernel⟩, List.mem_of_getElem? (i := 1027) (by decide +kernel), List.mem_of_getElem? (i := 1555) (by decide +kernel), List.mem_of_getElem? (i := 1556) (by decide +kernel)⟩
theorem lw_p88 : lw_okq (⟨"FlapBoardModel", "goesOne", "(Z)Z"⟩, 23) := ⟨⟨by decide +kernel, by decide +kernel⟩, List.mem_of_getElem? (i := 1027) (by decide +kernel), List.mem_of_getElem? (i := 1559) (by decide +kernel), List.mem_of_getElem? (i := 1560) (by decide +kernel)⟩
theorem lw_p89 : lw_okq (⟨"FlapBoardModel", "goesRow", "(Z)Z"⟩, 23) := ⟨⟨by decide +kernel, by decide +kernel⟩, List.mem_of_getElem? (i := 1027) (by decide +kernel), List.mem_of_getElem? (i := 1563) (by decide +kernel), List.mem_of_getElem? (i := 1564) (by decide +kernel)⟩
theorem lw_p90 : lw_okq (⟨"FlapBoardModel", "isDone", "(Z)Z"⟩, 23) := ⟨⟨by decide +kernel, by decide +kernel⟩, List.mem_of_getElem? (i := 1027) (by decide +kernel), List.mem_of_getElem? (i := 1567) (by decide +kernel), List.mem_of_getElem? (i := 1568) (by decide +kernel)⟩
theorem lw_p91 : lw_okq (⟨"FlapBoardModel", "goesScroll", "(Z)Z"⟩, 23) := ⟨⟨by decide +kernel, by decide +kernel⟩, List.mem_of_getElem? (i := 1027) (by decide +kernel), List.mem_of_getElem? (i := 1572) (by decide +kernel), List.mem_of_getElem? (i := 1573) (by decide +kernel)⟩
theorem lw_p92 : lw_okq (⟨"FlapBoardModel", "goesHome", "(Z)Z"⟩, 23) := ⟨⟨by decide +kernel, by decide +kernel⟩, List.mem_of_getElem? (i := 1027) (by decide +kernel), List.mem_of_getElem? (i := 1577) (by decide +kernel), List.mem_of_getElem? (i := 1578) (by decide +kernel)⟩
theorem lw_p93 : lw_okq (⟨"FlapBoardModel", "goesWait", "(Z)Z"⟩, 23) := ⟨⟨by decide +kernel, by decide +kernel⟩, List.mem_of_getElem? (i := 1027) (by decide +kernel), List.mem_of_getElem? (i := 1582) (by decide +kernel), List.mem_of_getElem? (i := 1583) (by decide +kernel)⟩
theorem lw_p94 : lw_okq (⟨"FlapBoardModel", "goesSettle", "(Z)Z"⟩, 23) := ⟨⟨by decide +kernel, by decide +kernel⟩, List.mem_of_getElem? (i := 1027) (by decide +kernel), List.mem_of_getElem? (i := 1587) (by decide +kernel), List.mem_of_getElem? (i := 1588) (by decide +kernel)⟩
theorem lw_p95 : lw_okq (⟨"FlapBoardModel", "goesLose", "(Z)Z"⟩, 23) := ⟨⟨by decide +kernel, by decide +kernel⟩, List.mem_of_getElem? (i := 1027) (by decide +kernel), List.mem_of_getElem? (i := 1591) (by decide +kernel), List.mem_of_getElem? (i := 1592) (by decide +kernel)⟩
def lw_privs_6 : List (MethodName × Nat) := [(⟨"FlapBoardModel", "mustByte", "(I)Z"⟩, 23), (⟨"FlapBoardModel", "takesByte", "(I)Z"⟩, 23), (⟨"FlapBoardModel", "readsCells", "()Z"⟩, 23), (⟨"FlapBoardModel", "readsWorn", "()Z"⟩, 23), (⟨"FlapBoardModel", "readsRow", "()Z"⟩, 23), (⟨"FlapBoardModel", "readsLose", "()Z"⟩, 23), (⟨"FlapBoardModel", "goesProgram", "(Z)Z"⟩, 23), (⟨"FlapBoardModel", "goesAll", "(Z)Z"⟩, 23), (⟨"FlapBoardModel", "goesOne", "(Z)Z"⟩, 23), (⟨"FlapBoardModel", "goesRow", "(Z)Z"⟩, 23), (⟨"FlapBoardModel", "isDone", "(Z)Z"⟩, 23), (⟨"FlapBoardModel", "goesScroll", "(Z)Z"⟩, 23), (⟨"FlapBoardModel", "goesHome", "(Z)Z"⟩, 23), (⟨"FlapBoardModel", "goesWait", "(Z)Z"⟩, 23), (⟨"FlapBoardModel", "goesSettle", "(Z)Z"⟩, 23), (⟨"FlapBoardModel", "goesLose", "(Z)Z"⟩, 23)]
theorem lw_r6 : ∀ q ∈ lw_privs_6, lw_okq q := List.forall_mem_cons.mpr ⟨lw_p80, List.forall_mem_cons.mpr ⟨lw_p81, List.forall_mem_cons.mpr ⟨lw_p82, List.forall_mem_cons.mpr ⟨lw_p83, List.forall_mem_cons.mpr ⟨lw_p84, List.forall_mem_cons.mpr ⟨lw_p85, List.forall_mem_cons.mpr ⟨lw_p86, List.forall_mem_cons.mpr ⟨lw_p87, List.forall_mem_cons.mpr ⟨lw_p88, List.forall_mem_cons.mpr ⟨lw_p89, List.forall_mem_cons.mpr ⟨lw_p90, List.forall_mem_cons.mpr ⟨lw_p91, List.forall_mem_cons.mpr ⟨lw_p92, List.forall_mem_cons.mpr ⟨lw_p93, List.forall_mem_cons.mpr ⟨lw_p94, List.forall_mem_cons.mpr ⟨lw_p95, fun _ h => absurd h List.not_mem_nil⟩⟩⟩⟩⟩⟩⟩⟩⟩⟩⟩⟩⟩⟩⟩⟩
theorem lw_p96 : lw_okq (⟨"FlapBoardModel", "goesTimes", "(Z)Z"⟩, 23) := ⟨⟨by decide +kernel, by decide +kernel⟩, List.mem_of_getElem? (i := 1027) (by decide +kernel), List.mem_of_getElem? (i := 1596) (by decide +kernel), List.mem_of_getElem? (i := 1597) (by decide +kernel)⟩
def lw_privs_7 : List (MethodName × Nat) := [(⟨"FlapBoardModel", "goesTimes", "(Z)Z"⟩, 23)]
theorem lw_r7 : ∀ q ∈ lw_privs_7, lw_okq q := List.forall_mem_cons.mpr ⟨lw_p96, fun _ h => absurd h List.not_mem_nil⟩
def lw_privs : List (MethodName × Nat) := lw_privs_1 ++ (lw_privs_2 ++ (lw_privs_3 ++ (lw_privs_4 ++ (lw_privs_5 ++ (lw_privs_6 ++ (lw_privs_7))))))
def lw_tbl : List Cond := k2_sels lw_privs ++ tables_1
theorem lw_privs_ok : ∀ q ∈ lw_privs, lw_okq q := by
  show ∀ q ∈ lw_privs_1 ++ (lw_privs_2 ++ (lw_privs_3 ++ (lw_privs_4 ++ (lw_privs_5 ++ (lw_privs_6 ++ (lw_privs_7)))))), lw_okq q
  exact List.forall_mem_append.mpr ⟨lw_r1, List.forall_mem_append.mpr ⟨lw_r2, List.forall_mem_append.mpr ⟨lw_r3, List.forall_mem_append.mpr ⟨lw_r4, List.forall_mem_append.mpr ⟨lw_r5, List.forall_mem_append.mpr ⟨lw_r6, lw_r7⟩⟩⟩⟩⟩⟩
end
section
def RX0 : String := "FlapBoard$Board"
def TX0 : u_T := fun k => match k with
  | 0 => ("FlapBoard$Board", "rows", "I", false)
  | 1 => ("FlapBoard$Board", "wide", "I", false)
  | 2 => ("FlapBoard$Board", "limit", "I", false)
  | 3 => ("FlapBoard$Board", "drums", "I", false)
  | 4 => ("FlapBoard$Board", "clatter", "I", false)
  | 5 => ("FlapBoard$Board", "ticks", "I", false)
  | 6 => ("FlapBoard$Board", "currents", "[I", true)
  | 7 => ("FlapBoard$Board", "sizes", "[I", true)
  | 8 => ("FlapBoard$Board", "signs", "[I", true)
  | 9 => ("FlapBoard$Board", "drumOf", "[I", true)
  | 10 => ("FlapBoard$Board", "shows", "[I", true)
  | 11 => ("FlapBoard$Board", "believes", "[I", true)
  | 12 => ("FlapBoard$Board", "wants", "[I", true)
  | 13 => ("FlapBoard$Board", "loses", "[I", true)
  | 14 => ("FlapBoard$Board", "steps", "[I", true)
  | 15 => ("FlapBoard$Board", "founds", "[I", true)
  | 16 => ("FlapBoard$Board", "wornOf", "[J", true)
  | _ => ("FlapBoard$Board", "entries", "[I", false)
def tyX0 : Nat → FieldType := fun k => match k with
  | 0 => .int
  | 1 => .int
  | 2 => .int
  | 3 => .int
  | 4 => .int
  | 5 => .int
  | 6 => .array .int
  | 7 => .array .int
  | 8 => .array .int
  | 9 => .array .int
  | 10 => .array .int
  | 11 => .array .int
  | 12 => .array .int
  | 13 => .array .int
  | 14 => .array .int
  | 15 => .array .int
  | 16 => .array .long
  | _ => .array .int
theorem nmX0 : ∀ a, a < 18 → ∀ b, b < 18 → a ≠ b → (TX0 a).2.1 ≠ (TX0 b).2.1 := by decide +kernel
theorem tyX0_ok : ∀ k, k < 18 → parseFieldDescriptor (TX0 k).2.2.1 = some (tyX0 k) := by decide +kernel
abbrev cX0_init : ByteArray := prog_2_method_1_code
def yX0_init : MethodName := ⟨RX0, "<init>", "()V"⟩
abbrev cX0_clear : ByteArray := prog_2_method_2_code
def yX0_clear : MethodName := ⟨RX0, "clear", "()V"⟩
abbrev cX0_setLost : ByteArray := prog_2_method_3_code
def yX0_setLost : MethodName := ⟨RX0, "setLost", "(II)V"⟩
abbrev cX0_makeCell : ByteArray := prog_2_method_4_code
def yX0_makeCell : MethodName := ⟨RX0, "makeCell", "(II)V"⟩
abbrev cX0_addDrum : ByteArray := prog_2_method_5_code
def yX0_addDrum : MethodName := ⟨RX0, "addDrum", "(ILFlapBoard$Tape;II)V"⟩
abbrev cX0_copyAll : ByteArray := prog_2_method_6_code
def yX0_copyAll : MethodName := ⟨RX0, "copyAll", "(LFlapBoard$Board;)V"⟩
abbrev cX0_copyAllButLog : ByteArray := prog_2_method_7_code
def yX0_copyAllButLog : MethodName := ⟨RX0, "copyAllButLog", "(LFlapBoard$Board;)V"⟩
abbrev cX0_isThere : ByteArray := prog_2_method_8_code
def yX0_isThere : MethodName := ⟨RX0, "isThere", "()Z"⟩
abbrev cX0_cells : ByteArray := prog_2_method_9_code
def yX0_cells : MethodName := ⟨RX0, "cells", "()I"⟩
abbrev cX0_hasCell : ByteArray := prog_2_method_10_code
def yX0_hasCell : MethodName := ⟨RX0, "hasCell", "(I)Z"⟩
abbrev cX0_hasRow : ByteArray := prog_2_method_11_code
def yX0_hasRow : MethodName := ⟨RX0, "hasRow", "(I)Z"⟩
abbrev cX0_hasDrum : ByteArray := prog_2_method_12_code
def yX0_hasDrum : MethodName := ⟨RX0, "hasDrum", "(I)Z"⟩
abbrev cX0_hasFlap : ByteArray := prog_2_method_13_code
def yX0_hasFlap : MethodName := ⟨RX0, "hasFlap", "(II)Z"⟩
abbrev cX0_isMovable : ByteArray := prog_2_method_14_code
def yX0_isMovable : MethodName := ⟨RX0, "isMovable", "(II)Z"⟩
abbrev cX0_flapsOn : ByteArray := prog_2_method_15_code
def yX0_flapsOn : MethodName := ⟨RX0, "flapsOn", "(I)I"⟩
abbrev cX0_flapsOf : ByteArray := prog_2_method_16_code
def yX0_flapsOf : MethodName := ⟨RX0, "flapsOf", "(I)I"⟩
abbrev cX0_currentOf : ByteArray := prog_2_method_17_code
def yX0_currentOf : MethodName := ⟨RX0, "currentOf", "(I)I"⟩
abbrev cX0_signOf : ByteArray := prog_2_method_18_code
def yX0_signOf : MethodName := ⟨RX0, "signOf", "(II)I"⟩
abbrev cX0_signOn : ByteArray := prog_2_method_19_code
def yX0_signOn : MethodName := ⟨RX0, "signOn", "(II)I"⟩
abbrev cX0_wantedSign : ByteArray := prog_2_method_20_code
def yX0_wantedSign : MethodName := ⟨RX0, "wantedSign", "(I)I"⟩
abbrev cX0_showsWrong : ByteArray := prog_2_method_21_code
def yX0_showsWrong : MethodName := ⟨RX0, "showsWrong", "(I)Z"⟩
abbrev cX0_wrongCount : ByteArray := prog_2_method_22_code
def yX0_wrongCount : MethodName := ⟨RX0, "wrongCount", "()I"⟩
abbrev cX0_sumOf : ByteArray := prog_2_method_23_code
def yX0_sumOf : MethodName := ⟨RX0, "sumOf", "([I)I"⟩
abbrev cX0_swapSigns : ByteArray := prog_2_method_24_code
def yX0_swapSigns : MethodName := ⟨RX0, "swapSigns", "(III)V"⟩
abbrev cX0_cellsWith : ByteArray := prog_2_method_25_code
def yX0_cellsWith : MethodName := ⟨RX0, "cellsWith", "(I)I"⟩
abbrev cX0_flapsWith : ByteArray := prog_2_method_26_code
def yX0_flapsWith : MethodName := ⟨RX0, "flapsWith", "(III)I"⟩
abbrev cX0_drumHas : ByteArray := prog_2_method_27_code
def yX0_drumHas : MethodName := ⟨RX0, "drumHas", "(II)Z"⟩
abbrev cX0_someDrumHas : ByteArray := prog_2_method_28_code
def yX0_someDrumHas : MethodName := ⟨RX0, "someDrumHas", "(I)Z"⟩
abbrev cX0_missedOfOwn : ByteArray := prog_2_method_29_code
def yX0_missedOfOwn : MethodName := ⟨RX0, "missedOfOwn", "(I)I"⟩
abbrev cX0_signsOfOthers : ByteArray := prog_2_method_30_code
def yX0_signsOfOthers : MethodName := ⟨RX0, "signsOfOthers", "(I)I"⟩
abbrev cX0_isLastOfSign : ByteArray := prog_2_method_31_code
def yX0_isLastOfSign : MethodName := ⟨RX0, "isLastOfSign", "(II)Z"⟩
abbrev cX0_unlikeSigns : ByteArray := prog_2_method_32_code
def yX0_unlikeSigns : MethodName := ⟨RX0, "unlikeSigns", "(I)I"⟩
abbrev cX0_mostOfOneSign : ByteArray := prog_2_method_33_code
def yX0_mostOfOneSign : MethodName := ⟨RX0, "mostOfOneSign", "(I)I"⟩
abbrev cX0_isWorn : ByteArray := prog_2_method_34_code
def yX0_isWorn : MethodName := ⟨RX0, "isWorn", "(II)Z"⟩
abbrev cX0_wornCount : ByteArray := prog_2_method_35_code
def yX0_wornCount : MethodName := ⟨RX0, "wornCount", "(I)I"⟩
abbrev cX0_wearFlap : ByteArray := prog_2_method_36_code
def yX0_wearFlap : MethodName := ⟨RX0, "wearFlap", "(II)V"⟩
abbrev cX0_mendFlap : ByteArray := prog_2_method_37_code
def yX0_mendFlap : MethodName := ⟨RX0, "mendFlap", "(II)V"⟩
abbrev cX0_flapsOnTo : ByteArray := prog_2_method_38_code
def yX0_flapsOnTo : MethodName := ⟨RX0, "flapsOnTo", "(II)I"⟩
abbrev cX0_leftOf : ByteArray := prog_2_method_39_code
def yX0_leftOf : MethodName := ⟨RX0, "leftOf", "(I)I"⟩
abbrev cX0_nearest : ByteArray := prog_2_method_40_code
def yX0_nearest : MethodName := ⟨RX0, "nearest", "(II)I"⟩
abbrev cX0_flapFor : ByteArray := prog_2_method_41_code
def yX0_flapFor : MethodName := ⟨RX0, "flapFor", "(IILFlapBoard$Tape;II)I"⟩
abbrev cX0_costOf : ByteArray := prog_2_method_42_code
def yX0_costOf : MethodName := ⟨RX0, "costOf", "(IILFlapBoard$Tape;II)I"⟩
abbrev cX0_missesOf : ByteArray := prog_2_method_43_code
def yX0_missesOf : MethodName := ⟨RX0, "missesOf", "(IILFlapBoard$Tape;II)I"⟩
abbrev cX0_wantSigns : ByteArray := prog_2_method_44_code
def yX0_wantSigns : MethodName := ⟨RX0, "wantSigns", "(ILFlapBoard$Tape;II)I"⟩
abbrev cX0_scrollUp : ByteArray := prog_2_method_45_code
def yX0_scrollUp : MethodName := ⟨RX0, "scrollUp", "(LFlapBoard$Tape;II)I"⟩
abbrev cX0_wantFlap : ByteArray := prog_2_method_46_code
def yX0_wantFlap : MethodName := ⟨RX0, "wantFlap", "(II)I"⟩
abbrev cX0_wantHome : ByteArray := prog_2_method_47_code
def yX0_wantHome : MethodName := ⟨RX0, "wantHome", "(I)V"⟩
abbrev cX0_showSigns : ByteArray := prog_2_method_48_code
def yX0_showSigns : MethodName := ⟨RX0, "showSigns", "(ILFlapBoard$Tape;II)V"⟩
abbrev cX0_stepOn : ByteArray := prog_2_method_49_code
def yX0_stepOn : MethodName := ⟨RX0, "stepOn", "(I)I"⟩
abbrev cX0_leftOfAll : ByteArray := prog_2_method_50_code
def yX0_leftOfAll : MethodName := ⟨RX0, "leftOfAll", "(Z)I"⟩
abbrev cX0_mostLeft : ByteArray := prog_2_method_51_code
def yX0_mostLeft : MethodName := ⟨RX0, "mostLeft", "()I"⟩
abbrev cX0_emptyLog : ByteArray := prog_2_method_52_code
def yX0_emptyLog : MethodName := ⟨RX0, "emptyLog", "()V"⟩
abbrev cX0_entryStart : ByteArray := prog_2_method_53_code
def yX0_entryStart : MethodName := ⟨RX0, "entryStart", "(I)I"⟩
abbrev cX0_entryCount : ByteArray := prog_2_method_54_code
def yX0_entryCount : MethodName := ⟨RX0, "entryCount", "()I"⟩
abbrev cX0_entryAt : ByteArray := prog_2_method_55_code
def yX0_entryAt : MethodName := ⟨RX0, "entryAt", "(IIII)I"⟩
abbrev cX0_journey : ByteArray := prog_2_method_56_code
def yX0_journey : MethodName := ⟨RX0, "journey", "(I)I"⟩
abbrev cX0_logSize : ByteArray := prog_2_method_57_code
def yX0_logSize : MethodName := ⟨RX0, "logSize", "(I)I"⟩
abbrev cX0_unlikeEntries : ByteArray := prog_2_method_58_code
def yX0_unlikeEntries : MethodName := ⟨RX0, "unlikeEntries", "(I)I"⟩
abbrev cX0_entriesOf : ByteArray := prog_2_method_59_code
def yX0_entriesOf : MethodName := ⟨RX0, "entriesOf", "(IIZ)I"⟩
abbrev cX0_journeyChange : ByteArray := prog_2_method_60_code
def yX0_journeyChange : MethodName := ⟨RX0, "journeyChange", "(III)I"⟩
def RX1 : String := "FlapBoard$BoardText"
def TX1 : u_T := fun k => match k with
  | _ => ("", "", "", false)
def tyX1 : Nat → FieldType := fun k => match k with
  | _ => .int
theorem nmX1 : ∀ a, a < 0 → ∀ b, b < 0 → a ≠ b → (TX1 a).2.1 ≠ (TX1 b).2.1 := by decide +kernel
theorem tyX1_ok : ∀ k, k < 0 → parseFieldDescriptor (TX1 k).2.2.1 = some (tyX1 k) := by decide +kernel
abbrev cX1_readInto : ByteArray := prog_3_method_2_code
def yX1_readInto : MethodName := ⟨RX1, "readInto", "(LFlapBoard$Board;LFlapBoard$Tape;)V"⟩
abbrev cX1_readHead : ByteArray := prog_3_method_3_code
def yX1_readHead : MethodName := ⟨RX1, "readHead", "(LFlapBoard$Board;LFlapBoard$Tape;)V"⟩
abbrev cX1_readPart : ByteArray := prog_3_method_4_code
def yX1_readPart : MethodName := ⟨RX1, "readPart", "(LFlapBoard$Board;LFlapBoard$Tape;)V"⟩
abbrev cX1_readDrum : ByteArray := prog_3_method_5_code
def yX1_readDrum : MethodName := ⟨RX1, "readDrum", "(LFlapBoard$Board;LFlapBoard$Tape;)V"⟩
abbrev cX1_readCells : ByteArray := prog_3_method_6_code
def yX1_readCells : MethodName := ⟨RX1, "readCells", "(LFlapBoard$Board;LFlapBoard$Tape;)V"⟩
abbrev cX1_readWorn : ByteArray := prog_3_method_7_code
def yX1_readWorn : MethodName := ⟨RX1, "readWorn", "(LFlapBoard$Board;LFlapBoard$Tape;)V"⟩
abbrev cX1_readRow : ByteArray := prog_3_method_8_code
def yX1_readRow : MethodName := ⟨RX1, "readRow", "(LFlapBoard$Board;LFlapBoard$Tape;)V"⟩
abbrev cX1_readLose : ByteArray := prog_3_method_9_code
def yX1_readLose : MethodName := ⟨RX1, "readLose", "(LFlapBoard$Board;LFlapBoard$Tape;)V"⟩
def RX2 : String := "FlapBoard$Motor"
def TX2 : u_T := fun k => match k with
  | 0 => ("FlapBoard$Motor", "firstByLeft", "[I", true)
  | 1 => ("FlapBoard$Motor", "nextCell", "[I", true)
  | 2 => ("FlapBoard$Motor", "chosen", "[I", true)
  | 3 => ("FlapBoard$Motor", "size", "I", false)
  | 4 => ("FlapBoard$Motor", "current", "I", false)
  | 5 => ("FlapBoard$Motor", "ticks", "I", false)
  | 6 => ("FlapBoard$Motor", "steps", "I", false)
  | 7 => ("FlapBoard$Motor", "clatter", "I", false)
  | 8 => ("FlapBoard$Motor", "mostCurrent", "I", false)
  | 9 => ("FlapBoard$Motor", "loudestTick", "I", false)
  | 10 => ("FlapBoard$Motor", "loudestClatter", "I", false)
  | _ => ("FlapBoard$Motor", "found", "I", false)
def tyX2 : Nat → FieldType := fun k => match k with
  | 0 => .array .int
  | 1 => .array .int
  | 2 => .array .int
  | 3 => .int
  | 4 => .int
  | 5 => .int
  | 6 => .int
  | 7 => .int
  | 8 => .int
  | 9 => .int
  | 10 => .int
  | _ => .int
theorem nmX2 : ∀ a, a < 12 → ∀ b, b < 12 → a ≠ b → (TX2 a).2.1 ≠ (TX2 b).2.1 := by decide +kernel
theorem tyX2_ok : ∀ k, k < 12 → parseFieldDescriptor (TX2 k).2.2.1 = some (tyX2 k) := by decide +kernel
abbrev cX2_init : ByteArray := prog_4_method_1_code
def yX2_init : MethodName := ⟨RX2, "<init>", "()V"⟩
abbrev cX2_turn : ByteArray := prog_4_method_2_code
def yX2_turn : MethodName := ⟨RX2, "turn", "(LFlapBoard$Board;I)V"⟩
abbrev cX2_startCounting : ByteArray := prog_4_method_3_code
def yX2_startCounting : MethodName := ⟨RX2, "startCounting", "()V"⟩
abbrev cX2_countTick : ByteArray := prog_4_method_4_code
def yX2_countTick : MethodName := ⟨RX2, "countTick", "(I)V"⟩
abbrev cX2_choose : ByteArray := prog_4_method_5_code
def yX2_choose : MethodName := ⟨RX2, "choose", "(LFlapBoard$Board;)V"⟩
abbrev cX2_sortByLeft : ByteArray := prog_4_method_6_code
def yX2_sortByLeft : MethodName := ⟨RX2, "sortByLeft", "(LFlapBoard$Board;)I"⟩
abbrev cX2_chosenBits : ByteArray := prog_4_method_7_code
def yX2_chosenBits : MethodName := ⟨RX2, "chosenBits", "()J"⟩
def RX3 : String := "FlapBoard$Past"
def TX3 : u_T := fun k => match k with
  | 0 => ("FlapBoard$Past", "boards", "[LFlapBoard$Board;", true)
  | 1 => ("FlapBoard$Past", "size", "I", false)
  | _ => ("FlapBoard$Past", "next", "I", false)
def tyX3 : Nat → FieldType := fun k => match k with
  | 0 => .array (.object "FlapBoard$Board")
  | 1 => .int
  | _ => .int
theorem nmX3 : ∀ a, a < 3 → ∀ b, b < 3 → a ≠ b → (TX3 a).2.1 ≠ (TX3 b).2.1 := by decide +kernel
theorem tyX3_ok : ∀ k, k < 3 → parseFieldDescriptor (TX3 k).2.2.1 = some (tyX3 k) := by decide +kernel
abbrev cX3_init : ByteArray := prog_5_method_1_code
def yX3_init : MethodName := ⟨RX3, "<init>", "()V"⟩
abbrev cX3_push : ByteArray := prog_5_method_2_code
def yX3_push : MethodName := ⟨RX3, "push", "(LFlapBoard$Board;)V"⟩
abbrev cX3_pop : ByteArray := prog_5_method_3_code
def yX3_pop : MethodName := ⟨RX3, "pop", "(LFlapBoard$Board;)Z"⟩
def RX4 : String := "FlapBoard$Program"
def TX4 : u_T := fun k => match k with
  | 0 => ("FlapBoard$Program", "kinds", "[I", true)
  | 1 => ("FlapBoard$Program", "ones", "[I", true)
  | 2 => ("FlapBoard$Program", "twos", "[I", true)
  | 3 => ("FlapBoard$Program", "quoted", "[I", true)
  | 4 => ("FlapBoard$Program", "ends", "[I", true)
  | 5 => ("FlapBoard$Program", "open", "[I", true)
  | 6 => ("FlapBoard$Program", "again", "[I", true)
  | 7 => ("FlapBoard$Program", "depth", "I", false)
  | 8 => ("FlapBoard$Program", "size", "I", false)
  | _ => ("FlapBoard$Program", "at", "I", false)
def tyX4 : Nat → FieldType := fun k => match k with
  | 0 => .array .int
  | 1 => .array .int
  | 2 => .array .int
  | 3 => .array .int
  | 4 => .array .int
  | 5 => .array .int
  | 6 => .array .int
  | 7 => .int
  | 8 => .int
  | _ => .int
theorem nmX4 : ∀ a, a < 10 → ∀ b, b < 10 → a ≠ b → (TX4 a).2.1 ≠ (TX4 b).2.1 := by decide +kernel
theorem tyX4_ok : ∀ k, k < 10 → parseFieldDescriptor (TX4 k).2.2.1 = some (tyX4 k) := by decide +kernel
abbrev cX4_init : ByteArray := prog_6_method_1_code
def yX4_init : MethodName := ⟨RX4, "<init>", "()V"⟩
abbrev cX4_hasStep : ByteArray := prog_6_method_2_code
def yX4_hasStep : MethodName := ⟨RX4, "hasStep", "(I)Z"⟩
abbrev cX4_kindOf : ByteArray := prog_6_method_3_code
def yX4_kindOf : MethodName := ⟨RX4, "kindOf", "(I)I"⟩
abbrev cX4_oneOf : ByteArray := prog_6_method_4_code
def yX4_oneOf : MethodName := ⟨RX4, "oneOf", "(I)I"⟩
abbrev cX4_twoOf : ByteArray := prog_6_method_5_code
def yX4_twoOf : MethodName := ⟨RX4, "twoOf", "(I)I"⟩
abbrev cX4_quotedOf : ByteArray := prog_6_method_6_code
def yX4_quotedOf : MethodName := ⟨RX4, "quotedOf", "(I)I"⟩
abbrev cX4_endOf : ByteArray := prog_6_method_7_code
def yX4_endOf : MethodName := ⟨RX4, "endOf", "(I)I"⟩
abbrev cX4_startDoing : ByteArray := prog_6_method_8_code
def yX4_startDoing : MethodName := ⟨RX4, "startDoing", "()V"⟩
abbrev cX4_goOn : ByteArray := prog_6_method_9_code
def yX4_goOn : MethodName := ⟨RX4, "goOn", "()V"⟩
abbrev cX4_readFrom : ByteArray := prog_6_method_10_code
def yX4_readFrom : MethodName := ⟨RX4, "readFrom", "(LFlapBoard$Tape;LFlapBoard$Board;)V"⟩
abbrev cX4_readStep : ByteArray := prog_6_method_11_code
def yX4_readStep : MethodName := ⟨RX4, "readStep", "(ILFlapBoard$Tape;LFlapBoard$Board;)V"⟩
abbrev cX4_openTimes : ByteArray := prog_6_method_12_code
def yX4_openTimes : MethodName := ⟨RX4, "openTimes", "(LFlapBoard$Tape;)V"⟩
abbrev cX4_addStep : ByteArray := prog_6_method_13_code
def yX4_addStep : MethodName := ⟨RX4, "addStep", "(IIII)V"⟩
abbrev cX4_goesOn : ByteArray := prog_6_method_14_code
def yX4_goesOn : MethodName := ⟨RX4, "goesOn", "(LFlapBoard$Tape;)Z"⟩
abbrev cX4_closeTimes : ByteArray := prog_6_method_15_code
def yX4_closeTimes : MethodName := ⟨RX4, "closeTimes", "(I)V"⟩
def RX5 : String := "FlapBoard$Tape"
def TX5 : u_T := fun k => match k with
  | 0 => ("FlapBoard$Tape", "bytes", "[I", true)
  | 1 => ("FlapBoard$Tape", "size", "I", false)
  | 2 => ("FlapBoard$Tape", "at", "I", false)
  | 3 => ("FlapBoard$Tape", "begun", "I", false)
  | 4 => ("FlapBoard$Tape", "quotedFrom", "I", false)
  | 5 => ("FlapBoard$Tape", "quotedSize", "I", false)
  | _ => ("FlapBoard$Tape", "fault", "I", false)
def tyX5 : Nat → FieldType := fun k => match k with
  | 0 => .array .int
  | 1 => .int
  | 2 => .int
  | 3 => .int
  | 4 => .int
  | 5 => .int
  | _ => .int
theorem nmX5 : ∀ a, a < 7 → ∀ b, b < 7 → a ≠ b → (TX5 a).2.1 ≠ (TX5 b).2.1 := by decide +kernel
theorem tyX5_ok : ∀ k, k < 7 → parseFieldDescriptor (TX5 k).2.2.1 = some (tyX5 k) := by decide +kernel
abbrev cX5_init : ByteArray := prog_7_method_1_code
def yX5_init : MethodName := ⟨RX5, "<init>", "()V"⟩
abbrev cX5_addNumber : ByteArray := prog_7_method_2_code
def yX5_addNumber : MethodName := ⟨RX5, "addNumber", "(I)V"⟩
abbrev cX5_byteAt : ByteArray := prog_7_method_3_code
def yX5_byteAt : MethodName := ⟨RX5, "byteAt", "(I)I"⟩
abbrev cX5_startReading : ByteArray := prog_7_method_4_code
def yX5_startReading : MethodName := ⟨RX5, "startReading", "()V"⟩
abbrev cX5_isSound : ByteArray := prog_7_method_5_code
def yX5_isSound : MethodName := ⟨RX5, "isSound", "()Z"⟩
abbrev cX5_blame : ByteArray := prog_7_method_6_code
def yX5_blame : MethodName := ⟨RX5, "blame", "(II)V"⟩
abbrev cX5_peek : ByteArray := prog_7_method_7_code
def yX5_peek : MethodName := ⟨RX5, "peek", "()I"⟩
abbrev cX5_takeByte : ByteArray := prog_7_method_8_code
def yX5_takeByte : MethodName := ⟨RX5, "takeByte", "(I)V"⟩
abbrev cX5_takeWord : ByteArray := prog_7_method_9_code
def yX5_takeWord : MethodName := ⟨RX5, "takeWord", "()I"⟩
abbrev cX5_takeThisWord : ByteArray := prog_7_method_10_code
def yX5_takeThisWord : MethodName := ⟨RX5, "takeThisWord", "(I)V"⟩
abbrev cX5_wordRead : ByteArray := prog_7_method_11_code
def yX5_wordRead : MethodName := ⟨RX5, "wordRead", "()I"⟩
abbrev cX5_isRead : ByteArray := prog_7_method_12_code
def yX5_isRead : MethodName := ⟨RX5, "isRead", "(Ljava/lang/String;)Z"⟩
abbrev cX5_takeNumber : ByteArray := prog_7_method_13_code
def yX5_takeNumber : MethodName := ⟨RX5, "takeNumber", "(II)I"⟩
abbrev cX5_takeQuoted : ByteArray := prog_7_method_14_code
def yX5_takeQuoted : MethodName := ⟨RX5, "takeQuoted", "(II)V"⟩
def RX6 : String := "FlapBoard"
def TX6 : u_T := fun k => match k with
  | 0 => ("FlapBoard", "tape", "LFlapBoard$Tape;", true)
  | 1 => ("FlapBoard", "board", "LFlapBoard$Board;", true)
  | 2 => ("FlapBoard", "trial", "LFlapBoard$Board;", true)
  | 3 => ("FlapBoard", "motor", "LFlapBoard$Motor;", true)
  | 4 => ("FlapBoard", "program", "LFlapBoard$Program;", true)
  | 5 => ("FlapBoard", "past", "LFlapBoard$Past;", true)
  | _ => ("FlapBoard", "shelves", "[LFlapBoard$Board;", true)
def tyX6 : Nat → FieldType := fun k => match k with
  | 0 => .object "FlapBoard$Tape"
  | 1 => .object "FlapBoard$Board"
  | 2 => .object "FlapBoard$Board"
  | 3 => .object "FlapBoard$Motor"
  | 4 => .object "FlapBoard$Program"
  | 5 => .object "FlapBoard$Past"
  | _ => .array (.object "FlapBoard$Board")
theorem nmX6 : ∀ a, a < 7 → ∀ b, b < 7 → a ≠ b → (TX6 a).2.1 ≠ (TX6 b).2.1 := by decide +kernel
theorem tyX6_ok : ∀ k, k < 7 → parseFieldDescriptor (TX6 k).2.2.1 = some (tyX6 k) := by decide +kernel
abbrev cX6_init : ByteArray := prog_1_method_1_code
def yX6_init : MethodName := ⟨RX6, "<init>", "()V"⟩
abbrev cX6_feed : ByteArray := prog_1_method_2_code
def yX6_feed : MethodName := ⟨RX6, "feed", "(IIIII)I"⟩
abbrev cX6_end : ByteArray := prog_1_method_3_code
def yX6_end : MethodName := ⟨RX6, "end", "(I)I"⟩
abbrev cX6_tell : ByteArray := prog_1_method_4_code
def yX6_tell : MethodName := ⟨RX6, "tell", "()I"⟩
abbrev cX6_row : ByteArray := prog_1_method_5_code
def yX6_row : MethodName := ⟨RX6, "row", "(I)I"⟩
abbrev cX6_scroll : ByteArray := prog_1_method_6_code
def yX6_scroll : MethodName := ⟨RX6, "scroll", "()I"⟩
abbrev cX6_tick : ByteArray := prog_1_method_7_code
def yX6_tick : MethodName := ⟨RX6, "tick", "(I)I"⟩
abbrev cX6_settle : ByteArray := prog_1_method_8_code
def yX6_settle : MethodName := ⟨RX6, "settle", "()I"⟩
abbrev cX6_lose : ByteArray := prog_1_method_9_code
def yX6_lose : MethodName := ⟨RX6, "lose", "(II)I"⟩
abbrev cX6_wear : ByteArray := prog_1_method_10_code
def yX6_wear : MethodName := ⟨RX6, "wear", "(II)I"⟩
abbrev cX6_mend : ByteArray := prog_1_method_11_code
def yX6_mend : MethodName := ⟨RX6, "mend", "(II)I"⟩
abbrev cX6_limit : ByteArray := prog_1_method_12_code
def yX6_limit : MethodName := ⟨RX6, "limit", "(I)I"⟩
abbrev cX6_exchange : ByteArray := prog_1_method_13_code
def yX6_exchange : MethodName := ⟨RX6, "exchange", "(III)I"⟩
abbrev cX6_run : ByteArray := prog_1_method_14_code
def yX6_run : MethodName := ⟨RX6, "run", "()I"⟩
abbrev cX6_whyNotProgram : ByteArray := prog_1_method_15_code
def yX6_whyNotProgram : MethodName := ⟨RX6, "whyNotProgram", "()I"⟩
abbrev cX6_doProgram : ByteArray := prog_1_method_16_code
def yX6_doProgram : MethodName := ⟨RX6, "doProgram", "()I"⟩
abbrev cX6_doStep : ByteArray := prog_1_method_17_code
def yX6_doStep : MethodName := ⟨RX6, "doStep", "(I)V"⟩
abbrev cX6_undo : ByteArray := prog_1_method_18_code
def yX6_undo : MethodName := ⟨RX6, "undo", "()I"⟩
abbrev cX6_keep : ByteArray := prog_1_method_19_code
def yX6_keep : MethodName := ⟨RX6, "keep", "(I)I"⟩
abbrev cX6_back : ByteArray := prog_1_method_20_code
def yX6_back : MethodName := ⟨RX6, "back", "(I)I"⟩
abbrev cX6_isShelf : ByteArray := prog_1_method_21_code
def yX6_isShelf : MethodName := ⟨RX6, "isShelf", "(I)Z"⟩
abbrev cX6_shelvesUsed : ByteArray := prog_1_method_22_code
def yX6_shelvesUsed : MethodName := ⟨RX6, "shelvesUsed", "()I"⟩
abbrev cX6_cell : ByteArray := prog_1_method_23_code
def yX6_cell : MethodName := ⟨RX6, "cell", "(II)I"⟩
abbrev cX6_worn : ByteArray := prog_1_method_24_code
def yX6_worn : MethodName := ⟨RX6, "worn", "(I)J"⟩
abbrev cX6_drum : ByteArray := prog_1_method_25_code
def yX6_drum : MethodName := ⟨RX6, "drum", "(II)I"⟩
abbrev cX6_sign : ByteArray := prog_1_method_26_code
def yX6_sign : MethodName := ⟨RX6, "sign", "(II)I"⟩
abbrev cX6_at : ByteArray := prog_1_method_27_code
def yX6_at : MethodName := ⟨RX6, "at", "(III)I"⟩
abbrev cX6_which : ByteArray := prog_1_method_28_code
def yX6_which : MethodName := ⟨RX6, "which", "(I)J"⟩
abbrev cX6_isSuch : ByteArray := prog_1_method_29_code
def yX6_isSuch : MethodName := ⟨RX6, "isSuch", "(II)Z"⟩
abbrev cX6_left : ByteArray := prog_1_method_30_code
def yX6_left : MethodName := ⟨RX6, "left", "(I)I"⟩
abbrev cX6_leastTicks : ByteArray := prog_1_method_31_code
def yX6_leastTicks : MethodName := ⟨RX6, "leastTicks", "()I"⟩
abbrev cX6_when : ByteArray := prog_1_method_32_code
def yX6_when : MethodName := ⟨RX6, "when", "(I)I"⟩
abbrev cX6_loudest : ByteArray := prog_1_method_33_code
def yX6_loudest : MethodName := ⟨RX6, "loudest", "(I)I"⟩
abbrev cX6_tryToSettle : ByteArray := prog_1_method_34_code
def yX6_tryToSettle : MethodName := ⟨RX6, "tryToSettle", "()V"⟩
abbrev cX6_total : ByteArray := prog_1_method_35_code
def yX6_total : MethodName := ⟨RX6, "total", "(I)I"⟩
abbrev cX6_rests : ByteArray := prog_1_method_36_code
def yX6_rests : MethodName := ⟨RX6, "rests", "(I)I"⟩
abbrev cX6_cost : ByteArray := prog_1_method_37_code
def yX6_cost : MethodName := ⟨RX6, "cost", "(I)I"⟩
abbrev cX6_best : ByteArray := prog_1_method_38_code
def yX6_best : MethodName := ⟨RX6, "best", "(II)I"⟩
abbrev cX6_place : ByteArray := prog_1_method_39_code
def yX6_place : MethodName := ⟨RX6, "place", "(II)I"⟩
abbrev cX6_whyNotRow : ByteArray := prog_1_method_40_code
def yX6_whyNotRow : MethodName := ⟨RX6, "whyNotRow", "(I)I"⟩
abbrev cX6_isRowText : ByteArray := prog_1_method_41_code
def yX6_isRowText : MethodName := ⟨RX6, "isRowText", "(II)Z"⟩
abbrev cX6_isSign : ByteArray := prog_1_method_42_code
def yX6_isSign : MethodName := ⟨RX6, "isSign", "(I)Z"⟩
abbrev cX6_log : ByteArray := prog_1_method_43_code
def yX6_log : MethodName := ⟨RX6, "log", "(II)I"⟩
abbrev cX6_often : ByteArray := prog_1_method_44_code
def yX6_often : MethodName := ⟨RX6, "often", "(IIZ)I"⟩
abbrev cX6_usual : ByteArray := prog_1_method_45_code
def yX6_usual : MethodName := ⟨RX6, "usual", "(II)I"⟩
abbrev cX6_better : ByteArray := prog_1_method_46_code
def yX6_better : MethodName := ⟨RX6, "better", "(II)I"⟩
abbrev cX6_farthest : ByteArray := prog_1_method_47_code
def yX6_farthest : MethodName := ⟨RX6, "farthest", "(II)I"⟩
abbrev cX6_lacks : ByteArray := prog_1_method_48_code
def yX6_lacks : MethodName := ⟨RX6, "lacks", "(II)I"⟩
abbrev cX6_unlike : ByteArray := prog_1_method_49_code
def yX6_unlike : MethodName := ⟨RX6, "unlike", "(II)I"⟩
abbrev cX6_letter : ByteArray := prog_1_method_50_code
def yX6_letter : MethodName := ⟨RX6, "letter", "(II)I"⟩
abbrev cX6_digest : ByteArray := prog_1_method_51_code
def yX6_digest : MethodName := ⟨RX6, "digest", "()J"⟩
abbrev cX6_count : ByteArray := prog_1_method_52_code
def yX6_count : MethodName := ⟨RX6, "count", "(I)I"⟩
abbrev cX6_onFrom : ByteArray := prog_1_method_53_code
def yX6_onFrom : MethodName := ⟨RX6, "onFrom", "(III)I"⟩
abbrev cX6_behind : ByteArray := prog_1_method_54_code
def yX6_behind : MethodName := ⟨RX6, "behind", "(II)I"⟩
def RX7 : String := "FlapBoardModel"
def TX7 : u_T := fun k => match k with
  | 0 => ("FlapBoardModel", "now", "[J", true)
  | 1 => ("FlapBoardModel", "was", "[J", true)
  | 2 => ("FlapBoardModel", "undone", "I", false)
  | 3 => ("FlapBoardModel", "kept", "[J", true)
  | 4 => ("FlapBoardModel", "isKept", "[Z", true)
  | 5 => ("FlapBoardModel", "aside", "[J", true)
  | 6 => ("FlapBoardModel", "turning", "J", false)
  | 7 => ("FlapBoardModel", "turnMany", "I", false)
  | 8 => ("FlapBoardModel", "turnCurrent", "I", false)
  | 9 => ("FlapBoardModel", "wanted", "[I", true)
  | 10 => ("FlapBoardModel", "costs", "I", false)
  | 11 => ("FlapBoardModel", "misses", "I", false)
  | 12 => ("FlapBoardModel", "tape", "[B", true)
  | 13 => ("FlapBoardModel", "taped", "I", false)
  | 14 => ("FlapBoardModel", "spot", "I", false)
  | 15 => ("FlapBoardModel", "wrong", "I", false)
  | 16 => ("FlapBoardModel", "number", "I", false)
  | 17 => ("FlapBoardModel", "numberAt", "I", false)
  | 18 => ("FlapBoardModel", "quoted", "I", false)
  | 19 => ("FlapBoardModel", "quotedMany", "I", false)
  | 20 => ("FlapBoardModel", "loseCell", "I", false)
  | 21 => ("FlapBoardModel", "done", "I", false)
  | _ => ("FlapBoardModel", "deep", "I", false)
def tyX7 : Nat → FieldType := fun k => match k with
  | 0 => .array .long
  | 1 => .array .long
  | 2 => .int
  | 3 => .array .long
  | 4 => .array .boolean
  | 5 => .array .long
  | 6 => .long
  | 7 => .int
  | 8 => .int
  | 9 => .array .int
  | 10 => .int
  | 11 => .int
  | 12 => .array .byte
  | 13 => .int
  | 14 => .int
  | 15 => .int
  | 16 => .int
  | 17 => .int
  | 18 => .int
  | 19 => .int
  | 20 => .int
  | 21 => .int
  | _ => .int
theorem nmX7 : ∀ a, a < 23 → ∀ b, b < 23 → a ≠ b → (TX7 a).2.1 ≠ (TX7 b).2.1 := by decide +kernel
theorem tyX7_ok : ∀ k, k < 23 → parseFieldDescriptor (TX7 k).2.2.1 = some (tyX7 k) := by decide +kernel
abbrev cX7_init : ByteArray := prog_9_method_1_code
def yX7_init : MethodName := ⟨RX7, "<init>", "()V"⟩
abbrev cX7_in : ByteArray := prog_9_method_2_code
def yX7_in : MethodName := ⟨RX7, "in", "(JJJ)Z"⟩
abbrev cX7_isIn : ByteArray := prog_9_method_3_code
def yX7_isIn : MethodName := ⟨RX7, "isIn", "(JI)Z"⟩
abbrev cX7_isSign : ByteArray := prog_9_method_4_code
def yX7_isSign : MethodName := ⟨RX7, "isSign", "(I)Z"⟩
abbrev cX7_rows : ByteArray := prog_9_method_5_code
def yX7_rows : MethodName := ⟨RX7, "rows", "()I"⟩
abbrev cX7_wide : ByteArray := prog_9_method_6_code
def yX7_wide : MethodName := ⟨RX7, "wide", "()I"⟩
abbrev cX7_cells : ByteArray := prog_9_method_7_code
def yX7_cells : MethodName := ⟨RX7, "cells", "()I"⟩
abbrev cX7_drums : ByteArray := prog_9_method_8_code
def yX7_drums : MethodName := ⟨RX7, "drums", "()I"⟩
abbrev cX7_isBoard : ByteArray := prog_9_method_9_code
def yX7_isBoard : MethodName := ⟨RX7, "isBoard", "()Z"⟩
abbrev cX7_isCell : ByteArray := prog_9_method_10_code
def yX7_isCell : MethodName := ⟨RX7, "isCell", "(I)Z"⟩
abbrev cX7_isRow : ByteArray := prog_9_method_11_code
def yX7_isRow : MethodName := ⟨RX7, "isRow", "(I)Z"⟩
abbrev cX7_isDrum : ByteArray := prog_9_method_12_code
def yX7_isDrum : MethodName := ⟨RX7, "isDrum", "(I)Z"⟩
abbrev cX7_of : ByteArray := prog_9_method_13_code
def yX7_of : MethodName := ⟨RX7, "of", "(II)I"⟩
abbrev cX7_sets : ByteArray := prog_9_method_14_code
def yX7_sets : MethodName := ⟨RX7, "sets", "(IIJ)V"⟩
abbrev cX7_wornOf : ByteArray := prog_9_method_15_code
def yX7_wornOf : MethodName := ⟨RX7, "wornOf", "(I)J"⟩
abbrev cX7_currentOf : ByteArray := prog_9_method_16_code
def yX7_currentOf : MethodName := ⟨RX7, "currentOf", "(I)I"⟩
abbrev cX7_flapsOf : ByteArray := prog_9_method_17_code
def yX7_flapsOf : MethodName := ⟨RX7, "flapsOf", "(I)I"⟩
abbrev cX7_signOf : ByteArray := prog_9_method_18_code
def yX7_signOf : MethodName := ⟨RX7, "signOf", "(II)I"⟩
abbrev cX7_flaps : ByteArray := prog_9_method_19_code
def yX7_flaps : MethodName := ⟨RX7, "flaps", "(I)I"⟩
abbrev cX7_current : ByteArray := prog_9_method_20_code
def yX7_current : MethodName := ⟨RX7, "current", "(I)I"⟩
abbrev cX7_on : ByteArray := prog_9_method_21_code
def yX7_on : MethodName := ⟨RX7, "on", "(III)I"⟩
abbrev cX7_leftOf : ByteArray := prog_9_method_22_code
def yX7_leftOf : MethodName := ⟨RX7, "leftOf", "(I)I"⟩
abbrev cX7_bits : ByteArray := prog_9_method_23_code
def yX7_bits : MethodName := ⟨RX7, "bits", "(J)I"⟩
abbrev cX7_steps : ByteArray := prog_9_method_24_code
def yX7_steps : MethodName := ⟨RX7, "steps", "(I)V"⟩
abbrev cX7_findsTurning : ByteArray := prog_9_method_25_code
def yX7_findsTurning : MethodName := ⟨RX7, "findsTurning", "()V"⟩
abbrev cX7_ticks : ByteArray := prog_9_method_26_code
def yX7_ticks : MethodName := ⟨RX7, "ticks", "()I"⟩
abbrev cX7_flapFor : ByteArray := prog_9_method_27_code
def yX7_flapFor : MethodName := ⟨RX7, "flapFor", "(II)I"⟩
abbrev cX7_wantsFlap : ByteArray := prog_9_method_28_code
def yX7_wantsFlap : MethodName := ⟨RX7, "wantsFlap", "(IIZ)V"⟩
abbrev cX7_wantsSigns : ByteArray := prog_9_method_29_code
def yX7_wantsSigns : MethodName := ⟨RX7, "wantsSigns", "(IIIZ)I"⟩
abbrev cX7_scrolls : ByteArray := prog_9_method_30_code
def yX7_scrolls : MethodName := ⟨RX7, "scrolls", "(II)I"⟩
abbrev cX7_keepsAct : ByteArray := prog_9_method_31_code
def yX7_keepsAct : MethodName := ⟨RX7, "keepsAct", "()V"⟩
abbrev cX7_areSigns : ByteArray := prog_9_method_32_code
def yX7_areSigns : MethodName := ⟨RX7, "areSigns", "(II)Z"⟩
abbrev cX7_isRowText : ByteArray := prog_9_method_33_code
def yX7_isRowText : MethodName := ⟨RX7, "isRowText", "(I)Z"⟩
abbrev cX7_row : ByteArray := prog_9_method_34_code
def yX7_row : MethodName := ⟨RX7, "row", "(I)I"⟩
abbrev cX7_scroll : ByteArray := prog_9_method_35_code
def yX7_scroll : MethodName := ⟨RX7, "scroll", "()I"⟩
abbrev cX7_tick : ByteArray := prog_9_method_36_code
def yX7_tick : MethodName := ⟨RX7, "tick", "(I)I"⟩
abbrev cX7_settles : ByteArray := prog_9_method_37_code
def yX7_settles : MethodName := ⟨RX7, "settles", "()I"⟩
abbrev cX7_settle : ByteArray := prog_9_method_38_code
def yX7_settle : MethodName := ⟨RX7, "settle", "()I"⟩
abbrev cX7_lose : ByteArray := prog_9_method_39_code
def yX7_lose : MethodName := ⟨RX7, "lose", "(II)I"⟩
abbrev cX7_isFlap : ByteArray := prog_9_method_40_code
def yX7_isFlap : MethodName := ⟨RX7, "isFlap", "(II)Z"⟩
abbrev cX7_wears : ByteArray := prog_9_method_41_code
def yX7_wears : MethodName := ⟨RX7, "wears", "(II)V"⟩
abbrev cX7_wear : ByteArray := prog_9_method_42_code
def yX7_wear : MethodName := ⟨RX7, "wear", "(II)I"⟩
abbrev cX7_mend : ByteArray := prog_9_method_43_code
def yX7_mend : MethodName := ⟨RX7, "mend", "(II)I"⟩
abbrev cX7_limit : ByteArray := prog_9_method_44_code
def yX7_limit : MethodName := ⟨RX7, "limit", "(I)I"⟩
abbrev cX7_exchange : ByteArray := prog_9_method_45_code
def yX7_exchange : MethodName := ⟨RX7, "exchange", "(III)I"⟩
abbrev cX7_undo : ByteArray := prog_9_method_46_code
def yX7_undo : MethodName := ⟨RX7, "undo", "()I"⟩
abbrev cX7_keep : ByteArray := prog_9_method_47_code
def yX7_keep : MethodName := ⟨RX7, "keep", "(I)I"⟩
abbrev cX7_back : ByteArray := prog_9_method_48_code
def yX7_back : MethodName := ⟨RX7, "back", "(I)I"⟩
abbrev cX7_cell : ByteArray := prog_9_method_49_code
def yX7_cell : MethodName := ⟨RX7, "cell", "(II)I"⟩
abbrev cX7_worn : ByteArray := prog_9_method_50_code
def yX7_worn : MethodName := ⟨RX7, "worn", "(I)J"⟩
abbrev cX7_cellsWith : ByteArray := prog_9_method_51_code
def yX7_cellsWith : MethodName := ⟨RX7, "cellsWith", "(I)I"⟩
abbrev cX7_manyWith : ByteArray := prog_9_method_52_code
def yX7_manyWith : MethodName := ⟨RX7, "manyWith", "(II)I"⟩
abbrev cX7_signsOf : ByteArray := prog_9_method_53_code
def yX7_signsOf : MethodName := ⟨RX7, "signsOf", "(IZ)I"⟩
abbrev cX7_drum : ByteArray := prog_9_method_54_code
def yX7_drum : MethodName := ⟨RX7, "drum", "(II)I"⟩
abbrev cX7_sign : ByteArray := prog_9_method_55_code
def yX7_sign : MethodName := ⟨RX7, "sign", "(II)I"⟩
abbrev cX7_signAt : ByteArray := prog_9_method_56_code
def yX7_signAt : MethodName := ⟨RX7, "signAt", "(II)I"⟩
abbrev cX7_at : ByteArray := prog_9_method_57_code
def yX7_at : MethodName := ⟨RX7, "at", "(III)I"⟩
abbrev cX7_isOther : ByteArray := prog_9_method_58_code
def yX7_isOther : MethodName := ⟨RX7, "isOther", "(I)Z"⟩
abbrev cX7_isSuch : ByteArray := prog_9_method_59_code
def yX7_isSuch : MethodName := ⟨RX7, "isSuch", "(II)Z"⟩
abbrev cX7_which : ByteArray := prog_9_method_60_code
def yX7_which : MethodName := ⟨RX7, "which", "(I)J"⟩
abbrev cX7_left : ByteArray := prog_9_method_61_code
def yX7_left : MethodName := ⟨RX7, "left", "(I)I"⟩
abbrev cX7_putsAside : ByteArray := prog_9_method_62_code
def yX7_putsAside : MethodName := ⟨RX7, "putsAside", "()V"⟩
abbrev cX7_takesBack : ByteArray := prog_9_method_63_code
def yX7_takesBack : MethodName := ⟨RX7, "takesBack", "()V"⟩
abbrev cX7_others : ByteArray := prog_9_method_64_code
def yX7_others : MethodName := ⟨RX7, "others", "()I"⟩
abbrev cX7_when : ByteArray := prog_9_method_65_code
def yX7_when : MethodName := ⟨RX7, "when", "(I)I"⟩
abbrev cX7_total : ByteArray := prog_9_method_66_code
def yX7_total : MethodName := ⟨RX7, "total", "(I)I"⟩
abbrev cX7_rests : ByteArray := prog_9_method_67_code
def yX7_rests : MethodName := ⟨RX7, "rests", "(I)I"⟩
abbrev cX7_unlike : ByteArray := prog_9_method_68_code
def yX7_unlike : MethodName := ⟨RX7, "unlike", "(II)I"⟩
abbrev cX7_digest : ByteArray := prog_9_method_69_code
def yX7_digest : MethodName := ⟨RX7, "digest", "()J"⟩
abbrev cX7_letter : ByteArray := prog_9_method_70_code
def yX7_letter : MethodName := ⟨RX7, "letter", "(II)I"⟩
abbrev cX7_count : ByteArray := prog_9_method_71_code
def yX7_count : MethodName := ⟨RX7, "count", "(I)I"⟩
abbrev cX7_asks : ByteArray := prog_9_method_72_code
def yX7_asks : MethodName := ⟨RX7, "asks", "(IIII)V"⟩
abbrev cX7_cost : ByteArray := prog_9_method_73_code
def yX7_cost : MethodName := ⟨RX7, "cost", "(I)I"⟩
abbrev cX7_endOf : ByteArray := prog_9_method_74_code
def yX7_endOf : MethodName := ⟨RX7, "endOf", "(I)I"⟩
abbrev cX7_best : ByteArray := prog_9_method_75_code
def yX7_best : MethodName := ⟨RX7, "best", "(II)I"⟩
abbrev cX7_place : ByteArray := prog_9_method_76_code
def yX7_place : MethodName := ⟨RX7, "place", "(II)I"⟩
abbrev cX7_logged : ByteArray := prog_9_method_77_code
def yX7_logged : MethodName := ⟨RX7, "logged", "(III)I"⟩
abbrev cX7_moved : ByteArray := prog_9_method_78_code
def yX7_moved : MethodName := ⟨RX7, "moved", "(III)I"⟩
abbrev cX7_journey : ByteArray := prog_9_method_79_code
def yX7_journey : MethodName := ⟨RX7, "journey", "(III)I"⟩
abbrev cX7_entries : ByteArray := prog_9_method_80_code
def yX7_entries : MethodName := ⟨RX7, "entries", "(IZ)I"⟩
abbrev cX7_log : ByteArray := prog_9_method_81_code
def yX7_log : MethodName := ⟨RX7, "log", "(II)I"⟩
abbrev cX7_often : ByteArray := prog_9_method_82_code
def yX7_often : MethodName := ⟨RX7, "often", "(IIZ)I"⟩
abbrev cX7_better : ByteArray := prog_9_method_83_code
def yX7_better : MethodName := ⟨RX7, "better", "(II)I"⟩
abbrev cX7_farthest : ByteArray := prog_9_method_84_code
def yX7_farthest : MethodName := ⟨RX7, "farthest", "(II)I"⟩
abbrev cX7_hasElsewhere : ByteArray := prog_9_method_85_code
def yX7_hasElsewhere : MethodName := ⟨RX7, "hasElsewhere", "(II)Z"⟩
abbrev cX7_lacks : ByteArray := prog_9_method_86_code
def yX7_lacks : MethodName := ⟨RX7, "lacks", "(II)I"⟩
abbrev cX7_lays : ByteArray := prog_9_method_87_code
def yX7_lays : MethodName := ⟨RX7, "lays", "(I)V"⟩
abbrev cX7_feed : ByteArray := prog_9_method_88_code
def yX7_feed : MethodName := ⟨RX7, "feed", "(IIIII)I"⟩
abbrev cX7_end : ByteArray := prog_9_method_89_code
def yX7_end : MethodName := ⟨RX7, "end", "(I)I"⟩
abbrev cX7_byteAt : ByteArray := prog_9_method_90_code
def yX7_byteAt : MethodName := ⟨RX7, "byteAt", "(I)I"⟩
abbrev cX7_nextByte : ByteArray := prog_9_method_91_code
def yX7_nextByte : MethodName := ⟨RX7, "nextByte", "()I"⟩
abbrev cX7_fails : ByteArray := prog_9_method_92_code
def yX7_fails : MethodName := ⟨RX7, "fails", "(II)Z"⟩
abbrev cX7_isWord : ByteArray := prog_9_method_93_code
def yX7_isWord : MethodName := ⟨RX7, "isWord", "(Ljava/lang/String;)Z"⟩
abbrev cX7_takesWord : ByteArray := prog_9_method_94_code
def yX7_takesWord : MethodName := ⟨RX7, "takesWord", "(Ljava/lang/String;)Z"⟩
abbrev cX7_mustWord : ByteArray := prog_9_method_95_code
def yX7_mustWord : MethodName := ⟨RX7, "mustWord", "(Ljava/lang/String;)Z"⟩
abbrev cX7_takesByte : ByteArray := prog_9_method_96_code
def yX7_takesByte : MethodName := ⟨RX7, "takesByte", "(I)Z"⟩
abbrev cX7_mustByte : ByteArray := prog_9_method_97_code
def yX7_mustByte : MethodName := ⟨RX7, "mustByte", "(I)Z"⟩
abbrev cX7_readsNumber : ByteArray := prog_9_method_98_code
def yX7_readsNumber : MethodName := ⟨RX7, "readsNumber", "(II)Z"⟩
abbrev cX7_readsQuoted : ByteArray := prog_9_method_99_code
def yX7_readsQuoted : MethodName := ⟨RX7, "readsQuoted", "(II)Z"⟩
abbrev cX7_readsDrum : ByteArray := prog_9_method_100_code
def yX7_readsDrum : MethodName := ⟨RX7, "readsDrum", "()Z"⟩
abbrev cX7_readsCells : ByteArray := prog_9_method_101_code
def yX7_readsCells : MethodName := ⟨RX7, "readsCells", "()Z"⟩
abbrev cX7_readsWorn : ByteArray := prog_9_method_102_code
def yX7_readsWorn : MethodName := ⟨RX7, "readsWorn", "()Z"⟩
abbrev cX7_readsRow : ByteArray := prog_9_method_103_code
def yX7_readsRow : MethodName := ⟨RX7, "readsRow", "()Z"⟩
abbrev cX7_readsLose : ByteArray := prog_9_method_104_code
def yX7_readsLose : MethodName := ⟨RX7, "readsLose", "()Z"⟩
abbrev cX7_readsPart : ByteArray := prog_9_method_105_code
def yX7_readsPart : MethodName := ⟨RX7, "readsPart", "()Z"⟩
abbrev cX7_readsBoard : ByteArray := prog_9_method_106_code
def yX7_readsBoard : MethodName := ⟨RX7, "readsBoard", "()Z"⟩
abbrev cX7_tell : ByteArray := prog_9_method_107_code
def yX7_tell : MethodName := ⟨RX7, "tell", "()I"⟩
abbrev cX7_isDone : ByteArray := prog_9_method_108_code
def yX7_isDone : MethodName := ⟨RX7, "isDone", "(Z)Z"⟩
abbrev cX7_goesRow : ByteArray := prog_9_method_109_code
def yX7_goesRow : MethodName := ⟨RX7, "goesRow", "(Z)Z"⟩
abbrev cX7_goesScroll : ByteArray := prog_9_method_110_code
def yX7_goesScroll : MethodName := ⟨RX7, "goesScroll", "(Z)Z"⟩
abbrev cX7_goesHome : ByteArray := prog_9_method_111_code
def yX7_goesHome : MethodName := ⟨RX7, "goesHome", "(Z)Z"⟩
abbrev cX7_goesWait : ByteArray := prog_9_method_112_code
def yX7_goesWait : MethodName := ⟨RX7, "goesWait", "(Z)Z"⟩
abbrev cX7_goesSettle : ByteArray := prog_9_method_113_code
def yX7_goesSettle : MethodName := ⟨RX7, "goesSettle", "(Z)Z"⟩
abbrev cX7_goesLose : ByteArray := prog_9_method_114_code
def yX7_goesLose : MethodName := ⟨RX7, "goesLose", "(Z)Z"⟩
abbrev cX7_goesTimes : ByteArray := prog_9_method_115_code
def yX7_goesTimes : MethodName := ⟨RX7, "goesTimes", "(Z)Z"⟩
abbrev cX7_goesOne : ByteArray := prog_9_method_116_code
def yX7_goesOne : MethodName := ⟨RX7, "goesOne", "(Z)Z"⟩
abbrev cX7_goesAll : ByteArray := prog_9_method_117_code
def yX7_goesAll : MethodName := ⟨RX7, "goesAll", "(Z)Z"⟩
abbrev cX7_goesProgram : ByteArray := prog_9_method_118_code
def yX7_goesProgram : MethodName := ⟨RX7, "goesProgram", "(Z)Z"⟩
abbrev cX7_run : ByteArray := prog_9_method_119_code
def yX7_run : MethodName := ⟨RX7, "run", "()I"⟩
abbrev cX7_loudest : ByteArray := prog_9_method_120_code
def yX7_loudest : MethodName := ⟨RX7, "loudest", "(I)I"⟩
abbrev cX7_usual : ByteArray := prog_9_method_121_code
def yX7_usual : MethodName := ⟨RX7, "usual", "(II)I"⟩
def RJx145de : String := "java/io/Serializable"
def RJx9f9b0 : String := "java/lang/CharSequence"
def RJxb160c : String := "java/lang/Comparable"
def RJ13 : String := "java/lang/Long"
abbrev cJ13_bitCount_95d88 : ByteArray := prog_10_method_50_code
def yJ13_bitCount_95d88 : MethodName := ⟨RJ13, "bitCount", "(J)I"⟩
def RJ9 : String := "java/lang/Math"
abbrev cJ9_max_7cf53 : ByteArray := prog_11_method_65_code
def yJ9_max_7cf53 : MethodName := ⟨RJ9, "max", "(II)I"⟩
abbrev cJ9_min_7cf53 : ByteArray := prog_11_method_69_code
def yJ9_min_7cf53 : MethodName := ⟨RJ9, "min", "(II)I"⟩
def RJ0 : String := "java/lang/String"
abbrev cJ0_length_8abf5 : ByteArray := prog_12_method_54_code
def yJ0_length_8abf5 : MethodName := ⟨RJ0, "length", "()I"⟩
abbrev cJ0_charAt_5068e : ByteArray := prog_12_method_56_code
def yJ0_charAt_5068e : MethodName := ⟨RJ0, "charAt", "(I)C"⟩
abbrev cJ0_coder_7d493 : ByteArray := prog_12_method_152_code
def yJ0_coder_7d493 : MethodName := ⟨RJ0, "coder", "()B"⟩
abbrev cJ0_isLatin1_aae02 : ByteArray := prog_12_method_154_code
def yJ0_isLatin1_aae02 : MethodName := ⟨RJ0, "isLatin1", "()Z"⟩
abbrev cJ0_checkIndex_df160 : ByteArray := prog_12_method_155_code
def yJ0_checkIndex_df160 : MethodName := ⟨RJ0, "checkIndex", "(II)V"⟩
def RJ1 : String := "java/lang/StringLatin1"
abbrev cJ1_charAt_3b067 : ByteArray := prog_13_method_2_code
def yJ1_charAt_3b067 : MethodName := ⟨RJ1, "charAt", "([BI)C"⟩
def RJ2 : String := "java/lang/StringUTF16"
abbrev cJ2_getChar_3b067 : ByteArray := prog_14_method_5_code
def yJ2_getChar_3b067 : MethodName := ⟨RJ2, "getChar", "([BI)C"⟩
abbrev cJ2_length_9d52b : ByteArray := prog_14_method_6_code
def yJ2_length_9d52b : MethodName := ⟨RJ2, "length", "([B)I"⟩
abbrev cJ2_charAt_3b067 : ByteArray := prog_14_method_83_code
def yJ2_charAt_3b067 : MethodName := ⟨RJ2, "charAt", "([BI)C"⟩
abbrev cJ2_checkIndex_2214a : ByteArray := prog_14_method_91_code
def yJ2_checkIndex_2214a : MethodName := ⟨RJ2, "checkIndex", "(I[B)V"⟩
def RJ10 : String := "java/lang/System"
def RJxfd54e : String := "java/lang/constant/Constable"
def RJx3cf43 : String := "java/lang/constant/ConstantDesc"
def RJ7 : String := "java/util/Arrays"
abbrev cJ7_fill_53178 : ByteArray := prog_16_method_103_code
def yJ7_fill_53178 : MethodName := ⟨RJ7, "fill", "([II)V"⟩
def RJ3 : String := "jdk/internal/util/Preconditions"
abbrev cJ3_checkIndex_8e157 : ByteArray := prog_17_method_11_code
def yJ3_checkIndex_8e157 : MethodName := ⟨RJ3, "checkIndex", "(IILjava/util/function/BiFunction;)I"⟩
def RL : String := "FlapBoardLaw"
abbrev cL_law : ByteArray := code
def yL_law : MethodName := ⟨RL, "law", "([I)Z"⟩
abbrev vwCl : List vw_C := [(RX0, TX0, 18), (RX2, TX2, 12), (RX3, TX3, 3), (RX4, TX4, 10), (RX5, TX5, 7), (RX6, TX6, 7), (RX7, TX7, 23)]
end
section
/-! My own rows: one list of words for every contract, the shape of a contract, calls. -/
def w_all : List Cond := lw_tbl.filter goodWord
theorem w_in {w : Cond} (k : Nat) (h : lw_tbl[k]? = some w) (hg : goodWord w = true) : w ∈ w_all := List.mem_filter.mpr ⟨List.mem_of_getElem? h, hg⟩
theorem w_good {w : Cond} (h : w ∈ w_all) : (w.onTables && w.keeps) = true ∨ ∃ ty, w = .arrayClass ty := good_of_word (List.mem_filter.mp h).2
theorem w_tbl {w : Cond} (h : w ∈ w_all) : w ∈ lw_tbl := (List.mem_filter.mp h).1
theorem w_gin {ws : List Cond} (h : ∀ w ∈ ws, w ∈ w_all) : GoodIn w_all ws := fun w hw => ⟨h w hw, w_good (h w hw)⟩
/-- the words of an instance method, and of a static one -/
def wd_V (y : MethodName) (bytes : ByteArray) (maxL : Nat) (ret : Option FieldType) (n : Nat) : Prop := Cond.instanceMethod y ∈ w_all ∧ Cond.selects y.cls y y ∈ w_all ∧ Cond.initialized y.cls ∈ w_all ∧ Cond.code y bytes maxL ret ∈ w_all ∧ y.cls ≠ "java/lang/invoke/MethodHandle" ∧ y.cls ≠ "java/lang/invoke/VarHandle" ∧ (parseMethodDescriptor y.desc).map (fun d => d.parameters.length) = some n
def wd_S (y : MethodName) (bytes : ByteArray) (maxL : Nat) (ret : Option FieldType) (n : Nat) : Prop := Cond.static y ∈ w_all ∧ Cond.initialized y.cls ∈ w_all ∧ Cond.code y bytes maxL ret ∈ w_all ∧ y.cls ≠ "java/lang/invoke/MethodHandle" ∧ y.cls ≠ "java/lang/invoke/VarHandle" ∧ (parseMethodDescriptor y.desc).map (fun d => d.parameters.length) = some n
def wd_I (y : MethodName) (bytes : ByteArray) (maxL : Nat) (n : Nat) : Prop := Cond.instanceMethod y ∈ w_all ∧ Cond.initialized y.cls ∈ w_all ∧ Cond.code y bytes maxL none ∈ w_all ∧ y.name = "<init>" ∧ y.cls ≠ "java/lang/invoke/MethodHandle" ∧ y.cls ≠ "java/lang/invoke/VarHandle" ∧ (parseMethodDescriptor y.desc).map (fun d => d.parameters.length) = some n
abbrev ty_l (q : Nat → ClassId) : List (ClassId × FieldType) := [(q 0, .int), (q 1, .long), (q 2, .byte), (q 3, .boolean), (q 4, .object "FlapBoard$Board")]
/-- what is known of the tables, whatever the heap -/
def kn (D : va_G) (q : Nat → ClassId) (U : State) : Prop := va_K D vwCl (ty_l q) U ∧ va_AO "FlapBoard$Board" U
theorem kn_moved {D : va_G} {q : Nat → ClassId} {u U : State} (hvm : u.vm.Alike U.vm) (h : kn D q u) : kn D q U := ⟨va_K.moved hvm h.1, va_AO.moved hvm h.2⟩
/-- a contract's start: one that only reads, one that writes -/
def rd_P (D : va_G) (q : Nat → ClassId) (av : List Value) (ws : va_W) : Array Value → State → Prop := va_Pc av (fun U => va_P D vwCl ws U.heap ∧ kn D q U)
def mt_P (D : va_G) (q : Nat → ClassId) (av : List Value) (ws : va_W) (sz : Nat) : Array Value → State → Prop := va_Pc av (fun U => U.heap.size = sz ∧ va_P D vwCl ws U.heap ∧ kn D q U ∧ va_D (fun _ => True) ws)
def mt_B {S : Type} (D : va_G) (ws : va_W) (sz : Nat) (w2 : S → va_W) : S → State → Prop := fun u t => va_P D vwCl (w2 u) t.heap ∧ va_D (va_A ws sz) (w2 u)
theorem rd_blind {D : va_G} {q : Nat → ClassId} {av : List Value} {ws : va_W} : FrameBlind (rd_P D q av ws) := fun a U g mk h => ⟨h.1, h.2.1, kn_moved (u := U) (U := U.calling g mk a) (Vm.Alike.refl U.vm) h.2.2⟩
theorem mt_blind {D : va_G} {q : Nat → ClassId} {av : List Value} {ws : va_W} {sz : Nat} : FrameBlind (mt_P D q av ws sz) := fun a U g mk h => ⟨h.1, h.2.1, h.2.2.1, kn_moved (u := U) (U := U.calling g mk a) (Vm.Alike.refl U.vm) h.2.2.2.1, h.2.2.2.2⟩
theorem rd_start {l : Launch} {y : MethodName} {cc : ByteArray} {maxL : Nat} {ret : Option FieldType} {rm : Room} {D : va_G} {q : Nat → ClassId} {av : List Value} {ws : va_W} {Qc : Array Value → State → Outcome → State → Prop} {free : Addr → Prop} {mc ms : Nat} (hy : plainName y.cls = true) (hav : (lg_sl av).length ≤ maxL)
    (body : ∀ (p : Program) (e : Env) (s : State) (m : MethodId) (below : List Frame) (meth : Method) (c : Code) (ls : Array Slot), p.tables.exec = Jvm.exec → c.code = cc → meth.sig.returnType = ret → c.maxLocals = maxL → s.vm.findClass y.cls = some m.cls → (∀ w ∈ w_all, w.before av.toArray s = true) → meth.locks = false → va_P D vwCl ws s.heap → kn D q s → lv_has ls maxL (lv_args 0 av) → W p l e rm s m av.toArray below meth c s.heap [] 0 0 (MQ below Qc av.toArray s mc ms free) (F0 m 0 ls [])) : Met l y (Cond.code y cc maxL ret :: w_all) rm (rd_P D q av ws) Qc mc ms free := by
  refine Met.ofW (cc := cc) (maxL := maxL) (ret := ret) hy rfl ?_
  intro p e s m args below meth c s₁ B hml hv
  obtain ⟨rfl, hP, hK⟩ := hv
  have hts := atoms_spec (ws := Cond.code y cc maxL ret :: w_all) B.pre
  rw [lg_entry_eq]
  exact body p e s m below meth c _ B.exec B.bytes B.returns hml (findClass_of_methodNamed B.named) (fun w hw => hts w (List.mem_cons_of_mem _ hw)) B.notSynchronized hP hK (lv_entry av hav)
theorem mt_start {l : Launch} {y : MethodName} {cc : ByteArray} {maxL : Nat} {ret : Option FieldType} {rm : Room} {D : va_G} {q : Nat → ClassId} {av : List Value} {ws : va_W} {sz : Nat} {Qc : Array Value → State → Outcome → State → Prop} {free : Addr → Prop} {mc ms : Nat} (hy : plainName y.cls = true) (hav : (lg_sl av).length ≤ maxL)
    (body : ∀ (p : Program) (e : Env) (s : State) (m : MethodId) (below : List Frame) (meth : Method) (c : Code) (ls : Array Slot), p.tables.exec = Jvm.exec → c.code = cc → meth.sig.returnType = ret → c.maxLocals = maxL → s.vm.findClass y.cls = some m.cls → (∀ w ∈ w_all, w.before av.toArray s = true) → meth.locks = false → meth.name = y.name → va_P D vwCl ws s.heap → kn D q s → va_D (va_A ws sz) ws → (∀ x : Nat, s.heap.size ≤ x → va_A ws sz x) → va_S (va_A ws sz) s.heap s.heap [] → lv_has ls maxL (lv_args 0 av) → W p l e rm s m av.toArray below meth c s.heap [] 0 0 (MQ below Qc av.toArray s mc ms free) (F0 m 0 ls [])) : Met l y (Cond.code y cc maxL ret :: w_all) rm (mt_P D q av ws sz) Qc mc ms free := by
  refine Met.ofW (cc := cc) (maxL := maxL) (ret := ret) hy rfl ?_
  intro p e s m args below meth c s₁ B hml hv
  obtain ⟨rfl, hsz, hP, hK, hD⟩ := hv
  have hts := atoms_spec (ws := Cond.code y cc maxL ret :: w_all) B.pre
  rw [lg_entry_eq]
  exact body p e s m below meth c _ B.exec B.bytes B.returns hml (findClass_of_methodNamed B.named) (fun w hw => hts w (List.mem_cons_of_mem _ hw)) B.notSynchronized (name_of_methodNamed B.named B.method).1 hP hK hD.self (fun x h => Or.inr (hsz ▸ h)) va_S.rf (lv_entry av hav)
section BB
variable {p : Program} {l : Launch} {e : Env} {R : Room} {s : State} {m : MethodId} {args : Array Value} {below : List Frame} {meth : Method} {c : Code} {H : Heap} {locs : List Loc} {cells slots : Nat} {Q : State → Prop}
variable {cc : ByteArray} {pc nL : Nat} {ls : Array Slot} {rest st : List Value} {D : va_G} {q : Nat → ClassId} {ws wc : va_W} {A : Nat → Prop} {H0 : Heap}
theorem ab_i {x v : Int32} (h : x = v) (k : W p l e R s m args below meth c H locs cells slots Q (F0 m pc ls (.int v :: rest))) : W p l e R s m args below meth c H locs cells slots Q (F0 m pc ls (.int x :: rest)) := h ▸ k
theorem ab_l {x v : Int64} (h : x = v) (k : W p l e R s m args below meth c H locs cells slots Q (F0 m pc ls (.long v :: rest))) : W p l e R s m args below meth c H locs cells slots Q (F0 m pc ls (.long x :: rest)) := h ▸ k
/-- ends -/
theorem rd_iret {post : Int32 → Prop} {v : Int32} (hx : p.tables.exec = Jvm.exec) (hb : c.code = cc) (hr : meth.sig.returnType = some .int) (hk : meth.locks = false) (hp : post v) (hdg : decode cc pc = .ok (.ireturn, 1)) : W p l e R s m args below meth c s.heap [] 0 0 (MQ below (vp_Si post) args s 0 0 (fun _ => False)) (F0 m pc ls [.int v]) := W.iret hx hb hr (fun _ ht _ => ⟨v, rfl, hp, ht⟩) (fun _ h => by cases h) hdg hk
theorem rd_zret {post : Int32 → Prop} {v : Int32} {ty : FieldType} (hx : p.tables.exec = Jvm.exec) (hb : c.code = cc) (hr : meth.sig.returnType = some ty) (hk : meth.locks = false) (hn : narrow ty (.int v) = .int v) (hp : post v) (hdg : decode cc pc = .ok (.ireturn, 1)) : W p l e R s m args below meth c s.heap [] 0 0 (MQ below (vp_Si post) args s 0 0 (fun _ => False)) (F0 m pc ls [.int v]) := W.zret hx hb hr hn (fun _ ht _ => ⟨v, rfl, hp, ht⟩) (fun _ h => by cases h) hdg hk
theorem rd_lret {post : Int64 → Prop} {v : Int64} (hx : p.tables.exec = Jvm.exec) (hb : c.code = cc) (hr : meth.sig.returnType = some .long) (hk : meth.locks = false) (hp : post v) (hdg : decode cc pc = .ok (.lreturn, 1)) : W p l e R s m args below meth c s.heap [] 0 0 (MQ below (vp_Sl post) args s 0 0 (fun _ => False)) (F0 m pc ls [.long v]) := W.lret hx hb hr (fun _ ht _ => ⟨v, rfl, hp, ht⟩) (fun _ h => by cases h) hdg hk
theorem mt_iret {S : Type} {post : Int32 → S → Prop} {w2 : S → va_W} {sz : Nat} {v : Int32} (u : S) (hx : p.tables.exec = Jvm.exec) (hb : c.code = cc) (hr : meth.sig.returnType = some .int) (hk : meth.locks = false) (hp : post v u) (hP : va_P D vwCl (w2 u) H) (hD : va_D (va_A ws sz) (w2 u)) (hS : va_S (va_A ws sz) s.heap H locs) (hdg : decode cc pc = .ok (.ireturn, 1)) : W p l e R s m args below meth c H locs cells slots (MQ below (va_Qi post (mt_B D ws sz w2) (va_A ws sz)) args s cells slots (va_A ws sz)) (F0 m pc ls [.int v]) := W.iret hx hb hr (fun _ ht _ => ⟨⟨v, u, rfl, hp, by rw [ht]; exact hP, hD⟩, hS.F ht⟩) hS.2.2 hdg hk
theorem mt_zret {S : Type} {post : Int32 → S → Prop} {w2 : S → va_W} {sz : Nat} {v : Int32} {ty : FieldType} (u : S) (hx : p.tables.exec = Jvm.exec) (hb : c.code = cc) (hr : meth.sig.returnType = some ty) (hk : meth.locks = false) (hn : narrow ty (.int v) = .int v) (hp : post v u) (hP : va_P D vwCl (w2 u) H) (hD : va_D (va_A ws sz) (w2 u)) (hS : va_S (va_A ws sz) s.heap H locs) (hdg : decode cc pc = .ok (.ireturn, 1)) : W p l e R s m args below meth c H locs cells slots (MQ below (va_Qi post (mt_B D ws sz w2) (va_A ws sz)) args s cells slots (va_A ws sz)) (F0 m pc ls [.int v]) := W.zret hx hb hr hn (fun _ ht _ => ⟨⟨v, u, rfl, hp, by rw [ht]; exact hP, hD⟩, hS.F ht⟩) hS.2.2 hdg hk
theorem mt_vret {S : Type} {post : S → Prop} {w2 : S → va_W} {sz : Nat} (u : S) (hx : p.tables.exec = Jvm.exec) (hb : c.code = cc) (hr : meth.sig.returnType = none) (hk : meth.locks = false) (hp : post u) (hP : va_P D vwCl (w2 u) H) (hD : va_D (va_A ws sz) (w2 u)) (hS : va_S (va_A ws sz) s.heap H locs) (hdg : decode cc pc = .ok (.return_, 1)) : W p l e R s m args below meth c H locs cells slots (MQ below (va_Qv post (mt_B D ws sz w2) (va_A ws sz)) args s cells slots (va_A ws sz)) (F0 m pc ls []) := W.vret hx hb hr (fun _ ht _ => ⟨⟨u, rfl, hp, by rw [ht]; exact hP, hD⟩, hS.F ht⟩) hS.2.2 hdg hk
/-- a field, by the one list of words -/
theorem fl_get {own C : String} {T : u_T} {N ci index : Nat} (hx : p.tables.exec = Jvm.exec) (hb : c.code = cc) (ht : ∀ w ∈ w_all, w.before args s = true) (hin : ∀ w ∈ u_ws C T N, w ∈ w_all) (hown : s.vm.findClass own = some m.cls) (hK : va_K D vwCl (ty_l q) s) (hP : va_P D vwCl ws H) {a : Nat} (q0 : Nat) {fs : List Value} (he : ws[q0]? = some (a, .inr (ci, fs))) (hc : vwCl[ci]? = some (C, T, N)) (k : Nat) (hk : k < N) (hl : Cond.fieldLink own index (T k).1 (T k).2.1 (T k).2.2.1 ∈ w_all) {v : Value} (hv : fs[k]? = some v) (hdg : decode cc pc = .ok (.getfield index, 3)) (kk : W p l e R s m args below meth c H locs cells slots Q (F0 m (pc + 3) ls (v :: rest))) : W p l e R s m args below meth c H locs cells slots Q (F0 m pc ls (.ref a :: rest)) :=
  va_get hx hb ht hin hown hK hP q0 he hc k hk (ht _ hl) (fun _ h => h) hv hdg kk
theorem fl_put {own C : String} {T : u_T} {N ci index : Nat} (hx : p.tables.exec = Jvm.exec) (hb : c.code = cc) (ht : ∀ w ∈ w_all, w.before args s = true) (hin : ∀ w ∈ u_ws C T N, w ∈ w_all) {ty0 : Nat → FieldType} (hty : ∀ k, k < N → parseFieldDescriptor (T k).2.2.1 = some (ty0 k)) (hnm : ∀ a, a < N → ∀ b, b < N → a ≠ b → (T a).2.1 ≠ (T b).2.1) (hown : s.vm.findClass own = some m.cls) (hK : va_K D vwCl (ty_l q) s) (hP : va_P D vwCl ws H) (hD : va_D A ws) (hS0 : va_S A H0 H locs) {a : Nat} (q0 : Nat) {fs : List Value} (he : ws[q0]? = some (a, .inr (ci, fs))) (hc : vwCl[ci]? = some (C, T, N)) (k : Nat) (hk : k < N) (hl : Cond.fieldLink own index (T k).1 (T k).2.1 (T k).2.2.1 ∈ w_all) (hfin : (T k).2.2.2 = false) {v : Value} (hn : narrow (ty0 k) v = v) (hfit : fits (ty0 k) v = true) (hlk : k < fs.length) (hdg : decode cc pc = .ok (.putfield index, 3)) {ws2 : va_W} (hw2 : ws.set q0 (a, .inr (ci, fs.set k v)) = ws2)
    (kk : ∀ (H1 : Heap) (locs1 : List Loc), va_P D vwCl ws2 H1 → va_D A ws2 → va_S A H0 H1 locs1 → W p l e R s m args below meth c H1 locs1 cells slots Q (F0 m (pc + 3) ls rest)) : W p l e R s m args below meth c H locs cells slots Q (F0 m pc ls (v :: .ref a :: rest)) := by
  subst hw2
  exact va_put hx hb ht hin ty0 hty hnm hown hK hP hD hS0 q0 he hc k hk (ht _ hl) (fun _ h => h) hfin (hty k hk) hn hfit hlk hdg kk
theorem fl_putF {own C : String} {T : u_T} {N ci index : Nat} (hx : p.tables.exec = Jvm.exec) (hb : c.code = cc) (ht : ∀ w ∈ w_all, w.before args s = true) (hin : ∀ w ∈ u_ws C T N, w ∈ w_all) {ty0 : Nat → FieldType} (hty : ∀ k, k < N → parseFieldDescriptor (T k).2.2.1 = some (ty0 k)) (hnm : ∀ a, a < N → ∀ b, b < N → a ≠ b → (T a).2.1 ≠ (T b).2.1) (hown : s.vm.findClass own = some m.cls) (hK : va_K D vwCl (ty_l q) s) (hP : va_P D vwCl ws H) (hD : va_D A ws) (hS0 : va_S A H0 H locs) {a : Nat} (q0 : Nat) {fs : List Value} (he : ws[q0]? = some (a, .inr (ci, fs))) (hc : vwCl[ci]? = some (C, T, N)) (k : Nat) (hk : k < N) (hl : Cond.fieldLink own index (T k).1 (T k).2.1 (T k).2.2.1 ∈ w_all) (hfin : (T k).2.2.2 = true) (hin2 : meth.name = "<init>") (hdecl : (T k).1 = own) {v : Value} (hn : narrow (ty0 k) v = v) (hfit : fits (ty0 k) v = true) (hlk : k < fs.length) (hdg : decode cc pc = .ok (.putfield index, 3)) {ws2 : va_W} (hw2 : ws.set q0 (a, .inr (ci, fs.set k v)) = ws2)
    (kk : ∀ (H1 : Heap) (locs1 : List Loc), va_P D vwCl ws2 H1 → va_D A ws2 → va_S A H0 H1 locs1 → W p l e R s m args below meth c H1 locs1 cells slots Q (F0 m (pc + 3) ls rest)) : W p l e R s m args below meth c H locs cells slots Q (F0 m pc ls (v :: .ref a :: rest)) := by
  subst hw2
  exact va_putF hx hb ht hin ty0 hty hnm hown hK hP hD hS0 q0 he hc k hk (ht _ hl) (fun _ h => h) hfin hin2 hdecl (hty k hk) hn hfit hlk hdg kk
/-- a call of a method that only reads, at a world of its own among ours -/
theorem rd_wV {y : MethodName} {bytes : ByteArray} {maxL n : Nat} {ret : Option FieldType} {rm : Room} {own : String} {index : Nat} {As : List Value} {b : Nat} {ci : Nat} {fs : List Value} {T : u_T} {N : Nat} {Qc : Array Value → State → Outcome → State → Prop}
    (hx : p.tables.exec = Jvm.exec) (hb : c.code = cc) (hml : c.maxLocals = nL) (hown : s.vm.findClass own = some m.cls) (ht : ∀ w ∈ w_all, w.before args s = true) (hM : Met l y (Cond.code y bytes maxL ret :: w_all) rm (rd_P D q (.ref b :: As) wc) Qc 0 0 (fun _ => False)) (wy : wd_V y bytes maxL ret n) (hl : Cond.methodLink own index y ∈ w_all) (hQ : kn D q s) (hP : va_P D vwCl wc H) (he : wc[0]? = some (b, .inr (ci, fs))) (hc : vwCl[ci]? = some (y.cls, T, N)) (hn : As.length = n) (hz : ls.size = nL) (hst : st = As.reverse ++ .ref b :: rest) (hW : (rest.map fun v => v.category).sum ≤ 8) (hdg : decode cc pc = .ok (.invokevirtual index, 3)) (hR : rm.frames + 1 ≤ R.frames ∧ 8 + (maxL + 11) + rm.locals ≤ R.locals ∧ rm.cells = 0 ∧ rm.slots = 0) (hcs : cells ≤ R.cells ∧ slots ≤ R.slots) :
    CallRun p l e R s m args below meth c H locs cells slots 0 0 (F0 m pc ls st) rest (Qc (Value.ref b :: As).toArray) (fun _ => False) := by
  obtain ⟨w1, w2, w3, w4, w5, w6, w7⟩ := wy
  have hG : GoodIn w_all (Cond.code y bytes maxL ret :: w_all) := w_gin (fun w h => (List.mem_cons.mp h).elim (fun e => e ▸ w4) id)
  exact W.runV ⟨hx, hb, hml, hown, ht⟩ hM ⟨callB_of n ht hG rfl hR.2.2.1 hR.2.2.2 (ht _ w3) (ht _ hl) ⟨w5, w6, w7⟩ ⟨hR.1, hR.2.1⟩, ht _ w1, ht _ w2⟩ ⟨rd_blind, va_recv hQ.1 hP hc he, fun U hU hW => ⟨rfl, by rw [hU]; exact hP, kn_moved hW.alike hQ⟩⟩ rfl hn hz hst (lv_room hW) hdg ⟨hcs.1, hcs.2⟩
theorem rd_wS {y : MethodName} {bytes : ByteArray} {maxL n : Nat} {ret : Option FieldType} {rm : Room} {own : String} {index : Nat} {As : List Value} {Qc : Array Value → State → Outcome → State → Prop}
    (hx : p.tables.exec = Jvm.exec) (hb : c.code = cc) (hml : c.maxLocals = nL) (hown : s.vm.findClass own = some m.cls) (ht : ∀ w ∈ w_all, w.before args s = true) (hM : Met l y (Cond.code y bytes maxL ret :: w_all) rm (rd_P D q As wc) Qc 0 0 (fun _ => False)) (wy : wd_S y bytes maxL ret n) (hl : Cond.methodLink own index y ∈ w_all) (hQ : kn D q s) (hP : va_P D vwCl wc H) (hn : As.length = n) (hz : ls.size = nL) (hst : st = As.reverse ++ rest) (hW : (rest.map fun v => v.category).sum ≤ 8) (hdg : decode cc pc = .ok (.invokestatic index, 3)) (hR : rm.frames + 1 ≤ R.frames ∧ 8 + (maxL + 11) + rm.locals ≤ R.locals ∧ rm.cells = 0 ∧ rm.slots = 0) (hcs : cells ≤ R.cells ∧ slots ≤ R.slots) :
    CallRun p l e R s m args below meth c H locs cells slots 0 0 (F0 m pc ls st) rest (Qc As.toArray) (fun _ => False) := by
  obtain ⟨w1, w3, w4, w5, w6, w7⟩ := wy
  have hG : GoodIn w_all (Cond.code y bytes maxL ret :: w_all) := w_gin (fun w h => (List.mem_cons.mp h).elim (fun e => e ▸ w4) id)
  exact W.runS ⟨hx, hb, hml, hown, ht⟩ hM ⟨callB_of n ht hG rfl hR.2.2.1 hR.2.2.2 (ht _ w3) (ht _ hl) ⟨w5, w6, w7⟩ ⟨hR.1, hR.2.1⟩, ht _ w1⟩ ⟨rd_blind, fun U hU hW => ⟨rfl, by rw [hU]; exact hP, kn_moved hW.alike hQ⟩⟩ rfl hn hz hst (lv_room hW) hdg ⟨hcs.1, hcs.2⟩
/-- a call of a method that writes -/
theorem mt_wV {y : MethodName} {bytes : ByteArray} {maxL n mc ms : Nat} {ret : Option FieldType} {rm : Room} {own : String} {index : Nat} {As : List Value} {b : Nat} {ci : Nat} {fs : List Value} {T : u_T} {N : Nat} {Qc : Array Value → State → Outcome → State → Prop} {free : Addr → Prop}
    (hx : p.tables.exec = Jvm.exec) (hb : c.code = cc) (hml : c.maxLocals = nL) (hown : s.vm.findClass own = some m.cls) (ht : ∀ w ∈ w_all, w.before args s = true) (hM : Met l y (Cond.code y bytes maxL ret :: w_all) rm (mt_P D q (.ref b :: As) wc H.size) Qc mc ms free) (wy : wd_V y bytes maxL ret n) (hl : Cond.methodLink own index y ∈ w_all) (hQ : kn D q s) (hP : va_P D vwCl wc H) (hD : va_D A wc) (he : wc[0]? = some (b, .inr (ci, fs))) (hc : vwCl[ci]? = some (y.cls, T, N)) (hn : As.length = n) (hz : ls.size = nL) (hst : st = As.reverse ++ .ref b :: rest) (hW : (rest.map fun v => v.category).sum ≤ 8) (hdg : decode cc pc = .ok (.invokevirtual index, 3)) (hR : rm.frames + 1 ≤ R.frames ∧ 8 + (maxL + 11) + rm.locals ≤ R.locals ∧ rm.cells = mc ∧ rm.slots = ms) (hcs : cells + mc ≤ R.cells ∧ slots + ms ≤ R.slots) :
    va_Run p l e R s m args below meth c H locs cells slots mc ms (F0 m pc ls st) rest (Qc (Value.ref b :: As).toArray) free := by
  obtain ⟨w1, w2, w3, w4, w5, w6, w7⟩ := wy
  have hG : GoodIn w_all (Cond.code y bytes maxL ret :: w_all) := w_gin (fun w h => (List.mem_cons.mp h).elim (fun e => e ▸ w4) id)
  exact va_runV ⟨hx, hb, hml, hown, ht⟩ hM ⟨callB_of n ht hG rfl hR.2.2.1 hR.2.2.2 (ht _ w3) (ht _ hl) ⟨w5, w6, w7⟩ ⟨hR.1, hR.2.1⟩, ht _ w1, ht _ w2⟩ ⟨mt_blind, va_recv hQ.1 hP hc he, fun U hU hW => ⟨rfl, by rw [hU], by rw [hU]; exact hP, kn_moved hW.alike hQ, hD.weaken (fun _ _ _ _ => trivial)⟩⟩ rfl hn hz hst (lv_room hW) hdg hcs
theorem mt_wS {y : MethodName} {bytes : ByteArray} {maxL n mc ms : Nat} {ret : Option FieldType} {rm : Room} {own : String} {index : Nat} {As : List Value} {Qc : Array Value → State → Outcome → State → Prop} {free : Addr → Prop}
    (hx : p.tables.exec = Jvm.exec) (hb : c.code = cc) (hml : c.maxLocals = nL) (hown : s.vm.findClass own = some m.cls) (ht : ∀ w ∈ w_all, w.before args s = true) (hM : Met l y (Cond.code y bytes maxL ret :: w_all) rm (mt_P D q As wc H.size) Qc mc ms free) (wy : wd_S y bytes maxL ret n) (hl : Cond.methodLink own index y ∈ w_all) (hQ : kn D q s) (hP : va_P D vwCl wc H) (hD : va_D A wc) (hn : As.length = n) (hz : ls.size = nL) (hst : st = As.reverse ++ rest) (hW : (rest.map fun v => v.category).sum ≤ 8) (hdg : decode cc pc = .ok (.invokestatic index, 3)) (hR : rm.frames + 1 ≤ R.frames ∧ 8 + (maxL + 11) + rm.locals ≤ R.locals ∧ rm.cells = mc ∧ rm.slots = ms) (hcs : cells + mc ≤ R.cells ∧ slots + ms ≤ R.slots) :
    va_Run p l e R s m args below meth c H locs cells slots mc ms (F0 m pc ls st) rest (Qc As.toArray) free := by
  obtain ⟨w1, w3, w4, w5, w6, w7⟩ := wy
  have hG : GoodIn w_all (Cond.code y bytes maxL ret :: w_all) := w_gin (fun w h => (List.mem_cons.mp h).elim (fun e => e ▸ w4) id)
  exact va_runS ⟨hx, hb, hml, hown, ht⟩ hM ⟨callB_of n ht hG rfl hR.2.2.1 hR.2.2.2 (ht _ w3) (ht _ hl) ⟨w5, w6, w7⟩ ⟨hR.1, hR.2.1⟩, ht _ w1⟩ ⟨mt_blind, fun U hU hW => ⟨rfl, by rw [hU], by rw [hU]; exact hP, kn_moved hW.alike hQ, hD.weaken (fun _ _ _ _ => trivial)⟩⟩ rfl hn hz hst (lv_room hW) hdg hcs
theorem mt_wI {y : MethodName} {bytes : ByteArray} {maxL n mc ms : Nat} {rm : Room} {own : String} {index : Nat} {As : List Value} {b : Nat} {Qc : Array Value → State → Outcome → State → Prop} {free : Addr → Prop}
    (hx : p.tables.exec = Jvm.exec) (hb : c.code = cc) (hml : c.maxLocals = nL) (hown : s.vm.findClass own = some m.cls) (ht : ∀ w ∈ w_all, w.before args s = true) (hM : Met l y (Cond.code y bytes maxL none :: w_all) rm (mt_P D q (.ref b :: As) wc H.size) Qc mc ms free) (wy : wd_I y bytes maxL n) (hl : Cond.methodLink own index y ∈ w_all) (hQ : kn D q s) (hP : va_P D vwCl wc H) (hD : va_D A wc) (hn : As.length = n) (hz : ls.size = nL) (hst : st = As.reverse ++ .ref b :: rest) (hW : (rest.map fun v => v.category).sum ≤ 8) (hdg : decode cc pc = .ok (.invokespecial index, 3)) (hR : rm.frames + 1 ≤ R.frames ∧ 8 + (maxL + 11) + rm.locals ≤ R.locals ∧ rm.cells = mc ∧ rm.slots = ms) (hcs : cells + mc ≤ R.cells ∧ slots + ms ≤ R.slots) :
    va_Run p l e R s m args below meth c H locs cells slots mc ms (F0 m pc ls st) rest (Qc (Value.ref b :: As).toArray) free := by
  obtain ⟨w1, w3, w4, w4b, w5, w6, w7⟩ := wy
  have hG : GoodIn w_all (Cond.code y bytes maxL none :: w_all) := w_gin (fun w h => (List.mem_cons.mp h).elim (fun e => e ▸ w4) id)
  exact va_runI ⟨hx, hb, hml, hown, ht⟩ hM ⟨callB_of n ht hG rfl hR.2.2.1 hR.2.2.2 (ht _ w3) (ht _ hl) ⟨w5, w6, w7⟩ ⟨hR.1, hR.2.1⟩, w4b, ht _ w1⟩ ⟨mt_blind, fun U hU hW => ⟨rfl, by rw [hU], by rw [hU]; exact hP, kn_moved hW.alike hQ, hD.weaken (fun _ _ _ _ => trivial)⟩⟩ rfl hn hz hst (lv_room hW) hdg hcs
/-- behind such a call: the rest of our world beside what the method left -/
theorem mt_goi {S : Type} {post : Int32 → S → Prop} {w2 : S → va_W} {wr : va_W} {mc ms : Nat} {av : Array Value} (hr : va_Run p l e R s m args below meth c H locs cells slots mc ms (F0 m pc ls st) rest (va_Qi post (mt_B D wc H.size w2) (va_A wc H.size) av) (va_A wc H.size)) (hP : va_P D vwCl ws H) (hD : va_D A ws) (hS : va_S A H0 H locs) (hA : ∀ x : Nat, H0.size ≤ x → A x) (isC isR : List Nat) (hC : isC.map (fun i => ws[i]?) = wc.map some) (hR : isR.map (fun i => ws[i]?) = wr.map some) (hn : va_nd isR = true) (hdis : ∀ i ∈ isR, i ∉ isC)
    (kk : ∀ (r : Int32) (u : S) (H1 : Heap) (locs1 : List Loc), post r u → va_P D vwCl (wr ++ w2 u) H1 → va_D A (wr ++ w2 u) → va_S A H0 H1 locs1 → W p l e R s m args below meth c H1 locs1 (cells + mc) (slots + ms) Q (F0 m (pc + 3) ls (.int r :: rest))) : W p l e R s m args below meth c H locs cells slots Q (F0 m pc ls st) := by
  have hF := va_free (wc := wc) hD hS hA isC hC
  refine va_calli hr hS (fun x _ h => hF x h) hF (fun r u t H1 locs1 ht hvm hw hB hz1 hk1 hS1 => ?_)
  obtain ⟨hP1, hD1⟩ := hB
  rw [ht] at hP1
  obtain ⟨hP2, hD2⟩ := va_join hP hD isC isR hC hR hn hdis hk1 hF hP1 hD1
  exact kk r u H1 locs1 hw hP2 hD2 hS1
theorem mt_gov {S : Type} {post : S → Prop} {w2 : S → va_W} {wr : va_W} {mc ms : Nat} {av : Array Value} (hr : va_Run p l e R s m args below meth c H locs cells slots mc ms (F0 m pc ls st) rest (va_Qv post (mt_B D wc H.size w2) (va_A wc H.size) av) (va_A wc H.size)) (hP : va_P D vwCl ws H) (hD : va_D A ws) (hS : va_S A H0 H locs) (hA : ∀ x : Nat, H0.size ≤ x → A x) (isC isR : List Nat) (hC : isC.map (fun i => ws[i]?) = wc.map some) (hR : isR.map (fun i => ws[i]?) = wr.map some) (hn : va_nd isR = true) (hdis : ∀ i ∈ isR, i ∉ isC)
    (kk : ∀ (u : S) (H1 : Heap) (locs1 : List Loc), post u → va_P D vwCl (wr ++ w2 u) H1 → va_D A (wr ++ w2 u) → va_S A H0 H1 locs1 → W p l e R s m args below meth c H1 locs1 (cells + mc) (slots + ms) Q (F0 m (pc + 3) ls rest)) : W p l e R s m args below meth c H locs cells slots Q (F0 m pc ls st) := by
  have hF := va_free (wc := wc) hD hS hA isC hC
  refine va_callv hr hS (fun x _ h => hF x h) hF (fun u t H1 locs1 ht hvm hw hB hz1 hk1 hS1 => ?_)
  obtain ⟨hP1, hD1⟩ := hB
  rw [ht] at hP1
  obtain ⟨hP2, hD2⟩ := va_join hP hD isC isR hC hR hn hdis hk1 hF hP1 hD1
  exact kk u H1 locs1 hw hP2 hD2 hS1
/-- new rows of whole numbers: their class is the known one -/
theorem nw_i {n : Int32} {N : Nat} (hx : p.tables.exec = Jvm.exec) (hb : c.code = cc) (ht : ∀ w ∈ w_all, w.before args s = true) (hw : Cond.arrayClass .int ∈ w_all) (hK : va_K D vwCl (ty_l q) s) (hP : va_P D vwCl ws H) (hD : va_D A ws) (hS : va_S A H0 H locs) (hA : ∀ x, H0.size ≤ x → A x) (hn : ¬ n < 0) (hN : n.toNatClampNeg = N) (hbytes : N * componentBytes .int ≤ 536870912) (hcs : cells + 1 ≤ R.cells ∧ slots + N ≤ R.slots) (hdg : decode cc pc = .ok (.newarray .int, 2))
    (kk : ∀ (a : Nat) (H1 : Heap), va_P D vwCl (ws ++ [(a, .inl (q 0, N, .inl (fun _ => 0)))]) H1 → va_D A (ws ++ [(a, .inl (q 0, N, .inl (fun _ => 0)))]) → va_S A H0 H1 locs → W p l e R s m args below meth c H1 locs (cells + 1) (slots + N) Q (F0 m (pc + 2) ls (.ref a :: rest))) : W p l e R s m args below meth c H locs cells slots Q (F0 m pc ls (.int n :: rest)) := by
  refine va_newa (atype := .int) (ty := .int) (a0 := (N, .inl (fun _ => 0))) hx hb (ht _ hw) rfl hK hP hD hS hA (fun _ => rfl) hn hN hbytes hcs.1 hcs.2 hdg (fun a cA H1 hK1 hP1 hD1 hS1 => ?_)
  have h1 : s.vm.findClass ("[" ++ FieldType.int.toString) = some cA := (hK1.2 5 (cA, .int) rfl).2
  have h2 : s.vm.findClass ("[" ++ FieldType.int.toString) = some (q 0) := (hK.2 0 (q 0, .int) rfl).2
  have h3 : cA = q 0 := Option.some.inj (h1.symm.trans h2)
  subst h3
  exact kk a H1 hP1 hD1 hS1
theorem nw_l {n : Int32} {N : Nat} (hx : p.tables.exec = Jvm.exec) (hb : c.code = cc) (ht : ∀ w ∈ w_all, w.before args s = true) (hw : Cond.arrayClass .long ∈ w_all) (hK : va_K D vwCl (ty_l q) s) (hP : va_P D vwCl ws H) (hD : va_D A ws) (hS : va_S A H0 H locs) (hA : ∀ x, H0.size ≤ x → A x) (hn : ¬ n < 0) (hN : n.toNatClampNeg = N) (hbytes : N * componentBytes .long ≤ 536870912) (hcs : cells + 1 ≤ R.cells ∧ slots + N ≤ R.slots) (hdg : decode cc pc = .ok (.newarray .long, 2))
    (kk : ∀ (a : Nat) (H1 : Heap), va_P D vwCl (ws ++ [(a, .inl (q 1, N, .inr (.inl (fun _ => 0))))]) H1 → va_D A (ws ++ [(a, .inl (q 1, N, .inr (.inl (fun _ => 0))))]) → va_S A H0 H1 locs → W p l e R s m args below meth c H1 locs (cells + 1) (slots + N) Q (F0 m (pc + 2) ls (.ref a :: rest))) : W p l e R s m args below meth c H locs cells slots Q (F0 m pc ls (.int n :: rest)) := by
  refine va_newa (atype := .long) (ty := .long) (a0 := (N, .inr (.inl (fun _ => 0)))) hx hb (ht _ hw) rfl hK hP hD hS hA (fun _ => rfl) hn hN hbytes hcs.1 hcs.2 hdg (fun a cA H1 hK1 hP1 hD1 hS1 => ?_)
  have h1 : s.vm.findClass ("[" ++ FieldType.long.toString) = some cA := (hK1.2 5 (cA, .long) rfl).2
  have h2 : s.vm.findClass ("[" ++ FieldType.long.toString) = some (q 1) := (hK.2 1 (q 1, .long) rfl).2
  have h3 : cA = q 1 := Option.some.inj (h1.symm.trans h2)
  subst h3
  exact kk a H1 hP1 hD1 hS1
theorem nw_b {n : Int32} {N : Nat} (hx : p.tables.exec = Jvm.exec) (hb : c.code = cc) (ht : ∀ w ∈ w_all, w.before args s = true) (hw : Cond.arrayClass .byte ∈ w_all) (hK : va_K D vwCl (ty_l q) s) (hP : va_P D vwCl ws H) (hD : va_D A ws) (hS : va_S A H0 H locs) (hA : ∀ x, H0.size ≤ x → A x) (hn : ¬ n < 0) (hN : n.toNatClampNeg = N) (hbytes : N * componentBytes .byte ≤ 536870912) (hcs : cells + 1 ≤ R.cells ∧ slots + N ≤ R.slots) (hdg : decode cc pc = .ok (.newarray .byte, 2))
    (kk : ∀ (a : Nat) (H1 : Heap), va_P D vwCl (ws ++ [(a, .inl (q 2, N, .inl (fun _ => 0)))]) H1 → va_D A (ws ++ [(a, .inl (q 2, N, .inl (fun _ => 0)))]) → va_S A H0 H1 locs → W p l e R s m args below meth c H1 locs (cells + 1) (slots + N) Q (F0 m (pc + 2) ls (.ref a :: rest))) : W p l e R s m args below meth c H locs cells slots Q (F0 m pc ls (.int n :: rest)) := by
  refine va_newa (atype := .byte) (ty := .byte) (a0 := (N, .inl (fun _ => 0))) hx hb (ht _ hw) rfl hK hP hD hS hA (fun _ => rfl) hn hN hbytes hcs.1 hcs.2 hdg (fun a cA H1 hK1 hP1 hD1 hS1 => ?_)
  have h1 : s.vm.findClass ("[" ++ FieldType.byte.toString) = some cA := (hK1.2 5 (cA, .byte) rfl).2
  have h2 : s.vm.findClass ("[" ++ FieldType.byte.toString) = some (q 2) := (hK.2 2 (q 2, .byte) rfl).2
  have h3 : cA = q 2 := Option.some.inj (h1.symm.trans h2)
  subst h3
  exact kk a H1 hP1 hD1 hS1
theorem nw_z {n : Int32} {N : Nat} (hx : p.tables.exec = Jvm.exec) (hb : c.code = cc) (ht : ∀ w ∈ w_all, w.before args s = true) (hw : Cond.arrayClass .boolean ∈ w_all) (hK : va_K D vwCl (ty_l q) s) (hP : va_P D vwCl ws H) (hD : va_D A ws) (hS : va_S A H0 H locs) (hA : ∀ x, H0.size ≤ x → A x) (hn : ¬ n < 0) (hN : n.toNatClampNeg = N) (hbytes : N * componentBytes .boolean ≤ 536870912) (hcs : cells + 1 ≤ R.cells ∧ slots + N ≤ R.slots) (hdg : decode cc pc = .ok (.newarray .boolean, 2))
    (kk : ∀ (a : Nat) (H1 : Heap), va_P D vwCl (ws ++ [(a, .inl (q 3, N, .inl (fun _ => 0)))]) H1 → va_D A (ws ++ [(a, .inl (q 3, N, .inl (fun _ => 0)))]) → va_S A H0 H1 locs → W p l e R s m args below meth c H1 locs (cells + 1) (slots + N) Q (F0 m (pc + 2) ls (.ref a :: rest))) : W p l e R s m args below meth c H locs cells slots Q (F0 m pc ls (.int n :: rest)) := by
  refine va_newa (atype := .boolean) (ty := .boolean) (a0 := (N, .inl (fun _ => 0))) hx hb (ht _ hw) rfl hK hP hD hS hA (fun _ => rfl) hn hN hbytes hcs.1 hcs.2 hdg (fun a cA H1 hK1 hP1 hD1 hS1 => ?_)
  have h1 : s.vm.findClass ("[" ++ FieldType.boolean.toString) = some cA := (hK1.2 5 (cA, .boolean) rfl).2
  have h2 : s.vm.findClass ("[" ++ FieldType.boolean.toString) = some (q 3) := (hK.2 3 (q 3, .boolean) rfl).2
  have h3 : cA = q 3 := Option.some.inj (h1.symm.trans h2)
  subst h3
  exact kk a H1 hP1 hD1 hS1
theorem ab_null (k : W p l e R s m args below meth c H locs cells slots Q (F0 m pc ls (.null :: rest))) : W p l e R s m args below meth c H locs cells slots Q (F0 m pc ls (va_rf none :: rest)) := k
theorem mt_lret {S : Type} {post : Int64 → S → Prop} {w2 : S → va_W} {sz : Nat} {v : Int64} (u : S) (hx : p.tables.exec = Jvm.exec) (hb : c.code = cc) (hr : meth.sig.returnType = some .long) (hk : meth.locks = false) (hp : post v u) (hP : va_P D vwCl (w2 u) H) (hD : va_D (va_A ws sz) (w2 u)) (hS : va_S (va_A ws sz) s.heap H locs) (hdg : decode cc pc = .ok (.lreturn, 1)) : W p l e R s m args below meth c H locs cells slots (MQ below (va_Ql post (mt_B D ws sz w2) (va_A ws sz)) args s cells slots (va_A ws sz)) (F0 m pc ls [.long v]) := W.lret hx hb hr (fun _ ht _ => ⟨⟨v, u, rfl, hp, by rw [ht]; exact hP, hD⟩, hS.F ht⟩) hS.2.2 hdg hk
theorem mt_gol {S : Type} {post : Int64 → S → Prop} {w2 : S → va_W} {wr : va_W} {mc ms : Nat} {av : Array Value} (hr : va_Run p l e R s m args below meth c H locs cells slots mc ms (F0 m pc ls st) rest (va_Ql post (mt_B D wc H.size w2) (va_A wc H.size) av) (va_A wc H.size)) (hP : va_P D vwCl ws H) (hD : va_D A ws) (hS : va_S A H0 H locs) (hA : ∀ x : Nat, H0.size ≤ x → A x) (isC isR : List Nat) (hC : isC.map (fun i => ws[i]?) = wc.map some) (hR : isR.map (fun i => ws[i]?) = wr.map some) (hn : va_nd isR = true) (hdis : ∀ i ∈ isR, i ∉ isC)
    (kk : ∀ (r : Int64) (u : S) (H1 : Heap) (locs1 : List Loc), post r u → va_P D vwCl (wr ++ w2 u) H1 → va_D A (wr ++ w2 u) → va_S A H0 H1 locs1 → W p l e R s m args below meth c H1 locs1 (cells + mc) (slots + ms) Q (F0 m (pc + 3) ls (.long r :: rest))) : W p l e R s m args below meth c H locs cells slots Q (F0 m pc ls st) := by
  have hF := va_free (wc := wc) hD hS hA isC hC
  refine va_calll hr hS (fun x _ h => hF x h) hF (fun r u t H1 locs1 ht hvm hw hB hz1 hk1 hS1 => ?_)
  obtain ⟨hP1, hD1⟩ := hB
  rw [ht] at hP1
  obtain ⟨hP2, hD2⟩ := va_join hP hD isC isR hC hR hn hdis hk1 hF hP1 hD1
  exact kk r u H1 locs1 hw hP2 hD2 hS1
end BB
theorem upd_0 (i : Nat) : upd (fun _ => (0 : Int32)) i 0 = fun _ => 0 := by
  funext j
  simp [upd]
theorem vp_updL_0 (i : Nat) : vp_updL (fun _ => (0 : Int64)) i 0 = fun _ => 0 := by
  funext j
  simp [vp_updL]
theorem in_X0 : ∀ w ∈ u_ws RX0 TX0 18, w ∈ w_all := by decide +kernel
theorem in_X2 : ∀ w ∈ u_ws RX2 TX2 12, w ∈ w_all := by decide +kernel
theorem in_X3 : ∀ w ∈ u_ws RX3 TX3 3, w ∈ w_all := by decide +kernel
theorem in_X4 : ∀ w ∈ u_ws RX4 TX4 10, w ∈ w_all := by decide +kernel
theorem in_X5 : ∀ w ∈ u_ws RX5 TX5 7, w ∈ w_all := by decide +kernel
theorem in_X6 : ∀ w ∈ u_ws RX6 TX6 7, w ∈ w_all := by decide +kernel
theorem in_X7 : ∀ w ∈ u_ws RX7 TX7 23, w ∈ w_all := by decide +kernel
theorem nf_X0 : ∀ j, j < 18 → defaultValue (tyX0 j) = vp_V [.int 0, .int 0, .int 0, .int 0, .int 0, .int 0, .null, .null, .null, .null, .null, .null, .null, .null, .null, .null, .null, .null] j := by
  intro j hj
  rcases (show j = 0 ∨ j = 1 ∨ j = 2 ∨ j = 3 ∨ j = 4 ∨ j = 5 ∨ j = 6 ∨ j = 7 ∨ j = 8 ∨ j = 9 ∨ j = 10 ∨ j = 11 ∨ j = 12 ∨ j = 13 ∨ j = 14 ∨ j = 15 ∨ j = 16 ∨ j = 17 by omega) with rfl | rfl | rfl | rfl | rfl | rfl | rfl | rfl | rfl | rfl | rfl | rfl | rfl | rfl | rfl | rfl | rfl | rfl <;> rfl
theorem nf_X2 : ∀ j, j < 12 → defaultValue (tyX2 j) = vp_V [.null, .null, .null, .int 0, .int 0, .int 0, .int 0, .int 0, .int 0, .int 0, .int 0, .int 0] j := by
  intro j hj
  rcases (show j = 0 ∨ j = 1 ∨ j = 2 ∨ j = 3 ∨ j = 4 ∨ j = 5 ∨ j = 6 ∨ j = 7 ∨ j = 8 ∨ j = 9 ∨ j = 10 ∨ j = 11 by omega) with rfl | rfl | rfl | rfl | rfl | rfl | rfl | rfl | rfl | rfl | rfl | rfl <;> rfl
theorem nf_X3 : ∀ j, j < 3 → defaultValue (tyX3 j) = vp_V [.null, .int 0, .int 0] j := by
  intro j hj
  rcases (show j = 0 ∨ j = 1 ∨ j = 2 by omega) with rfl | rfl | rfl <;> rfl
theorem nf_X4 : ∀ j, j < 10 → defaultValue (tyX4 j) = vp_V [.null, .null, .null, .null, .null, .null, .null, .int 0, .int 0, .int 0] j := by
  intro j hj
  rcases (show j = 0 ∨ j = 1 ∨ j = 2 ∨ j = 3 ∨ j = 4 ∨ j = 5 ∨ j = 6 ∨ j = 7 ∨ j = 8 ∨ j = 9 by omega) with rfl | rfl | rfl | rfl | rfl | rfl | rfl | rfl | rfl | rfl <;> rfl
theorem nf_X5 : ∀ j, j < 7 → defaultValue (tyX5 j) = vp_V [.null, .int 0, .int 0, .int 0, .int 0, .int 0, .int 0] j := by
  intro j hj
  rcases (show j = 0 ∨ j = 1 ∨ j = 2 ∨ j = 3 ∨ j = 4 ∨ j = 5 ∨ j = 6 by omega) with rfl | rfl | rfl | rfl | rfl | rfl | rfl <;> rfl
theorem nf_X6 : ∀ j, j < 7 → defaultValue (tyX6 j) = vp_V [.null, .null, .null, .null, .null, .null, .null] j := by
  intro j hj
  rcases (show j = 0 ∨ j = 1 ∨ j = 2 ∨ j = 3 ∨ j = 4 ∨ j = 5 ∨ j = 6 by omega) with rfl | rfl | rfl | rfl | rfl | rfl | rfl <;> rfl
theorem nf_X7 : ∀ j, j < 23 → defaultValue (tyX7 j) = vp_V [.null, .null, .int 0, .null, .null, .null, .long 0, .int 0, .int 0, .null, .int 0, .int 0, .null, .int 0, .int 0, .int 0, .int 0, .int 0, .int 0, .int 0, .int 0, .int 0, .int 0] j := by
  intro j hj
  rcases (show j = 0 ∨ j = 1 ∨ j = 2 ∨ j = 3 ∨ j = 4 ∨ j = 5 ∨ j = 6 ∨ j = 7 ∨ j = 8 ∨ j = 9 ∨ j = 10 ∨ j = 11 ∨ j = 12 ∨ j = 13 ∨ j = 14 ∨ j = 15 ∨ j = 16 ∨ j = 17 ∨ j = 18 ∨ j = 19 ∨ j = 20 ∨ j = 21 ∨ j = 22 by omega) with rfl | rfl | rfl | rfl | rfl | rfl | rfl | rfl | rfl | rfl | rfl | rfl | rfl | rfl | rfl | rfl | rfl | rfl | rfl | rfl | rfl | rfl | rfl <;> rfl
end
section
theorem mw_4 : Cond.selects RX6 yX6_whyNotRow yX6_whyNotRow ∈ w_all := w_in 4 (by decide +kernel) (by decide +kernel)
theorem mw_98 : Cond.initialized RX6 ∈ w_all := w_in 98 (by decide +kernel) (by decide +kernel)
theorem mw_100 : Cond.initialized RX0 ∈ w_all := w_in 100 (by decide +kernel) (by decide +kernel)
theorem mw_167 : Cond.fieldLink RX0 49 "FlapBoard$Board" "rows" "I" ∈ w_all := w_in 167 (by decide +kernel) (by decide +kernel)
theorem mw_171 : Cond.fieldLink RX0 53 "FlapBoard$Board" "wide" "I" ∈ w_all := w_in 171 (by decide +kernel) (by decide +kernel)
theorem mw_179 : Cond.fieldLink RX0 59 "FlapBoard$Board" "drums" "I" ∈ w_all := w_in 179 (by decide +kernel) (by decide +kernel)
theorem mw_356 : Cond.fieldLink RX6 19 "FlapBoard" "board" "LFlapBoard$Board;" ∈ w_all := w_in 356 (by decide +kernel) (by decide +kernel)
theorem mw_542 : Cond.instanceMethod yX0_cells ∈ w_all := w_in 542 (by decide +kernel) (by decide +kernel)
theorem mw_543 : Cond.selects RX0 yX0_cells yX0_cells ∈ w_all := w_in 543 (by decide +kernel) (by decide +kernel)
theorem mw_544 : Cond.code yX0_cells cX0_cells 1 (some .int) ∈ w_all := w_in 544 (by decide +kernel) (by decide +kernel)
theorem mw_584 : Cond.methodLink RX0 72 yX0_hasCell ∈ w_all := w_in 584 (by decide +kernel) (by decide +kernel)
theorem mw_585 : Cond.instanceMethod yX0_hasCell ∈ w_all := w_in 585 (by decide +kernel) (by decide +kernel)
theorem mw_586 : Cond.selects RX0 yX0_hasCell yX0_hasCell ∈ w_all := w_in 586 (by decide +kernel) (by decide +kernel)
theorem mw_587 : Cond.code yX0_hasCell cX0_hasCell 2 (some .boolean) ∈ w_all := w_in 587 (by decide +kernel) (by decide +kernel)
theorem mw_588 : Cond.methodLink RX0 102 yX0_cells ∈ w_all := w_in 588 (by decide +kernel) (by decide +kernel)
theorem mw_617 : Cond.methodLink RX6 83 yX6_whyNotRow ∈ w_all := w_in 617 (by decide +kernel) (by decide +kernel)
theorem mw_619 : Cond.instanceMethod yX6_whyNotRow ∈ w_all := w_in 619 (by decide +kernel) (by decide +kernel)
theorem mw_620 : Cond.code yX6_whyNotRow cX6_whyNotRow 2 (some .int) ∈ w_all := w_in 620 (by decide +kernel) (by decide +kernel)
theorem mw_621 : Cond.methodLink RX6 258 yX0_hasRow ∈ w_all := w_in 621 (by decide +kernel) (by decide +kernel)
theorem mw_622 : Cond.instanceMethod yX0_hasRow ∈ w_all := w_in 622 (by decide +kernel) (by decide +kernel)
theorem mw_623 : Cond.selects RX0 yX0_hasRow yX0_hasRow ∈ w_all := w_in 623 (by decide +kernel) (by decide +kernel)
theorem mw_624 : Cond.code yX0_hasRow cX0_hasRow 2 (some .boolean) ∈ w_all := w_in 624 (by decide +kernel) (by decide +kernel)
theorem mw_669 : Cond.instanceMethod yX0_signOf ∈ w_all := w_in 669 (by decide +kernel) (by decide +kernel)
theorem mw_670 : Cond.selects RX0 yX0_signOf yX0_signOf ∈ w_all := w_in 670 (by decide +kernel) (by decide +kernel)
theorem mw_671 : Cond.code yX0_signOf cX0_signOf 3 (some .int) ∈ w_all := w_in 671 (by decide +kernel) (by decide +kernel)
theorem mw_677 : Cond.methodLink RX6 101 yX0_isThere ∈ w_all := w_in 677 (by decide +kernel) (by decide +kernel)
theorem mw_678 : Cond.instanceMethod yX0_isThere ∈ w_all := w_in 678 (by decide +kernel) (by decide +kernel)
theorem mw_679 : Cond.selects RX0 yX0_isThere yX0_isThere ∈ w_all := w_in 679 (by decide +kernel) (by decide +kernel)
theorem mw_680 : Cond.code yX0_isThere cX0_isThere 1 (some .boolean) ∈ w_all := w_in 680 (by decide +kernel) (by decide +kernel)
theorem mw_730 : Cond.methodLink RX6 118 yX0_hasCell ∈ w_all := w_in 730 (by decide +kernel) (by decide +kernel)
theorem mw_736 : Cond.methodLink RX6 130 yX0_hasFlap ∈ w_all := w_in 736 (by decide +kernel) (by decide +kernel)
theorem mw_737 : Cond.instanceMethod yX0_hasFlap ∈ w_all := w_in 737 (by decide +kernel) (by decide +kernel)
theorem mw_738 : Cond.selects RX0 yX0_hasFlap yX0_hasFlap ∈ w_all := w_in 738 (by decide +kernel) (by decide +kernel)
theorem mw_739 : Cond.code yX0_hasFlap cX0_hasFlap 3 (some .boolean) ∈ w_all := w_in 739 (by decide +kernel) (by decide +kernel)
theorem mw_768 : Cond.methodLink RX6 149 yX0_isMovable ∈ w_all := w_in 768 (by decide +kernel) (by decide +kernel)
theorem mw_769 : Cond.instanceMethod yX0_isMovable ∈ w_all := w_in 769 (by decide +kernel) (by decide +kernel)
theorem mw_770 : Cond.selects RX0 yX0_isMovable yX0_isMovable ∈ w_all := w_in 770 (by decide +kernel) (by decide +kernel)
theorem mw_771 : Cond.code yX0_isMovable cX0_isMovable 3 (some .boolean) ∈ w_all := w_in 771 (by decide +kernel) (by decide +kernel)
theorem mw_772 : Cond.methodLink RX0 108 yX0_flapsOn ∈ w_all := w_in 772 (by decide +kernel) (by decide +kernel)
theorem mw_773 : Cond.instanceMethod yX0_flapsOn ∈ w_all := w_in 773 (by decide +kernel) (by decide +kernel)
theorem mw_774 : Cond.selects RX0 yX0_flapsOn yX0_flapsOn ∈ w_all := w_in 774 (by decide +kernel) (by decide +kernel)
theorem mw_775 : Cond.code yX0_flapsOn cX0_flapsOn 2 (some .int) ∈ w_all := w_in 775 (by decide +kernel) (by decide +kernel)
theorem mw_904 : Cond.methodLink RX6 236 yX0_hasDrum ∈ w_all := w_in 904 (by decide +kernel) (by decide +kernel)
theorem mw_905 : Cond.instanceMethod yX0_hasDrum ∈ w_all := w_in 905 (by decide +kernel) (by decide +kernel)
theorem mw_906 : Cond.selects RX0 yX0_hasDrum yX0_hasDrum ∈ w_all := w_in 906 (by decide +kernel) (by decide +kernel)
theorem mw_907 : Cond.code yX0_hasDrum cX0_hasDrum 2 (some .boolean) ∈ w_all := w_in 907 (by decide +kernel) (by decide +kernel)
theorem mw_934 : Cond.methodLink RX6 254 yX0_signOf ∈ w_all := w_in 934 (by decide +kernel) (by decide +kernel)
theorem wd_X0_cells : wd_V yX0_cells cX0_cells 1 (some .int) 0 := ⟨mw_542, mw_543, mw_100, mw_544, by decide +kernel, by decide +kernel, by decide +kernel⟩
theorem wd_X0_flapsOn : wd_V yX0_flapsOn cX0_flapsOn 2 (some .int) 1 := ⟨mw_773, mw_774, mw_100, mw_775, by decide +kernel, by decide +kernel, by decide +kernel⟩
theorem wd_X0_hasCell : wd_V yX0_hasCell cX0_hasCell 2 (some .boolean) 1 := ⟨mw_585, mw_586, mw_100, mw_587, by decide +kernel, by decide +kernel, by decide +kernel⟩
theorem wd_X0_hasDrum : wd_V yX0_hasDrum cX0_hasDrum 2 (some .boolean) 1 := ⟨mw_905, mw_906, mw_100, mw_907, by decide +kernel, by decide +kernel, by decide +kernel⟩
theorem wd_X0_hasFlap : wd_V yX0_hasFlap cX0_hasFlap 3 (some .boolean) 2 := ⟨mw_737, mw_738, mw_100, mw_739, by decide +kernel, by decide +kernel, by decide +kernel⟩
theorem wd_X0_hasRow : wd_V yX0_hasRow cX0_hasRow 2 (some .boolean) 1 := ⟨mw_622, mw_623, mw_100, mw_624, by decide +kernel, by decide +kernel, by decide +kernel⟩
theorem wd_X0_isMovable : wd_V yX0_isMovable cX0_isMovable 3 (some .boolean) 2 := ⟨mw_769, mw_770, mw_100, mw_771, by decide +kernel, by decide +kernel, by decide +kernel⟩
theorem wd_X0_isThere : wd_V yX0_isThere cX0_isThere 1 (some .boolean) 0 := ⟨mw_678, mw_679, mw_100, mw_680, by decide +kernel, by decide +kernel, by decide +kernel⟩
theorem wd_X0_signOf : wd_V yX0_signOf cX0_signOf 3 (some .int) 2 := ⟨mw_669, mw_670, mw_100, mw_671, by decide +kernel, by decide +kernel, by decide +kernel⟩
theorem wd_X6_whyNotRow : wd_V yX6_whyNotRow cX6_whyNotRow 2 (some .int) 1 := ⟨mw_619, mw_4, mw_98, mw_620, by decide +kernel, by decide +kernel, by decide +kernel⟩
def fb_w (a : Nat → Nat) (q : Nat → ClassId) : va_W := [((a 0), .inr (5, [.ref (a 1), .ref (a 3), .ref (a 16), .ref (a 29), .ref (a 33), .ref (a 41), .ref (a 43)])), ((a 1), .inr (4, [.ref (a 2), .int 0, .int 0, .int 0, .int 0, .int 0, .int 0])), ((a 2), .inl (q 0, 400, .inl (fun _ => 0))), ((a 3), .inr (0, [.int 0, .int 0, .int 0, .int 0, .int 0, .int 0, .ref (a 4), .ref (a 5), .ref (a 6), .ref (a 7), .ref (a 8), .ref (a 9), .ref (a 10), .ref (a 11), .ref (a 12), .ref (a 13), .ref (a 14), .ref (a 15)])), ((a 4), .inl (q 0, 4, .inl (fun _ => 0))), ((a 5), .inl (q 0, 4, .inl (fun _ => 0))), ((a 6), .inl (q 0, 160, .inl (fun _ => 0))), ((a 7), .inl (q 0, 40, .inl (fun _ => 0))), ((a 8), .inl (q 0, 40, .inl (fun _ => 0))), ((a 9), .inl (q 0, 40, .inl (fun _ => 0))), ((a 10), .inl (q 0, 40, .inl (fun _ => 0))), ((a 11), .inl (q 0, 40, .inl (fun _ => 0))), ((a 12), .inl (q 0, 40, .inl (fun _ => 0))), ((a 13), .inl (q 0, 40, .inl (fun _ => 0))), ((a 14), .inl (q 1, 40, .inr (.inl (fun _ => 0)))), ((a 15), .inl (q 0, 0, .inl (fun _ => 0))), ((a 16), .inr (0, [.int 0, .int 0, .int 0, .int 0, .int 0, .int 0, .ref (a 17), .ref (a 18), .ref (a 19), .ref (a 20), .ref (a 21), .ref (a 22), .ref (a 23), .ref (a 24), .ref (a 25), .ref (a 26), .ref (a 27), .ref (a 28)])), ((a 17), .inl (q 0, 4, .inl (fun _ => 0))), ((a 18), .inl (q 0, 4, .inl (fun _ => 0))), ((a 19), .inl (q 0, 160, .inl (fun _ => 0))), ((a 20), .inl (q 0, 40, .inl (fun _ => 0))), ((a 21), .inl (q 0, 40, .inl (fun _ => 0))), ((a 22), .inl (q 0, 40, .inl (fun _ => 0))), ((a 23), .inl (q 0, 40, .inl (fun _ => 0))), ((a 24), .inl (q 0, 40, .inl (fun _ => 0))), ((a 25), .inl (q 0, 40, .inl (fun _ => 0))), ((a 26), .inl (q 0, 40, .inl (fun _ => 0))), ((a 27), .inl (q 1, 40, .inr (.inl (fun _ => 0)))), ((a 28), .inl (q 0, 0, .inl (fun _ => 0))), ((a 29), .inr (1, [.ref (a 30), .ref (a 31), .ref (a 32), .int 0, .int 0, .int 0, .int 0, .int 0, .int 0, .int 0, .int 0, .int 0])), ((a 30), .inl (q 0, 40, .inl (fun _ => 0))), ((a 31), .inl (q 0, 40, .inl (fun _ => 0))), ((a 32), .inl (q 0, 40, .inl (fun _ => 0))), ((a 33), .inr (3, [.ref (a 34), .ref (a 35), .ref (a 36), .ref (a 37), .ref (a 38), .ref (a 39), .ref (a 40), .int 0, .int 0, .int 0])), ((a 34), .inl (q 0, 80, .inl (fun _ => 0))), ((a 35), .inl (q 0, 80, .inl (fun _ => 0))), ((a 36), .inl (q 0, 80, .inl (fun _ => 0))), ((a 37), .inl (q 0, 80, .inl (fun _ => 0))), ((a 38), .inl (q 0, 80, .inl (fun _ => 0))), ((a 39), .inl (q 0, 3, .inl (fun _ => 0))), ((a 40), .inl (q 0, 3, .inl (fun _ => 0))), ((a 41), .inr (2, [.ref (a 42), .int 0, .int 0])), ((a 42), .inl (q 4, 10, .inr (.inr (.inr (.inr (fun _ => none)))))), ((a 43), .inl (q 4, 2, .inr (.inr (.inr (.inr (fun _ => none))))))]
def md_w (b : Nat → Nat) (q : Nat → ClassId) : va_W := [((b 0), .inr (6, [.ref (b 1), .ref (b 2), .int 0, .ref (b 3), .ref (b 4), .ref (b 5), .long 0, .int 0, .int 0, .ref (b 6), .int 0, .int 0, .ref (b 7), .int 0, .int 0, .int 0, .int 0, .int 0, .int 0, .int 0, .int 0, .int 0, .int 0])), ((b 1), .inl (q 1, 6896, .inr (.inl (fun _ => 0)))), ((b 2), .inl (q 1, 68960, .inr (.inl (fun _ => 0)))), ((b 3), .inl (q 1, 13792, .inr (.inl (fun _ => 0)))), ((b 4), .inl (q 3, 2, .inl (fun _ => 0))), ((b 5), .inl (q 1, 6896, .inr (.inl (fun _ => 0)))), ((b 6), .inl (q 0, 40, .inl (fun _ => 0))), ((b 7), .inl (q 2, 400, .inl (fun _ => 0)))]
end
section
theorem dX0_isThere_0 : decode cX0_isThere 0 = .ok (.aload_n 0, 1) := by decide +kernel
theorem dX0_isThere_1 : decode cX0_isThere 1 = .ok (.getfield 49, 3) := by decide +kernel
theorem dX0_isThere_4 : decode cX0_isThere 4 = .ok (.ifCond .le 7, 3) := by decide +kernel
theorem dX0_isThere_11 : decode cX0_isThere 11 = .ok (.iconst 0, 1) := by decide +kernel
theorem dX0_isThere_12 : decode cX0_isThere 12 = .ok (.ireturn, 1) := by decide +kernel
theorem dX0_cells_0 : decode cX0_cells 0 = .ok (.aload_n 0, 1) := by decide +kernel
theorem dX0_cells_1 : decode cX0_cells 1 = .ok (.getfield 49, 3) := by decide +kernel
theorem dX0_cells_4 : decode cX0_cells 4 = .ok (.aload_n 0, 1) := by decide +kernel
theorem dX0_cells_5 : decode cX0_cells 5 = .ok (.getfield 53, 3) := by decide +kernel
theorem dX0_cells_8 : decode cX0_cells 8 = .ok (.imul, 1) := by decide +kernel
theorem dX0_cells_9 : decode cX0_cells 9 = .ok (.ireturn, 1) := by decide +kernel
theorem dX0_hasCell_0 : decode cX0_hasCell 0 = .ok (.iload_n 1, 1) := by decide +kernel
theorem dX0_hasCell_1 : decode cX0_hasCell 1 = .ok (.ifCond .lt 15, 3) := by decide +kernel
theorem dX0_hasCell_4 : decode cX0_hasCell 4 = .ok (.iload_n 1, 1) := by decide +kernel
theorem dX0_hasCell_5 : decode cX0_hasCell 5 = .ok (.aload_n 0, 1) := by decide +kernel
theorem dX0_hasCell_6 : decode cX0_hasCell 6 = .ok (.invokevirtual 102, 3) := by decide +kernel
theorem dX0_hasCell_9 : decode cX0_hasCell 9 = .ok (.if_icmp .ge 7, 3) := by decide +kernel
theorem dX0_hasCell_16 : decode cX0_hasCell 16 = .ok (.iconst 0, 1) := by decide +kernel
theorem dX0_hasCell_17 : decode cX0_hasCell 17 = .ok (.ireturn, 1) := by decide +kernel
theorem dX0_hasRow_0 : decode cX0_hasRow 0 = .ok (.iload_n 1, 1) := by decide +kernel
theorem dX0_hasRow_1 : decode cX0_hasRow 1 = .ok (.ifCond .lt 15, 3) := by decide +kernel
theorem dX0_hasRow_4 : decode cX0_hasRow 4 = .ok (.iload_n 1, 1) := by decide +kernel
theorem dX0_hasRow_5 : decode cX0_hasRow 5 = .ok (.aload_n 0, 1) := by decide +kernel
theorem dX0_hasRow_6 : decode cX0_hasRow 6 = .ok (.getfield 49, 3) := by decide +kernel
theorem dX0_hasRow_9 : decode cX0_hasRow 9 = .ok (.if_icmp .ge 7, 3) := by decide +kernel
theorem dX0_hasRow_16 : decode cX0_hasRow 16 = .ok (.iconst 0, 1) := by decide +kernel
theorem dX0_hasRow_17 : decode cX0_hasRow 17 = .ok (.ireturn, 1) := by decide +kernel
theorem dX0_hasDrum_0 : decode cX0_hasDrum 0 = .ok (.iload_n 1, 1) := by decide +kernel
theorem dX0_hasDrum_1 : decode cX0_hasDrum 1 = .ok (.ifCond .lt 15, 3) := by decide +kernel
theorem dX0_hasDrum_4 : decode cX0_hasDrum 4 = .ok (.iload_n 1, 1) := by decide +kernel
theorem dX0_hasDrum_5 : decode cX0_hasDrum 5 = .ok (.aload_n 0, 1) := by decide +kernel
theorem dX0_hasDrum_6 : decode cX0_hasDrum 6 = .ok (.getfield 59, 3) := by decide +kernel
theorem dX0_hasDrum_9 : decode cX0_hasDrum 9 = .ok (.if_icmp .ge 7, 3) := by decide +kernel
theorem dX0_hasDrum_16 : decode cX0_hasDrum 16 = .ok (.iconst 0, 1) := by decide +kernel
theorem dX0_hasDrum_17 : decode cX0_hasDrum 17 = .ok (.ireturn, 1) := by decide +kernel
theorem dX0_hasFlap_0 : decode cX0_hasFlap 0 = .ok (.aload_n 0, 1) := by decide +kernel
theorem dX0_hasFlap_1 : decode cX0_hasFlap 1 = .ok (.iload_n 1, 1) := by decide +kernel
theorem dX0_hasFlap_2 : decode cX0_hasFlap 2 = .ok (.invokevirtual 72, 3) := by decide +kernel
theorem dX0_hasFlap_5 : decode cX0_hasFlap 5 = .ok (.ifCond .eq 20, 3) := by decide +kernel
theorem dX0_hasFlap_25 : decode cX0_hasFlap 25 = .ok (.iconst 0, 1) := by decide +kernel
theorem dX0_hasFlap_26 : decode cX0_hasFlap 26 = .ok (.ireturn, 1) := by decide +kernel
theorem dX0_flapsOn_0 : decode cX0_flapsOn 0 = .ok (.iload_n 1, 1) := by decide +kernel
theorem dX0_flapsOn_1 : decode cX0_flapsOn 1 = .ok (.ifCond .lt 20, 3) := by decide +kernel
theorem dX0_flapsOn_4 : decode cX0_flapsOn 4 = .ok (.iload_n 1, 1) := by decide +kernel
theorem dX0_flapsOn_5 : decode cX0_flapsOn 5 = .ok (.aload_n 0, 1) := by decide +kernel
theorem dX0_flapsOn_6 : decode cX0_flapsOn 6 = .ok (.getfield 59, 3) := by decide +kernel
theorem dX0_flapsOn_9 : decode cX0_flapsOn 9 = .ok (.if_icmp .ge 12, 3) := by decide +kernel
theorem dX0_flapsOn_21 : decode cX0_flapsOn 21 = .ok (.iconst 0, 1) := by decide +kernel
theorem dX0_flapsOn_22 : decode cX0_flapsOn 22 = .ok (.ireturn, 1) := by decide +kernel
theorem dX0_isMovable_0 : decode cX0_isMovable 0 = .ok (.iload_n 2, 1) := by decide +kernel
theorem dX0_isMovable_1 : decode cX0_isMovable 1 = .ok (.ifCond .le 16, 3) := by decide +kernel
theorem dX0_isMovable_4 : decode cX0_isMovable 4 = .ok (.iload_n 2, 1) := by decide +kernel
theorem dX0_isMovable_5 : decode cX0_isMovable 5 = .ok (.aload_n 0, 1) := by decide +kernel
theorem dX0_isMovable_6 : decode cX0_isMovable 6 = .ok (.iload_n 1, 1) := by decide +kernel
theorem dX0_isMovable_7 : decode cX0_isMovable 7 = .ok (.invokevirtual 108, 3) := by decide +kernel
theorem dX0_isMovable_10 : decode cX0_isMovable 10 = .ok (.if_icmp .ge 7, 3) := by decide +kernel
theorem dX0_isMovable_17 : decode cX0_isMovable 17 = .ok (.iconst 0, 1) := by decide +kernel
theorem dX0_isMovable_18 : decode cX0_isMovable 18 = .ok (.ireturn, 1) := by decide +kernel
theorem dX0_signOf_0 : decode cX0_signOf 0 = .ok (.iload_n 1, 1) := by decide +kernel
theorem dX0_signOf_1 : decode cX0_signOf 1 = .ok (.ifCond .lt 25, 3) := by decide +kernel
theorem dX0_signOf_4 : decode cX0_signOf 4 = .ok (.iload_n 1, 1) := by decide +kernel
theorem dX0_signOf_5 : decode cX0_signOf 5 = .ok (.aload_n 0, 1) := by decide +kernel
theorem dX0_signOf_6 : decode cX0_signOf 6 = .ok (.getfield 59, 3) := by decide +kernel
theorem dX0_signOf_9 : decode cX0_signOf 9 = .ok (.if_icmp .ge 17, 3) := by decide +kernel
theorem dX0_signOf_26 : decode cX0_signOf 26 = .ok (.iconst (-1), 1) := by decide +kernel
theorem dX0_signOf_27 : decode cX0_signOf 27 = .ok (.ireturn, 1) := by decide +kernel
theorem dX6_whyNotRow_0 : decode cX6_whyNotRow 0 = .ok (.aload_n 0, 1) := by decide +kernel
theorem dX6_whyNotRow_1 : decode cX6_whyNotRow 1 = .ok (.getfield 19, 3) := by decide +kernel
theorem dX6_whyNotRow_4 : decode cX6_whyNotRow 4 = .ok (.iload_n 1, 1) := by decide +kernel
theorem dX6_whyNotRow_5 : decode cX6_whyNotRow 5 = .ok (.invokevirtual 258, 3) := by decide +kernel
theorem dX6_whyNotRow_8 : decode cX6_whyNotRow 8 = .ok (.ifCond .ne 5, 3) := by decide +kernel
theorem dX6_whyNotRow_11 : decode cX6_whyNotRow 11 = .ok (.iconst (-1), 1) := by decide +kernel
theorem dX6_whyNotRow_12 : decode cX6_whyNotRow 12 = .ok (.ireturn, 1) := by decide +kernel
theorem dX6_tick_0 : decode cX6_tick 0 = .ok (.aload_n 0, 1) := by decide +kernel
theorem dX6_tick_1 : decode cX6_tick 1 = .ok (.getfield 19, 3) := by decide +kernel
theorem dX6_tick_4 : decode cX6_tick 4 = .ok (.invokevirtual 101, 3) := by decide +kernel
theorem dX6_tick_7 : decode cX6_tick 7 = .ok (.ifCond .eq 14, 3) := by decide +kernel
theorem dX6_tick_21 : decode cX6_tick 21 = .ok (.iconst (-1), 1) := by decide +kernel
theorem dX6_tick_22 : decode cX6_tick 22 = .ok (.ireturn, 1) := by decide +kernel
theorem dX6_settle_0 : decode cX6_settle 0 = .ok (.aload_n 0, 1) := by decide +kernel
theorem dX6_settle_1 : decode cX6_settle 1 = .ok (.getfield 19, 3) := by decide +kernel
theorem dX6_settle_4 : decode cX6_settle 4 = .ok (.invokevirtual 101, 3) := by decide +kernel
theorem dX6_settle_7 : decode cX6_settle 7 = .ok (.ifCond .ne 5, 3) := by decide +kernel
theorem dX6_settle_10 : decode cX6_settle 10 = .ok (.iconst (-1), 1) := by decide +kernel
theorem dX6_settle_11 : decode cX6_settle 11 = .ok (.ireturn, 1) := by decide +kernel
theorem dX6_lose_0 : decode cX6_lose 0 = .ok (.aload_n 0, 1) := by decide +kernel
theorem dX6_lose_1 : decode cX6_lose 1 = .ok (.getfield 19, 3) := by decide +kernel
theorem dX6_lose_4 : decode cX6_lose 4 = .ok (.iload_n 1, 1) := by decide +kernel
theorem dX6_lose_5 : decode cX6_lose 5 = .ok (.invokevirtual 118, 3) := by decide +kernel
theorem dX6_lose_8 : decode cX6_lose 8 = .ok (.ifCond .eq 13, 3) := by decide +kernel
theorem dX6_lose_21 : decode cX6_lose 21 = .ok (.iconst (-1), 1) := by decide +kernel
theorem dX6_lose_22 : decode cX6_lose 22 = .ok (.ireturn, 1) := by decide +kernel
theorem dX6_wear_0 : decode cX6_wear 0 = .ok (.aload_n 0, 1) := by decide +kernel
theorem dX6_wear_1 : decode cX6_wear 1 = .ok (.getfield 19, 3) := by decide +kernel
theorem dX6_wear_4 : decode cX6_wear 4 = .ok (.iload_n 1, 1) := by decide +kernel
theorem dX6_wear_5 : decode cX6_wear 5 = .ok (.iload_n 2, 1) := by decide +kernel
theorem dX6_wear_6 : decode cX6_wear 6 = .ok (.invokevirtual 130, 3) := by decide +kernel
theorem dX6_wear_9 : decode cX6_wear 9 = .ok (.ifCond .eq 7, 3) := by decide +kernel
theorem dX6_wear_16 : decode cX6_wear 16 = .ok (.iconst (-1), 1) := by decide +kernel
theorem dX6_wear_17 : decode cX6_wear 17 = .ok (.ireturn, 1) := by decide +kernel
theorem dX6_mend_0 : decode cX6_mend 0 = .ok (.aload_n 0, 1) := by decide +kernel
theorem dX6_mend_1 : decode cX6_mend 1 = .ok (.getfield 19, 3) := by decide +kernel
theorem dX6_mend_4 : decode cX6_mend 4 = .ok (.iload_n 1, 1) := by decide +kernel
theorem dX6_mend_5 : decode cX6_mend 5 = .ok (.iload_n 2, 1) := by decide +kernel
theorem dX6_mend_6 : decode cX6_mend 6 = .ok (.invokevirtual 130, 3) := by decide +kernel
theorem dX6_mend_9 : decode cX6_mend 9 = .ok (.ifCond .ne 5, 3) := by decide +kernel
theorem dX6_mend_12 : decode cX6_mend 12 = .ok (.iconst (-1), 1) := by decide +kernel
theorem dX6_mend_13 : decode cX6_mend 13 = .ok (.ireturn, 1) := by decide +kernel
theorem dX6_limit_0 : decode cX6_limit 0 = .ok (.aload_n 0, 1) := by decide +kernel
theorem dX6_limit_1 : decode cX6_limit 1 = .ok (.getfield 19, 3) := by decide +kernel
theorem dX6_limit_4 : decode cX6_limit 4 = .ok (.invokevirtual 101, 3) := by decide +kernel
theorem dX6_limit_7 : decode cX6_limit 7 = .ok (.ifCond .eq 14, 3) := by decide +kernel
theorem dX6_limit_21 : decode cX6_limit 21 = .ok (.iconst (-1), 1) := by decide +kernel
theorem dX6_limit_22 : decode cX6_limit 22 = .ok (.ireturn, 1) := by decide +kernel
theorem dX6_exchange_0 : decode cX6_exchange 0 = .ok (.aload_n 0, 1) := by decide +kernel
theorem dX6_exchange_1 : decode cX6_exchange 1 = .ok (.getfield 19, 3) := by decide +kernel
theorem dX6_exchange_4 : decode cX6_exchange 4 = .ok (.iload_n 1, 1) := by decide +kernel
theorem dX6_exchange_5 : decode cX6_exchange 5 = .ok (.iload_n 2, 1) := by decide +kernel
theorem dX6_exchange_6 : decode cX6_exchange 6 = .ok (.invokevirtual 149, 3) := by decide +kernel
theorem dX6_exchange_9 : decode cX6_exchange 9 = .ok (.ifCond .eq 20, 3) := by decide +kernel
theorem dX6_exchange_29 : decode cX6_exchange 29 = .ok (.iconst (-1), 1) := by decide +kernel
theorem dX6_exchange_30 : decode cX6_exchange 30 = .ok (.ireturn, 1) := by decide +kernel
theorem dX6_cell_0 : decode cX6_cell 0 = .ok (.aload_n 0, 1) := by decide +kernel
theorem dX6_cell_1 : decode cX6_cell 1 = .ok (.getfield 19, 3) := by decide +kernel
theorem dX6_cell_4 : decode cX6_cell 4 = .ok (.iload_n 1, 1) := by decide +kernel
theorem dX6_cell_5 : decode cX6_cell 5 = .ok (.invokevirtual 118, 3) := by decide +kernel
theorem dX6_cell_8 : decode cX6_cell 8 = .ok (.ifCond .ne 5, 3) := by decide +kernel
theorem dX6_cell_11 : decode cX6_cell 11 = .ok (.iconst (-1), 1) := by decide +kernel
theorem dX6_cell_12 : decode cX6_cell 12 = .ok (.ireturn, 1) := by decide +kernel
theorem dX6_drum_0 : decode cX6_drum 0 = .ok (.aload_n 0, 1) := by decide +kernel
theorem dX6_drum_1 : decode cX6_drum 1 = .ok (.getfield 19, 3) := by decide +kernel
theorem dX6_drum_4 : decode cX6_drum 4 = .ok (.iload_n 1, 1) := by decide +kernel
theorem dX6_drum_5 : decode cX6_drum 5 = .ok (.invokevirtual 236, 3) := by decide +kernel
theorem dX6_drum_8 : decode cX6_drum 8 = .ok (.ifCond .ne 5, 3) := by decide +kernel
theorem dX6_drum_11 : decode cX6_drum 11 = .ok (.iconst (-1), 1) := by decide +kernel
theorem dX6_drum_12 : decode cX6_drum 12 = .ok (.ireturn, 1) := by decide +kernel
theorem dX6_sign_0 : decode cX6_sign 0 = .ok (.aload_n 0, 1) := by decide +kernel
theorem dX6_sign_1 : decode cX6_sign 1 = .ok (.getfield 19, 3) := by decide +kernel
theorem dX6_sign_4 : decode cX6_sign 4 = .ok (.iload_n 1, 1) := by decide +kernel
theorem dX6_sign_5 : decode cX6_sign 5 = .ok (.iload_n 2, 1) := by decide +kernel
theorem dX6_sign_6 : decode cX6_sign 6 = .ok (.invokevirtual 254, 3) := by decide +kernel
theorem dX6_sign_9 : decode cX6_sign 9 = .ok (.ireturn, 1) := by decide +kernel
theorem dX6_at_0 : decode cX6_at 0 = .ok (.aload_n 0, 1) := by decide +kernel
theorem dX6_at_1 : decode cX6_at 1 = .ok (.getfield 19, 3) := by decide +kernel
theorem dX6_at_4 : decode cX6_at 4 = .ok (.iload_n 1, 1) := by decide +kernel
theorem dX6_at_5 : decode cX6_at 5 = .ok (.invokevirtual 258, 3) := by decide +kernel
theorem dX6_at_8 : decode cX6_at 8 = .ok (.ifCond .eq 18, 3) := by decide +kernel
theorem dX6_at_26 : decode cX6_at 26 = .ok (.iconst (-1), 1) := by decide +kernel
theorem dX6_at_27 : decode cX6_at 27 = .ok (.ireturn, 1) := by decide +kernel
theorem dX6_left_0 : decode cX6_left 0 = .ok (.aload_n 0, 1) := by decide +kernel
theorem dX6_left_1 : decode cX6_left 1 = .ok (.getfield 19, 3) := by decide +kernel
theorem dX6_left_4 : decode cX6_left 4 = .ok (.invokevirtual 101, 3) := by decide +kernel
theorem dX6_left_7 : decode cX6_left 7 = .ok (.ifCond .ne 5, 3) := by decide +kernel
theorem dX6_left_10 : decode cX6_left 10 = .ok (.iconst (-1), 1) := by decide +kernel
theorem dX6_left_11 : decode cX6_left 11 = .ok (.ireturn, 1) := by decide +kernel
theorem dX6_when_0 : decode cX6_when 0 = .ok (.aload_n 0, 1) := by decide +kernel
theorem dX6_when_1 : decode cX6_when 1 = .ok (.getfield 19, 3) := by decide +kernel
theorem dX6_when_4 : decode cX6_when 4 = .ok (.invokevirtual 101, 3) := by decide +kernel
theorem dX6_when_7 : decode cX6_when 7 = .ok (.ifCond .eq 12, 3) := by decide +kernel
theorem dX6_when_19 : decode cX6_when 19 = .ok (.iconst (-1), 1) := by decide +kernel
theorem dX6_when_20 : decode cX6_when 20 = .ok (.ireturn, 1) := by decide +kernel
theorem dX6_loudest_0 : decode cX6_loudest 0 = .ok (.aload_n 0, 1) := by decide +kernel
theorem dX6_loudest_1 : decode cX6_loudest 1 = .ok (.getfield 19, 3) := by decide +kernel
theorem dX6_loudest_4 : decode cX6_loudest 4 = .ok (.invokevirtual 101, 3) := by decide +kernel
theorem dX6_loudest_7 : decode cX6_loudest 7 = .ok (.ifCond .eq 12, 3) := by decide +kernel
theorem dX6_loudest_19 : decode cX6_loudest 19 = .ok (.iconst (-1), 1) := by decide +kernel
theorem dX6_loudest_20 : decode cX6_loudest 20 = .ok (.ireturn, 1) := by decide +kernel
theorem dX6_total_0 : decode cX6_total 0 = .ok (.aload_n 0, 1) := by decide +kernel
theorem dX6_total_1 : decode cX6_total 1 = .ok (.getfield 19, 3) := by decide +kernel
theorem dX6_total_4 : decode cX6_total 4 = .ok (.invokevirtual 101, 3) := by decide +kernel
theorem dX6_total_7 : decode cX6_total 7 = .ok (.ifCond .ne 5, 3) := by decide +kernel
theorem dX6_total_10 : decode cX6_total 10 = .ok (.iconst (-1), 1) := by decide +kernel
theorem dX6_total_11 : decode cX6_total 11 = .ok (.ireturn, 1) := by decide +kernel
theorem dX6_rests_0 : decode cX6_rests 0 = .ok (.aload_n 0, 1) := by decide +kernel
theorem dX6_rests_1 : decode cX6_rests 1 = .ok (.getfield 19, 3) := by decide +kernel
theorem dX6_rests_4 : decode cX6_rests 4 = .ok (.iload_n 1, 1) := by decide +kernel
theorem dX6_rests_5 : decode cX6_rests 5 = .ok (.invokevirtual 118, 3) := by decide +kernel
theorem dX6_rests_8 : decode cX6_rests 8 = .ok (.ifCond .ne 5, 3) := by decide +kernel
theorem dX6_rests_11 : decode cX6_rests 11 = .ok (.iconst (-1), 1) := by decide +kernel
theorem dX6_rests_12 : decode cX6_rests 12 = .ok (.ireturn, 1) := by decide +kernel
theorem dX6_cost_0 : decode cX6_cost 0 = .ok (.aload_n 0, 1) := by decide +kernel
theorem dX6_cost_1 : decode cX6_cost 1 = .ok (.iload_n 1, 1) := by decide +kernel
theorem dX6_cost_2 : decode cX6_cost 2 = .ok (.invokevirtual 83, 3) := by decide +kernel
theorem dX6_cost_5 : decode cX6_cost 5 = .ok (.istore_n 2, 1) := by decide +kernel
theorem dX6_cost_6 : decode cX6_cost 6 = .ok (.iload_n 2, 1) := by decide +kernel
theorem dX6_cost_7 : decode cX6_cost 7 = .ok (.ifCond .ne 27, 3) := by decide +kernel
theorem dX6_cost_34 : decode cX6_cost 34 = .ok (.iload_n 2, 1) := by decide +kernel
theorem dX6_cost_35 : decode cX6_cost 35 = .ok (.ireturn, 1) := by decide +kernel
theorem dX6_best_0 : decode cX6_best 0 = .ok (.aload_n 0, 1) := by decide +kernel
theorem dX6_best_1 : decode cX6_best 1 = .ok (.getfield 19, 3) := by decide +kernel
theorem dX6_best_4 : decode cX6_best 4 = .ok (.iload_n 1, 1) := by decide +kernel
theorem dX6_best_5 : decode cX6_best 5 = .ok (.invokevirtual 258, 3) := by decide +kernel
theorem dX6_best_8 : decode cX6_best 8 = .ok (.ifCond .eq 12, 3) := by decide +kernel
theorem dX6_best_20 : decode cX6_best 20 = .ok (.iconst (-1), 1) := by decide +kernel
theorem dX6_best_21 : decode cX6_best 21 = .ok (.ireturn, 1) := by decide +kernel
theorem dX6_place_0 : decode cX6_place 0 = .ok (.aload_n 0, 1) := by decide +kernel
theorem dX6_place_1 : decode cX6_place 1 = .ok (.getfield 19, 3) := by decide +kernel
theorem dX6_place_4 : decode cX6_place 4 = .ok (.iload_n 1, 1) := by decide +kernel
theorem dX6_place_5 : decode cX6_place 5 = .ok (.invokevirtual 258, 3) := by decide +kernel
theorem dX6_place_8 : decode cX6_place 8 = .ok (.ifCond .eq 12, 3) := by decide +kernel
theorem dX6_place_20 : decode cX6_place 20 = .ok (.iconst (-1), 1) := by decide +kernel
theorem dX6_place_21 : decode cX6_place 21 = .ok (.ireturn, 1) := by decide +kernel
theorem dX6_log_0 : decode cX6_log 0 = .ok (.aload_n 0, 1) := by decide +kernel
theorem dX6_log_1 : decode cX6_log 1 = .ok (.getfield 19, 3) := by decide +kernel
theorem dX6_log_4 : decode cX6_log 4 = .ok (.iload_n 1, 1) := by decide +kernel
theorem dX6_log_5 : decode cX6_log 5 = .ok (.invokevirtual 236, 3) := by decide +kernel
theorem dX6_log_8 : decode cX6_log 8 = .ok (.ifCond .ne 5, 3) := by decide +kernel
theorem dX6_log_11 : decode cX6_log 11 = .ok (.iconst (-1), 1) := by decide +kernel
theorem dX6_log_12 : decode cX6_log 12 = .ok (.ireturn, 1) := by decide +kernel
theorem dX6_usual_0 : decode cX6_usual 0 = .ok (.aload_n 0, 1) := by decide +kernel
theorem dX6_usual_1 : decode cX6_usual 1 = .ok (.getfield 19, 3) := by decide +kernel
theorem dX6_usual_4 : decode cX6_usual 4 = .ok (.iload_n 1, 1) := by decide +kernel
theorem dX6_usual_5 : decode cX6_usual 5 = .ok (.invokevirtual 236, 3) := by decide +kernel
theorem dX6_usual_8 : decode cX6_usual 8 = .ok (.ifCond .eq 12, 3) := by decide +kernel
theorem dX6_usual_20 : decode cX6_usual 20 = .ok (.iconst (-1), 1) := by decide +kernel
theorem dX6_usual_21 : decode cX6_usual 21 = .ok (.ireturn, 1) := by decide +kernel
theorem dX6_better_0 : decode cX6_better 0 = .ok (.aload_n 0, 1) := by decide +kernel
theorem dX6_better_1 : decode cX6_better 1 = .ok (.getfield 19, 3) := by decide +kernel
theorem dX6_better_4 : decode cX6_better 4 = .ok (.iload_n 1, 1) := by decide +kernel
theorem dX6_better_5 : decode cX6_better 5 = .ok (.invokevirtual 236, 3) := by decide +kernel
theorem dX6_better_8 : decode cX6_better 8 = .ok (.ifCond .eq 12, 3) := by decide +kernel
theorem dX6_better_20 : decode cX6_better 20 = .ok (.iconst (-1), 1) := by decide +kernel
theorem dX6_better_21 : decode cX6_better 21 = .ok (.ireturn, 1) := by decide +kernel
theorem dX6_farthest_0 : decode cX6_farthest 0 = .ok (.aload_n 0, 1) := by decide +kernel
theorem dX6_farthest_1 : decode cX6_farthest 1 = .ok (.getfield 19, 3) := by decide +kernel
theorem dX6_farthest_4 : decode cX6_farthest 4 = .ok (.iload_n 1, 1) := by decide +kernel
theorem dX6_farthest_5 : decode cX6_farthest 5 = .ok (.invokevirtual 118, 3) := by decide +kernel
theorem dX6_farthest_8 : decode cX6_farthest 8 = .ok (.ifCond .eq 12, 3) := by decide +kernel
theorem dX6_farthest_20 : decode cX6_farthest 20 = .ok (.iconst (-1), 1) := by decide +kernel
theorem dX6_farthest_21 : decode cX6_farthest 21 = .ok (.ireturn, 1) := by decide +kernel
theorem dX6_lacks_0 : decode cX6_lacks 0 = .ok (.aload_n 0, 1) := by decide +kernel
theorem dX6_lacks_1 : decode cX6_lacks 1 = .ok (.getfield 19, 3) := by decide +kernel
theorem dX6_lacks_4 : decode cX6_lacks 4 = .ok (.iload_n 1, 1) := by decide +kernel
theorem dX6_lacks_5 : decode cX6_lacks 5 = .ok (.invokevirtual 118, 3) := by decide +kernel
theorem dX6_lacks_8 : decode cX6_lacks 8 = .ok (.ifCond .eq 12, 3) := by decide +kernel
theorem dX6_lacks_20 : decode cX6_lacks 20 = .ok (.iconst (-1), 1) := by decide +kernel
theorem dX6_lacks_21 : decode cX6_lacks 21 = .ok (.ireturn, 1) := by decide +kernel
theorem dX6_unlike_0 : decode cX6_unlike 0 = .ok (.aload_n 0, 1) := by decide +kernel
theorem dX6_unlike_1 : decode cX6_unlike 1 = .ok (.getfield 19, 3) := by decide +kernel
theorem dX6_unlike_4 : decode cX6_unlike 4 = .ok (.iload_n 1, 1) := by decide +kernel
theorem dX6_unlike_5 : decode cX6_unlike 5 = .ok (.invokevirtual 258, 3) := by decide +kernel
theorem dX6_unlike_8 : decode cX6_unlike 8 = .ok (.ifCond .eq 19, 3) := by decide +kernel
theorem dX6_unlike_27 : decode cX6_unlike 27 = .ok (.iconst (-1), 1) := by decide +kernel
theorem dX6_unlike_28 : decode cX6_unlike 28 = .ok (.ireturn, 1) := by decide +kernel
end
section
set_option maxHeartbeats 4000000 in
set_option maxRecDepth 100000 in
theorem ct_Board_isThere {l : Launch} {D : va_G} {q : Nat → ClassId} {h0 g0 g1 g2 g3 g4 g5 g6 g7 g8 g9 g10 g11 : Nat} : Met l yX0_isThere (Cond.code yX0_isThere cX0_isThere 1 (some .boolean) :: w_all) ({ frames := 0, cells := 0, slots := 0, locals := 0 }) (rd_P D q [.ref h0] [(h0, .inr (0, [.int 0, .int 0, .int 0, .int 0, .int 0, .int 0, .ref g0, .ref g1, .ref g2, .ref g3, .ref g4, .ref g5, .ref g6, .ref g7, .ref g8, .ref g9, .ref g10, .ref g11]))]) (vp_Si (fun r => r = 0)) 0 0 (fun _ => False) := by
  refine rd_start (by decide) (Nat.le_of_ble_eq_true rfl) ?_
  intro p e s m below meth c ls hx hb hr hml hown ht hk hP hQ hl
  have hK := hQ.1
  have hown : s.vm.findClass RX0 = some m.cls := hown
  have hl : lv_has ls 1 [(0, .ref h0)] := hl
  refine lv_aload_n hx hb dX0_isThere_0 rfl (lv_at hl 0 rfl) ?_
  refine fl_get (C := RX0) (T := TX0) (N := 18) (ci := 0) (v := .int 0) hx hb ht in_X0 hown hK hP 0 rfl rfl 0 (by decide) mw_167 rfl dX0_isThere_1 ?_
  refine lv_if_le (tgt := 11) hx hb dX0_isThere_4 (by decide) (fun c_1 => ?_) (fun c9 => absurd (by decide) c9)
  refine lv_iconst (v := 0) hx hb dX0_isThere_11 (by decide) ?_
  exact rd_zret hx hb hr hk rfl (rfl) dX0_isThere_12

set_option maxHeartbeats 4000000 in
set_option maxRecDepth 100000 in
theorem ct_Board_cells {l : Launch} {D : va_G} {q : Nat → ClassId} {h0 g0 g1 g2 g3 g4 g5 g6 g7 g8 g9 g10 g11 : Nat} : Met l yX0_cells (Cond.code yX0_cells cX0_cells 1 (some .int) :: w_all) ({ frames := 0, cells := 0, slots := 0, locals := 0 }) (rd_P D q [.ref h0] [(h0, .inr (0, [.int 0, .int 0, .int 0, .int 0, .int 0, .int 0, .ref g0, .ref g1, .ref g2, .ref g3, .ref g4, .ref g5, .ref g6, .ref g7, .ref g8, .ref g9, .ref g10, .ref g11]))]) (vp_Si (fun r => r = 0)) 0 0 (fun _ => False) := by
  refine rd_start (by decide) (Nat.le_of_ble_eq_true rfl) ?_
  intro p e s m below meth c ls hx hb hr hml hown ht hk hP hQ hl
  have hK := hQ.1
  have hown : s.vm.findClass RX0 = some m.cls := hown
  have hl : lv_has ls 1 [(0, .ref h0)] := hl
  refine lv_aload_n hx hb dX0_cells_0 rfl (lv_at hl 0 rfl) ?_
  refine fl_get (C := RX0) (T := TX0) (N := 18) (ci := 0) (v := .int 0) hx hb ht in_X0 hown hK hP 0 rfl rfl 0 (by decide) mw_167 rfl dX0_cells_1 ?_
  refine lv_aload_n hx hb dX0_cells_4 rfl (lv_at hl 0 rfl) ?_
  refine fl_get (C := RX0) (T := TX0) (N := 18) (ci := 0) (v := .int 0) hx hb ht in_X0 hown hK hP 0 rfl rfl 1 (by decide) mw_171 rfl dX0_cells_5 ?_
  refine lv_imul hx hb dX0_cells_8 ?_
  refine ab_i (v := 0) (by decide) ?_
  exact rd_iret hx hb hr hk (rfl) dX0_cells_9

set_option maxHeartbeats 4000000 in
set_option maxRecDepth 100000 in
theorem ct_Board_hasCell {l : Launch} {D : va_G} {q : Nat → ClassId} {h0 g0 g1 g2 g3 g4 g5 g6 g7 g8 g9 g10 g11 : Nat} {x : Int32} : Met l yX0_hasCell (Cond.code yX0_hasCell cX0_hasCell 2 (some .boolean) :: w_all) ({ frames := 1, cells := 0, slots := 0, locals := 20 }) (rd_P D q [.ref h0, .int x] [(h0, .inr (0, [.int 0, .int 0, .int 0, .int 0, .int 0, .int 0, .ref g0, .ref g1, .ref g2, .ref g3, .ref g4, .ref g5, .ref g6, .ref g7, .ref g8, .ref g9, .ref g10, .ref g11]))]) (vp_Si (fun r => r = 0)) 0 0 (fun _ => False) := by
  refine rd_start (by decide) (Nat.le_of_ble_eq_true rfl) ?_
  intro p e s m below meth c ls hx hb hr hml hown ht hk hP hQ hl
  have hK := hQ.1
  have hown : s.vm.findClass RX0 = some m.cls := hown
  have hl : lv_has ls 2 [(0, .ref h0), (1, .int x)] := hl
  refine lv_iload_n hx hb dX0_hasCell_0 rfl (lv_at hl 1 rfl) ?_
  refine lv_if_lt (tgt := 16) hx hb dX0_hasCell_1 (by decide) (fun c_1 => ?_) (fun c_1 => ?_)
  · refine lv_iconst (v := 0) hx hb dX0_hasCell_16 (by decide) ?_
    exact rd_zret hx hb hr hk rfl (rfl) dX0_hasCell_17
  · refine lv_iload_n hx hb dX0_hasCell_4 rfl (lv_at hl 1 rfl) ?_
    refine lv_aload_n hx hb dX0_hasCell_5 rfl (lv_at hl 0 rfl) ?_
    refine vp_callSi (rd_wV (wc := [(h0, .inr (0, [.int 0, .int 0, .int 0, .int 0, .int 0, .int 0, .ref g0, .ref g1, .ref g2, .ref g3, .ref g4, .ref g5, .ref g6, .ref g7, .ref g8, .ref g9, .ref g10, .ref g11]))]) (As := []) (rest := [.int x]) hx hb hml hown ht (ct_Board_cells) wd_X0_cells mw_588 hQ (hP.sub [0] rfl) rfl rfl rfl hl.1 rfl (Nat.le_of_ble_eq_true rfl) dX0_hasCell_6 ⟨Nat.le_of_ble_eq_true rfl, Nat.le_of_ble_eq_true rfl, rfl, rfl⟩ ⟨Nat.le_of_ble_eq_true rfl, Nat.le_of_ble_eq_true rfl⟩) (fun r_2 er_2 => ?_)
    obtain rfl : r_2 = 0 := er_2
    refine lv_icmp_ge (tgt := 16) hx hb dX0_hasCell_9 (by decide) (fun c_3 => ?_) (fun c9 => by have g0 := c_1; have g1 := c9; (try simp only [lg_cmp_ge, lg_cmp_le, lg_cmp_gt, lg_cmp_lt, lg_cmp_eq] at g0 g1); (try simp only [Int32.lt_iff_toInt_lt, Int32.le_iff_toInt_le, ← Int32.toInt_inj, Int32.reduceToInt, Int64.lt_iff_toInt_lt, Int64.le_iff_toInt_le, ← Int64.toInt_inj, Int64.reduceToInt, Int32.toInt_toInt64] at g0 g1); omega)
    refine lv_iconst (v := 0) hx hb dX0_hasCell_16 (by decide) ?_
    exact rd_zret hx hb hr hk rfl (rfl) dX0_hasCell_17

set_option maxHeartbeats 4000000 in
set_option maxRecDepth 100000 in
theorem ct_Board_hasRow {l : Launch} {D : va_G} {q : Nat → ClassId} {h0 g0 g1 g2 g3 g4 g5 g6 g7 g8 g9 g10 g11 : Nat} {x : Int32} : Met l yX0_hasRow (Cond.code yX0_hasRow cX0_hasRow 2 (some .boolean) :: w_all) ({ frames := 0, cells := 0, slots := 0, locals := 0 }) (rd_P D q [.ref h0, .int x] [(h0, .inr (0, [.int 0, .int 0, .int 0, .int 0, .int 0, .int 0, .ref g0, .ref g1, .ref g2, .ref g3, .ref g4, .ref g5, .ref g6, .ref g7, .ref g8, .ref g9, .ref g10, .ref g11]))]) (vp_Si (fun r => r = 0)) 0 0 (fun _ => False) := by
  refine rd_start (by decide) (Nat.le_of_ble_eq_true rfl) ?_
  intro p e s m below meth c ls hx hb hr hml hown ht hk hP hQ hl
  have hK := hQ.1
  have hown : s.vm.findClass RX0 = some m.cls := hown
  have hl : lv_has ls 2 [(0, .ref h0), (1, .int x)] := hl
  refine lv_iload_n hx hb dX0_hasRow_0 rfl (lv_at hl 1 rfl) ?_
  refine lv_if_lt (tgt := 16) hx hb dX0_hasRow_1 (by decide) (fun c_1 => ?_) (fun c_1 => ?_)
  · refine lv_iconst (v := 0) hx hb dX0_hasRow_16 (by decide) ?_
    exact rd_zret hx hb hr hk rfl (rfl) dX0_hasRow_17
  · refine lv_iload_n hx hb dX0_hasRow_4 rfl (lv_at hl 1 rfl) ?_
    refine lv_aload_n hx hb dX0_hasRow_5 rfl (lv_at hl 0 rfl) ?_
    refine fl_get (C := RX0) (T := TX0) (N := 18) (ci := 0) (v := .int 0) hx hb ht in_X0 hown hK hP 0 rfl rfl 0 (by decide) mw_167 rfl dX0_hasRow_6 ?_
    refine lv_icmp_ge (tgt := 16) hx hb dX0_hasRow_9 (by decide) (fun c_2 => ?_) (fun c9 => by have g0 := c_1; have g1 := c9; (try simp only [lg_cmp_ge, lg_cmp_le, lg_cmp_gt, lg_cmp_lt, lg_cmp_eq] at g0 g1); (try simp only [Int32.lt_iff_toInt_lt, Int32.le_iff_toInt_le, ← Int32.toInt_inj, Int32.reduceToInt, Int64.lt_iff_toInt_lt, Int64.le_iff_toInt_le, ← Int64.toInt_inj, Int64.reduceToInt, Int32.toInt_toInt64] at g0 g1); omega)
    refine lv_iconst (v := 0) hx hb dX0_hasRow_16 (by decide) ?_
    exact rd_zret hx hb hr hk rfl (rfl) dX0_hasRow_17

set_option maxHeartbeats 4000000 in
set_option maxRecDepth 100000 in
theorem ct_Board_hasDrum {l : Launch} {D : va_G} {q : Nat → ClassId} {h0 g0 g1 g2 g3 g4 g5 g6 g7 g8 g9 g10 g11 : Nat} {x : Int32} : Met l yX0_hasDrum (Cond.code yX0_hasDrum cX0_hasDrum 2 (some .boolean) :: w_all) ({ frames := 0, cells := 0, slots := 0, locals := 0 }) (rd_P D q [.ref h0, .int x] [(h0, .inr (0, [.int 0, .int 0, .int 0, .int 0, .int 0, .int 0, .ref g0, .ref g1, .ref g2, .ref g3, .ref g4, .ref g5, .ref g6, .ref g7, .ref g8, .ref g9, .ref g10, .ref g11]))]) (vp_Si (fun r => r = 0)) 0 0 (fun _ => False) := by
  refine rd_start (by decide) (Nat.le_of_ble_eq_true rfl) ?_
  intro p e s m below meth c ls hx hb hr hml hown ht hk hP hQ hl
  have hK := hQ.1
  have hown : s.vm.findClass RX0 = some m.cls := hown
  have hl : lv_has ls 2 [(0, .ref h0), (1, .int x)] := hl
  refine lv_iload_n hx hb dX0_hasDrum_0 rfl (lv_at hl 1 rfl) ?_
  refine lv_if_lt (tgt := 16) hx hb dX0_hasDrum_1 (by decide) (fun c_1 => ?_) (fun c_1 => ?_)
  · refine lv_iconst (v := 0) hx hb dX0_hasDrum_16 (by decide) ?_
    exact rd_zret hx hb hr hk rfl (rfl) dX0_hasDrum_17
  · refine lv_iload_n hx hb dX0_hasDrum_4 rfl (lv_at hl 1 rfl) ?_
    refine lv_aload_n hx hb dX0_hasDrum_5 rfl (lv_at hl 0 rfl) ?_
    refine fl_get (C := RX0) (T := TX0) (N := 18) (ci := 0) (v := .int 0) hx hb ht in_X0 hown hK hP 0 rfl rfl 3 (by decide) mw_179 rfl dX0_hasDrum_6 ?_
    refine lv_icmp_ge (tgt := 16) hx hb dX0_hasDrum_9 (by decide) (fun c_2 => ?_) (fun c9 => by have g0 := c_1; have g1 := c9; (try simp only [lg_cmp_ge, lg_cmp_le, lg_cmp_gt, lg_cmp_lt, lg_cmp_eq] at g0 g1); (try simp only [Int32.lt_iff_toInt_lt, Int32.le_iff_toInt_le, ← Int32.toInt_inj, Int32.reduceToInt, Int64.lt_iff_toInt_lt, Int64.le_iff_toInt_le, ← Int64.toInt_inj, Int64.reduceToInt, Int32.toInt_toInt64] at g0 g1); omega)
    refine lv_iconst (v := 0) hx hb dX0_hasDrum_16 (by decide) ?_
    exact rd_zret hx hb hr hk rfl (rfl) dX0_hasDrum_17

set_option maxHeartbeats 4000000 in
set_option maxRecDepth 100000 in
theorem ct_Board_hasFlap {l : Launch} {D : va_G} {q : Nat → ClassId} {h0 g0 g1 g2 g3 g4 g5 g6 g7 g8 g9 g10 g11 : Nat} {x y : Int32} : Met l yX0_hasFlap (Cond.code yX0_hasFlap cX0_hasFlap 3 (some .boolean) :: w_all) ({ frames := 2, cells := 0, slots := 0, locals := 41 }) (rd_P D q [.ref h0, .int x, .int y] [(h0, .inr (0, [.int 0, .int 0, .int 0, .int 0, .int 0, .int 0, .ref g0, .ref g1, .ref g2, .ref g3, .ref g4, .ref g5, .ref g6, .ref g7, .ref g8, .ref g9, .ref g10, .ref g11]))]) (vp_Si (fun r => r = 0)) 0 0 (fun _ => False) := by
  refine rd_start (by decide) (Nat.le_of_ble_eq_true rfl) ?_
  intro p e s m below meth c ls hx hb hr hml hown ht hk hP hQ hl
  have hK := hQ.1
  have hown : s.vm.findClass RX0 = some m.cls := hown
  have hl : lv_has ls 3 [(0, .ref h0), (1, .int x), (2, .int y)] := hl
  refine lv_aload_n hx hb dX0_hasFlap_0 rfl (lv_at hl 0 rfl) ?_
  refine lv_iload_n hx hb dX0_hasFlap_1 rfl (lv_at hl 1 rfl) ?_
  refine vp_callSi (rd_wV (wc := [(h0, .inr (0, [.int 0, .int 0, .int 0, .int 0, .int 0, .int 0, .ref g0, .ref g1, .ref g2, .ref g3, .ref g4, .ref g5, .ref g6, .ref g7, .ref g8, .ref g9, .ref g10, .ref g11]))]) (As := [.int x]) (rest := []) hx hb hml hown ht (ct_Board_hasCell) wd_X0_hasCell mw_584 hQ (hP.sub [0] rfl) rfl rfl rfl hl.1 rfl (Nat.le_of_ble_eq_true rfl) dX0_hasFlap_2 ⟨Nat.le_of_ble_eq_true rfl, Nat.le_of_ble_eq_true rfl, rfl, rfl⟩ ⟨Nat.le_of_ble_eq_true rfl, Nat.le_of_ble_eq_true rfl⟩) (fun r_1 er_1 => ?_)
  obtain rfl : r_1 = 0 := er_1
  refine lv_if_eq (tgt := 25) hx hb dX0_hasFlap_5 (by decide) (fun c_2 => ?_) (fun c9 => absurd (by decide) c9)
  refine lv_iconst (v := 0) hx hb dX0_hasFlap_25 (by decide) ?_
  exact rd_zret hx hb hr hk rfl (rfl) dX0_hasFlap_26

set_option maxHeartbeats 4000000 in
set_option maxRecDepth 100000 in
theorem ct_Board_flapsOn {l : Launch} {D : va_G} {q : Nat → ClassId} {h0 g0 g1 g2 g3 g4 g5 g6 g7 g8 g9 g10 g11 : Nat} {x : Int32} : Met l yX0_flapsOn (Cond.code yX0_flapsOn cX0_flapsOn 2 (some .int) :: w_all) ({ frames := 0, cells := 0, slots := 0, locals := 0 }) (rd_P D q [.ref h0, .int x] [(h0, .inr (0, [.int 0, .int 0, .int 0, .int 0, .int 0, .int 0, .ref g0, .ref g1, .ref g2, .ref g3, .ref g4, .ref g5, .ref g6, .ref g7, .ref g8, .ref g9, .ref g10, .ref g11]))]) (vp_Si (fun r => r = 0)) 0 0 (fun _ => False) := by
  refine rd_start (by decide) (Nat.le_of_ble_eq_true rfl) ?_
  intro p e s m below meth c ls hx hb hr hml hown ht hk hP hQ hl
  have hK := hQ.1
  have hown : s.vm.findClass RX0 = some m.cls := hown
  have hl : lv_has ls 2 [(0, .ref h0), (1, .int x)] := hl
  refine lv_iload_n hx hb dX0_flapsOn_0 rfl (lv_at hl 1 rfl) ?_
  refine lv_if_lt (tgt := 21) hx hb dX0_flapsOn_1 (by decide) (fun c_1 => ?_) (fun c_1 => ?_)
  · refine lv_iconst (v := 0) hx hb dX0_flapsOn_21 (by decide) ?_
    exact rd_iret hx hb hr hk (rfl) dX0_flapsOn_22
  · refine lv_iload_n hx hb dX0_flapsOn_4 rfl (lv_at hl 1 rfl) ?_
    refine lv_aload_n hx hb dX0_flapsOn_5 rfl (lv_at hl 0 rfl) ?_
    refine fl_get (C := RX0) (T := TX0) (N := 18) (ci := 0) (v := .int 0) hx hb ht in_X0 hown hK hP 0 rfl rfl 3 (by decide) mw_179 rfl dX0_flapsOn_6 ?_
    refine lv_icmp_ge (tgt := 21) hx hb dX0_flapsOn_9 (by decide) (fun c_2 => ?_) (fun c9 => by have g0 := c_1; have g1 := c9; (try simp only [lg_cmp_ge, lg_cmp_le, lg_cmp_gt, lg_cmp_lt, lg_cmp_eq] at g0 g1); (try simp only [Int32.lt_iff_toInt_lt, Int32.le_iff_toInt_le, ← Int32.toInt_inj, Int32.reduceToInt, Int64.lt_iff_toInt_lt, Int64.le_iff_toInt_le, ← Int64.toInt_inj, Int64.reduceToInt, Int32.toInt_toInt64] at g0 g1); omega)
    refine lv_iconst (v := 0) hx hb dX0_flapsOn_21 (by decide) ?_
    exact rd_iret hx hb hr hk (rfl) dX0_flapsOn_22

set_option maxHeartbeats 4000000 in
set_option maxRecDepth 100000 in
theorem ct_Board_isMovable {l : Launch} {D : va_G} {q : Nat → ClassId} {h0 g0 g1 g2 g3 g4 g5 g6 g7 g8 g9 g10 g11 : Nat} {x y : Int32} : Met l yX0_isMovable (Cond.code yX0_isMovable cX0_isMovable 3 (some .boolean) :: w_all) ({ frames := 1, cells := 0, slots := 0, locals := 21 }) (rd_P D q [.ref h0, .int x, .int y] [(h0, .inr (0, [.int 0, .int 0, .int 0, .int 0, .int 0, .int 0, .ref g0, .ref g1, .ref g2, .ref g3, .ref g4, .ref g5, .ref g6, .ref g7, .ref g8, .ref g9, .ref g10, .ref g11]))]) (vp_Si (fun r => r = 0)) 0 0 (fun _ => False) := by
  refine rd_start (by decide) (Nat.le_of_ble_eq_true rfl) ?_
  intro p e s m below meth c ls hx hb hr hml hown ht hk hP hQ hl
  have hK := hQ.1
  have hown : s.vm.findClass RX0 = some m.cls := hown
  have hl : lv_has ls 3 [(0, .ref h0), (1, .int x), (2, .int y)] := hl
  refine lv_iload_n hx hb dX0_isMovable_0 rfl (lv_at hl 2 rfl) ?_
  refine lv_if_le (tgt := 17) hx hb dX0_isMovable_1 (by decide) (fun c_1 => ?_) (fun c_1 => ?_)
  · refine lv_iconst (v := 0) hx hb dX0_isMovable_17 (by decide) ?_
    exact rd_zret hx hb hr hk rfl (rfl) dX0_isMovable_18
  · refine lv_iload_n hx hb dX0_isMovable_4 rfl (lv_at hl 2 rfl) ?_
    refine lv_aload_n hx hb dX0_isMovable_5 rfl (lv_at hl 0 rfl) ?_
    refine lv_iload_n hx hb dX0_isMovable_6 rfl (lv_at hl 1 rfl) ?_
    refine vp_callSi (rd_wV (wc := [(h0, .inr (0, [.int 0, .int 0, .int 0, .int 0, .int 0, .int 0, .ref g0, .ref g1, .ref g2, .ref g3, .ref g4, .ref g5, .ref g6, .ref g7, .ref g8, .ref g9, .ref g10, .ref g11]))]) (As := [.int x]) (rest := [.int y]) hx hb hml hown ht (ct_Board_flapsOn) wd_X0_flapsOn mw_772 hQ (hP.sub [0] rfl) rfl rfl rfl hl.1 rfl (Nat.le_of_ble_eq_true rfl) dX0_isMovable_7 ⟨Nat.le_of_ble_eq_true rfl, Nat.le_of_ble_eq_true rfl, rfl, rfl⟩ ⟨Nat.le_of_ble_eq_true rfl, Nat.le_of_ble_eq_true rfl⟩) (fun r_2 er_2 => ?_)
    obtain rfl : r_2 = 0 := er_2
    refine lv_icmp_ge (tgt := 17) hx hb dX0_isMovable_10 (by decide) (fun c_3 => ?_) (fun c9 => by have g0 := c_1; have g1 := c9; (try simp only [lg_cmp_ge, lg_cmp_le, lg_cmp_gt, lg_cmp_lt, lg_cmp_eq] at g0 g1); (try simp only [Int32.lt_iff_toInt_lt, Int32.le_iff_toInt_le, ← Int32.toInt_inj, Int32.reduceToInt, Int64.lt_iff_toInt_lt, Int64.le_iff_toInt_le, ← Int64.toInt_inj, Int64.reduceToInt, Int32.toInt_toInt64] at g0 g1); omega)
    refine lv_iconst (v := 0) hx hb dX0_isMovable_17 (by decide) ?_
    exact rd_zret hx hb hr hk rfl (rfl) dX0_isMovable_18

set_option maxHeartbeats 4000000 in
set_option maxRecDepth 100000 in
theorem ct_Board_signOf {l : Launch} {D : va_G} {q : Nat → ClassId} {h0 g0 g1 g2 g3 g4 g5 g6 g7 g8 g9 g10 g11 : Nat} {x y : Int32} : Met l yX0_signOf (Cond.code yX0_signOf cX0_signOf 3 (some .int) :: w_all) ({ frames := 0, cells := 0, slots := 0, locals := 0 }) (rd_P D q [.ref h0, .int x, .int y] [(h0, .inr (0, [.int 0, .int 0, .int 0, .int 0, .int 0, .int 0, .ref g0, .ref g1, .ref g2, .ref g3, .ref g4, .ref g5, .ref g6, .ref g7, .ref g8, .ref g9, .ref g10, .ref g11]))]) (vp_Si (fun r => r = (-1))) 0 0 (fun _ => False) := by
  refine rd_start (by decide) (Nat.le_of_ble_eq_true rfl) ?_
  intro p e s m below meth c ls hx hb hr hml hown ht hk hP hQ hl
  have hK := hQ.1
  have hown : s.vm.findClass RX0 = some m.cls := hown
  have hl : lv_has ls 3 [(0, .ref h0), (1, .int x), (2, .int y)] := hl
  refine lv_iload_n hx hb dX0_signOf_0 rfl (lv_at hl 1 rfl) ?_
  refine lv_if_lt (tgt := 26) hx hb dX0_signOf_1 (by decide) (fun c_1 => ?_) (fun c_1 => ?_)
  · refine lv_iconst (v := (-1)) hx hb dX0_signOf_26 (by decide) ?_
    exact rd_iret hx hb hr hk (rfl) dX0_signOf_27
  · refine lv_iload_n hx hb dX0_signOf_4 rfl (lv_at hl 1 rfl) ?_
    refine lv_aload_n hx hb dX0_signOf_5 rfl (lv_at hl 0 rfl) ?_
    refine fl_get (C := RX0) (T := TX0) (N := 18) (ci := 0) (v := .int 0) hx hb ht in_X0 hown hK hP 0 rfl rfl 3 (by decide) mw_179 rfl dX0_signOf_6 ?_
    refine lv_icmp_ge (tgt := 26) hx hb dX0_signOf_9 (by decide) (fun c_2 => ?_) (fun c9 => by have g0 := c_1; have g1 := c9; (try simp only [lg_cmp_ge, lg_cmp_le, lg_cmp_gt, lg_cmp_lt, lg_cmp_eq] at g0 g1); (try simp only [Int32.lt_iff_toInt_lt, Int32.le_iff_toInt_le, ← Int32.toInt_inj, Int32.reduceToInt, Int64.lt_iff_toInt_lt, Int64.le_iff_toInt_le, ← Int64.toInt_inj, Int64.reduceToInt, Int32.toInt_toInt64] at g0 g1); omega)
    refine lv_iconst (v := (-1)) hx hb dX0_signOf_26 (by decide) ?_
    exact rd_iret hx hb hr hk (rfl) dX0_signOf_27
end
section
set_option maxHeartbeats 4000000 in
set_option maxRecDepth 100000 in
theorem cf_whyNotRow {l : Launch} {D : va_G} {q : Nat → ClassId} {a : Nat → Nat} {x : Int32} : Met l yX6_whyNotRow (Cond.code yX6_whyNotRow cX6_whyNotRow 2 (some .int) :: w_all) ({ frames := 1, cells := 0, slots := 0, locals := 21 }) (rd_P D q [.ref (a 0), .int x] (fb_w a q)) (vp_Si (fun r => r = (-1))) 0 0 (fun _ => False) := by
  refine rd_start (by decide) (Nat.le_of_ble_eq_true rfl) ?_
  intro p e s m below meth c ls hx hb hr hml hown ht hk hP hQ hl
  have hK := hQ.1
  have hown : s.vm.findClass RX6 = some m.cls := hown
  have hl : lv_has ls 2 [(0, .ref (a 0)), (1, .int x)] := hl
  have hP := hP.sub (ws' := [((a 0), .inr (5, [.ref (a 1), .ref (a 3), .ref (a 16), .ref (a 29), .ref (a 33), .ref (a 41), .ref (a 43)])), ((a 3), .inr (0, [.int 0, .int 0, .int 0, .int 0, .int 0, .int 0, .ref (a 4), .ref (a 5), .ref (a 6), .ref (a 7), .ref (a 8), .ref (a 9), .ref (a 10), .ref (a 11), .ref (a 12), .ref (a 13), .ref (a 14), .ref (a 15)]))]) [0, 3] rfl
  refine lv_aload_n hx hb dX6_whyNotRow_0 rfl (lv_at hl 0 rfl) ?_
  refine fl_get (C := RX6) (T := TX6) (N := 7) (ci := 5) (v := .ref (a 3)) hx hb ht in_X6 hown hK hP 0 rfl rfl 1 (by decide) mw_356 rfl dX6_whyNotRow_1 ?_
  refine lv_iload_n hx hb dX6_whyNotRow_4 rfl (lv_at hl 1 rfl) ?_
  refine vp_callSi (rd_wV (wc := [((a 3), .inr (0, [.int 0, .int 0, .int 0, .int 0, .int 0, .int 0, .ref (a 4), .ref (a 5), .ref (a 6), .ref (a 7), .ref (a 8), .ref (a 9), .ref (a 10), .ref (a 11), .ref (a 12), .ref (a 13), .ref (a 14), .ref (a 15)]))]) (As := [.int x]) (rest := []) hx hb hml hown ht (ct_Board_hasRow) wd_X0_hasRow mw_621 hQ (hP.sub [1] rfl) rfl rfl rfl hl.1 rfl (Nat.le_of_ble_eq_true rfl) dX6_whyNotRow_5 ⟨Nat.le_of_ble_eq_true rfl, Nat.le_of_ble_eq_true rfl, rfl, rfl⟩ ⟨Nat.le_of_ble_eq_true rfl, Nat.le_of_ble_eq_true rfl⟩) (fun r_1 er_1 => ?_)
  obtain rfl : r_1 = 0 := er_1
  refine lv_if_ne (tgt := 13) hx hb dX6_whyNotRow_8 (by decide) (fun c9 => absurd c9 (by decide)) (fun c_2 => ?_)
  refine lv_iconst (v := (-1)) hx hb dX6_whyNotRow_11 (by decide) ?_
  exact rd_iret hx hb hr hk (rfl) dX6_whyNotRow_12

set_option maxHeartbeats 4000000 in
set_option maxRecDepth 100000 in
theorem cf_tick {l : Launch} {D : va_G} {q : Nat → ClassId} {a : Nat → Nat} {x : Int32} : Met l yX6_tick (Cond.code yX6_tick cX6_tick 2 (some .int) :: w_all) ({ frames := 1, cells := 0, slots := 0, locals := 20 }) (rd_P D q [.ref (a 0), .int x] (fb_w a q)) (vp_Si (fun r => r = (-1))) 0 0 (fun _ => False) := by
  refine rd_start (by decide) (Nat.le_of_ble_eq_true rfl) ?_
  intro p e s m below meth c ls hx hb hr hml hown ht hk hP hQ hl
  have hK := hQ.1
  have hown : s.vm.findClass RX6 = some m.cls := hown
  have hl : lv_has ls 2 [(0, .ref (a 0)), (1, .int x)] := hl
  have hP := hP.sub (ws' := [((a 0), .inr (5, [.ref (a 1), .ref (a 3), .ref (a 16), .ref (a 29), .ref (a 33), .ref (a 41), .ref (a 43)])), ((a 3), .inr (0, [.int 0, .int 0, .int 0, .int 0, .int 0, .int 0, .ref (a 4), .ref (a 5), .ref (a 6), .ref (a 7), .ref (a 8), .ref (a 9), .ref (a 10), .ref (a 11), .ref (a 12), .ref (a 13), .ref (a 14), .ref (a 15)]))]) [0, 3] rfl
  refine lv_aload_n hx hb dX6_tick_0 rfl (lv_at hl 0 rfl) ?_
  refine fl_get (C := RX6) (T := TX6) (N := 7) (ci := 5) (v := .ref (a 3)) hx hb ht in_X6 hown hK hP 0 rfl rfl 1 (by decide) mw_356 rfl dX6_tick_1 ?_
  refine vp_callSi (rd_wV (wc := [((a 3), .inr (0, [.int 0, .int 0, .int 0, .int 0, .int 0, .int 0, .ref (a 4), .ref (a 5), .ref (a 6), .ref (a 7), .ref (a 8), .ref (a 9), .ref (a 10), .ref (a 11), .ref (a 12), .ref (a 13), .ref (a 14), .ref (a 15)]))]) (As := []) (rest := []) hx hb hml hown ht (ct_Board_isThere) wd_X0_isThere mw_677 hQ (hP.sub [1] rfl) rfl rfl rfl hl.1 rfl (Nat.le_of_ble_eq_true rfl) dX6_tick_4 ⟨Nat.le_of_ble_eq_true rfl, Nat.le_of_ble_eq_true rfl, rfl, rfl⟩ ⟨Nat.le_of_ble_eq_true rfl, Nat.le_of_ble_eq_true rfl⟩) (fun r_1 er_1 => ?_)
  obtain rfl : r_1 = 0 := er_1
  refine lv_if_eq (tgt := 21) hx hb dX6_tick_7 (by decide) (fun c_2 => ?_) (fun c9 => absurd (by decide) c9)
  refine lv_iconst (v := (-1)) hx hb dX6_tick_21 (by decide) ?_
  exact rd_iret hx hb hr hk (rfl) dX6_tick_22

set_option maxHeartbeats 4000000 in
set_option maxRecDepth 100000 in
theorem cf_settle {l : Launch} {D : va_G} {q : Nat → ClassId} {a : Nat → Nat} : Met l yX6_settle (Cond.code yX6_settle cX6_settle 1 (some .int) :: w_all) ({ frames := 1, cells := 0, slots := 0, locals := 20 }) (rd_P D q [.ref (a 0)] (fb_w a q)) (vp_Si (fun r => r = (-1))) 0 0 (fun _ => False) := by
  refine rd_start (by decide) (Nat.le_of_ble_eq_true rfl) ?_
  intro p e s m below meth c ls hx hb hr hml hown ht hk hP hQ hl
  have hK := hQ.1
  have hown : s.vm.findClass RX6 = some m.cls := hown
  have hl : lv_has ls 1 [(0, .ref (a 0))] := hl
  have hP := hP.sub (ws' := [((a 0), .inr (5, [.ref (a 1), .ref (a 3), .ref (a 16), .ref (a 29), .ref (a 33), .ref (a 41), .ref (a 43)])), ((a 3), .inr (0, [.int 0, .int 0, .int 0, .int 0, .int 0, .int 0, .ref (a 4), .ref (a 5), .ref (a 6), .ref (a 7), .ref (a 8), .ref (a 9), .ref (a 10), .ref (a 11), .ref (a 12), .ref (a 13), .ref (a 14), .ref (a 15)]))]) [0, 3] rfl
  refine lv_aload_n hx hb dX6_settle_0 rfl (lv_at hl 0 rfl) ?_
  refine fl_get (C := RX6) (T := TX6) (N := 7) (ci := 5) (v := .ref (a 3)) hx hb ht in_X6 hown hK hP 0 rfl rfl 1 (by decide) mw_356 rfl dX6_settle_1 ?_
  refine vp_callSi (rd_wV (wc := [((a 3), .inr (0, [.int 0, .int 0, .int 0, .int 0, .int 0, .int 0, .ref (a 4), .ref (a 5), .ref (a 6), .ref (a 7), .ref (a 8), .ref (a 9), .ref (a 10), .ref (a 11), .ref (a 12), .ref (a 13), .ref (a 14), .ref (a 15)]))]) (As := []) (rest := []) hx hb hml hown ht (ct_Board_isThere) wd_X0_isThere mw_677 hQ (hP.sub [1] rfl) rfl rfl rfl hl.1 rfl (Nat.le_of_ble_eq_true rfl) dX6_settle_4 ⟨Nat.le_of_ble_eq_true rfl, Nat.le_of_ble_eq_true rfl, rfl, rfl⟩ ⟨Nat.le_of_ble_eq_true rfl, Nat.le_of_ble_eq_true rfl⟩) (fun r_1 er_1 => ?_)
  obtain rfl : r_1 = 0 := er_1
  refine lv_if_ne (tgt := 12) hx hb dX6_settle_7 (by decide) (fun c9 => absurd c9 (by decide)) (fun c_2 => ?_)
  refine lv_iconst (v := (-1)) hx hb dX6_settle_10 (by decide) ?_
  exact rd_iret hx hb hr hk (rfl) dX6_settle_11

set_option maxHeartbeats 4000000 in
set_option maxRecDepth 100000 in
theorem cf_lose {l : Launch} {D : va_G} {q : Nat → ClassId} {a : Nat → Nat} {x : Int32} {y : Int32} : Met l yX6_lose (Cond.code yX6_lose cX6_lose 4 (some .int) :: w_all) ({ frames := 2, cells := 0, slots := 0, locals := 41 }) (rd_P D q [.ref (a 0), .int x, .int y] (fb_w a q)) (vp_Si (fun r => r = (-1))) 0 0 (fun _ => False) := by
  refine rd_start (by decide) (Nat.le_of_ble_eq_true rfl) ?_
  intro p e s m below meth c ls hx hb hr hml hown ht hk hP hQ hl
  have hK := hQ.1
  have hown : s.vm.findClass RX6 = some m.cls := hown
  have hl : lv_has ls 4 [(0, .ref (a 0)), (1, .int x), (2, .int y)] := hl
  have hP := hP.sub (ws' := [((a 0), .inr (5, [.ref (a 1), .ref (a 3), .ref (a 16), .ref (a 29), .ref (a 33), .ref (a 41), .ref (a 43)])), ((a 3), .inr (0, [.int 0, .int 0, .int 0, .int 0, .int 0, .int 0, .ref (a 4), .ref (a 5), .ref (a 6), .ref (a 7), .ref (a 8), .ref (a 9), .ref (a 10), .ref (a 11), .ref (a 12), .ref (a 13), .ref (a 14), .ref (a 15)]))]) [0, 3] rfl
  refine lv_aload_n hx hb dX6_lose_0 rfl (lv_at hl 0 rfl) ?_
  refine fl_get (C := RX6) (T := TX6) (N := 7) (ci := 5) (v := .ref (a 3)) hx hb ht in_X6 hown hK hP 0 rfl rfl 1 (by decide) mw_356 rfl dX6_lose_1 ?_
  refine lv_iload_n hx hb dX6_lose_4 rfl (lv_at hl 1 rfl) ?_
  refine vp_callSi (rd_wV (wc := [((a 3), .inr (0, [.int 0, .int 0, .int 0, .int 0, .int 0, .int 0, .ref (a 4), .ref (a 5), .ref (a 6), .ref (a 7), .ref (a 8), .ref (a 9), .ref (a 10), .ref (a 11), .ref (a 12), .ref (a 13), .ref (a 14), .ref (a 15)]))]) (As := [.int x]) (rest := []) hx hb hml hown ht (ct_Board_hasCell) wd_X0_hasCell mw_730 hQ (hP.sub [1] rfl) rfl rfl rfl hl.1 rfl (Nat.le_of_ble_eq_true rfl) dX6_lose_5 ⟨Nat.le_of_ble_eq_true rfl, Nat.le_of_ble_eq_true rfl, rfl, rfl⟩ ⟨Nat.le_of_ble_eq_true rfl, Nat.le_of_ble_eq_true rfl⟩) (fun r_1 er_1 => ?_)
  obtain rfl : r_1 = 0 := er_1
  refine lv_if_eq (tgt := 21) hx hb dX6_lose_8 (by decide) (fun c_2 => ?_) (fun c9 => absurd (by decide) c9)
  refine lv_iconst (v := (-1)) hx hb dX6_lose_21 (by decide) ?_
  exact rd_iret hx hb hr hk (rfl) dX6_lose_22

set_option maxHeartbeats 4000000 in
set_option maxRecDepth 100000 in
theorem cf_wear {l : Launch} {D : va_G} {q : Nat → ClassId} {a : Nat → Nat} {x : Int32} {y : Int32} : Met l yX6_wear (Cond.code yX6_wear cX6_wear 3 (some .int) :: w_all) ({ frames := 3, cells := 0, slots := 0, locals := 63 }) (rd_P D q [.ref (a 0), .int x, .int y] (fb_w a q)) (vp_Si (fun r => r = (-1))) 0 0 (fun _ => False) := by
  refine rd_start (by decide) (Nat.le_of_ble_eq_true rfl) ?_
  intro p e s m below meth c ls hx hb hr hml hown ht hk hP hQ hl
  have hK := hQ.1
  have hown : s.vm.findClass RX6 = some m.cls := hown
  have hl : lv_has ls 3 [(0, .ref (a 0)), (1, .int x), (2, .int y)] := hl
  have hP := hP.sub (ws' := [((a 0), .inr (5, [.ref (a 1), .ref (a 3), .ref (a 16), .ref (a 29), .ref (a 33), .ref (a 41), .ref (a 43)])), ((a 3), .inr (0, [.int 0, .int 0, .int 0, .int 0, .int 0, .int 0, .ref (a 4), .ref (a 5), .ref (a 6), .ref (a 7), .ref (a 8), .ref (a 9), .ref (a 10), .ref (a 11), .ref (a 12), .ref (a 13), .ref (a 14), .ref (a 15)]))]) [0, 3] rfl
  refine lv_aload_n hx hb dX6_wear_0 rfl (lv_at hl 0 rfl) ?_
  refine fl_get (C := RX6) (T := TX6) (N := 7) (ci := 5) (v := .ref (a 3)) hx hb ht in_X6 hown hK hP 0 rfl rfl 1 (by decide) mw_356 rfl dX6_wear_1 ?_
  refine lv_iload_n hx hb dX6_wear_4 rfl (lv_at hl 1 rfl) ?_
  refine lv_iload_n hx hb dX6_wear_5 rfl (lv_at hl 2 rfl) ?_
  refine vp_callSi (rd_wV (wc := [((a 3), .inr (0, [.int 0, .int 0, .int 0, .int 0, .int 0, .int 0, .ref (a 4), .ref (a 5), .ref (a 6), .ref (a 7), .ref (a 8), .ref (a 9), .ref (a 10), .ref (a 11), .ref (a 12), .ref (a 13), .ref (a 14), .ref (a 15)]))]) (As := [.int x, .int y]) (rest := []) hx hb hml hown ht (ct_Board_hasFlap) wd_X0_hasFlap mw_736 hQ (hP.sub [1] rfl) rfl rfl rfl hl.1 rfl (Nat.le_of_ble_eq_true rfl) dX6_wear_6 ⟨Nat.le_of_ble_eq_true rfl, Nat.le_of_ble_eq_true rfl, rfl, rfl⟩ ⟨Nat.le_of_ble_eq_true rfl, Nat.le_of_ble_eq_true rfl⟩) (fun r_1 er_1 => ?_)
  obtain rfl : r_1 = 0 := er_1
  refine lv_if_eq (tgt := 16) hx hb dX6_wear_9 (by decide) (fun c_2 => ?_) (fun c9 => absurd (by decide) c9)
  refine lv_iconst (v := (-1)) hx hb dX6_wear_16 (by decide) ?_
  exact rd_iret hx hb hr hk (rfl) dX6_wear_17

set_option maxHeartbeats 4000000 in
set_option maxRecDepth 100000 in
theorem cf_mend {l : Launch} {D : va_G} {q : Nat → ClassId} {a : Nat → Nat} {x : Int32} {y : Int32} : Met l yX6_mend (Cond.code yX6_mend cX6_mend 3 (some .int) :: w_all) ({ frames := 3, cells := 0, slots := 0, locals := 63 }) (rd_P D q [.ref (a 0), .int x, .int y] (fb_w a q)) (vp_Si (fun r => r = (-1))) 0 0 (fun _ => False) := by
  refine rd_start (by decide) (Nat.le_of_ble_eq_true rfl) ?_
  intro p e s m below meth c ls hx hb hr hml hown ht hk hP hQ hl
  have hK := hQ.1
  have hown : s.vm.findClass RX6 = some m.cls := hown
  have hl : lv_has ls 3 [(0, .ref (a 0)), (1, .int x), (2, .int y)] := hl
  have hP := hP.sub (ws' := [((a 0), .inr (5, [.ref (a 1), .ref (a 3), .ref (a 16), .ref (a 29), .ref (a 33), .ref (a 41), .ref (a 43)])), ((a 3), .inr (0, [.int 0, .int 0, .int 0, .int 0, .int 0, .int 0, .ref (a 4), .ref (a 5), .ref (a 6), .ref (a 7), .ref (a 8), .ref (a 9), .ref (a 10), .ref (a 11), .ref (a 12), .ref (a 13), .ref (a 14), .ref (a 15)]))]) [0, 3] rfl
  refine lv_aload_n hx hb dX6_mend_0 rfl (lv_at hl 0 rfl) ?_
  refine fl_get (C := RX6) (T := TX6) (N := 7) (ci := 5) (v := .ref (a 3)) hx hb ht in_X6 hown hK hP 0 rfl rfl 1 (by decide) mw_356 rfl dX6_mend_1 ?_
  refine lv_iload_n hx hb dX6_mend_4 rfl (lv_at hl 1 rfl) ?_
  refine lv_iload_n hx hb dX6_mend_5 rfl (lv_at hl 2 rfl) ?_
  refine vp_callSi (rd_wV (wc := [((a 3), .inr (0, [.int 0, .int 0, .int 0, .int 0, .int 0, .int 0, .ref (a 4), .ref (a 5), .ref (a 6), .ref (a 7), .ref (a 8), .ref (a 9), .ref (a 10), .ref (a 11), .ref (a 12), .ref (a 13), .ref (a 14), .ref (a 15)]))]) (As := [.int x, .int y]) (rest := []) hx hb hml hown ht (ct_Board_hasFlap) wd_X0_hasFlap mw_736 hQ (hP.sub [1] rfl) rfl rfl rfl hl.1 rfl (Nat.le_of_ble_eq_true rfl) dX6_mend_6 ⟨Nat.le_of_ble_eq_true rfl, Nat.le_of_ble_eq_true rfl, rfl, rfl⟩ ⟨Nat.le_of_ble_eq_true rfl, Nat.le_of_ble_eq_true rfl⟩) (fun r_1 er_1 => ?_)
  obtain rfl : r_1 = 0 := er_1
  refine lv_if_ne (tgt := 14) hx hb dX6_mend_9 (by decide) (fun c9 => absurd c9 (by decide)) (fun c_2 => ?_)
  refine lv_iconst (v := (-1)) hx hb dX6_mend_12 (by decide) ?_
  exact rd_iret hx hb hr hk (rfl) dX6_mend_13

set_option maxHeartbeats 4000000 in
set_option maxRecDepth 100000 in
theorem cf_limit {l : Launch} {D : va_G} {q : Nat → ClassId} {a : Nat → Nat} {x : Int32} : Met l yX6_limit (Cond.code yX6_limit cX6_limit 3 (some .int) :: w_all) ({ frames := 1, cells := 0, slots := 0, locals := 20 }) (rd_P D q [.ref (a 0), .int x] (fb_w a q)) (vp_Si (fun r => r = (-1))) 0 0 (fun _ => False) := by
  refine rd_start (by decide) (Nat.le_of_ble_eq_true rfl) ?_
  intro p e s m below meth c ls hx hb hr hml hown ht hk hP hQ hl
  have hK := hQ.1
  have hown : s.vm.findClass RX6 = some m.cls := hown
  have hl : lv_has ls 3 [(0, .ref (a 0)), (1, .int x)] := hl
  have hP := hP.sub (ws' := [((a 0), .inr (5, [.ref (a 1), .ref (a 3), .ref (a 16), .ref (a 29), .ref (a 33), .ref (a 41), .ref (a 43)])), ((a 3), .inr (0, [.int 0, .int 0, .int 0, .int 0, .int 0, .int 0, .ref (a 4), .ref (a 5), .ref (a 6), .ref (a 7), .ref (a 8), .ref (a 9), .ref (a 10), .ref (a 11), .ref (a 12), .ref (a 13), .ref (a 14), .ref (a 15)]))]) [0, 3] rfl
  refine lv_aload_n hx hb dX6_limit_0 rfl (lv_at hl 0 rfl) ?_
  refine fl_get (C := RX6) (T := TX6) (N := 7) (ci := 5) (v := .ref (a 3)) hx hb ht in_X6 hown hK hP 0 rfl rfl 1 (by decide) mw_356 rfl dX6_limit_1 ?_
  refine vp_callSi (rd_wV (wc := [((a 3), .inr (0, [.int 0, .int 0, .int 0, .int 0, .int 0, .int 0, .ref (a 4), .ref (a 5), .ref (a 6), .ref (a 7), .ref (a 8), .ref (a 9), .ref (a 10), .ref (a 11), .ref (a 12), .ref (a 13), .ref (a 14), .ref (a 15)]))]) (As := []) (rest := []) hx hb hml hown ht (ct_Board_isThere) wd_X0_isThere mw_677 hQ (hP.sub [1] rfl) rfl rfl rfl hl.1 rfl (Nat.le_of_ble_eq_true rfl) dX6_limit_4 ⟨Nat.le_of_ble_eq_true rfl, Nat.le_of_ble_eq_true rfl, rfl, rfl⟩ ⟨Nat.le_of_ble_eq_true rfl, Nat.le_of_ble_eq_true rfl⟩) (fun r_1 er_1 => ?_)
  obtain rfl : r_1 = 0 := er_1
  refine lv_if_eq (tgt := 21) hx hb dX6_limit_7 (by decide) (fun c_2 => ?_) (fun c9 => absurd (by decide) c9)
  refine lv_iconst (v := (-1)) hx hb dX6_limit_21 (by decide) ?_
  exact rd_iret hx hb hr hk (rfl) dX6_limit_22

set_option maxHeartbeats 4000000 in
set_option maxRecDepth 100000 in
theorem cf_exchange {l : Launch} {D : va_G} {q : Nat → ClassId} {a : Nat → Nat} {x : Int32} {y : Int32} {z : Int32} : Met l yX6_exchange (Cond.code yX6_exchange cX6_exchange 4 (some .int) :: w_all) ({ frames := 2, cells := 0, slots := 0, locals := 43 }) (rd_P D q [.ref (a 0), .int x, .int y, .int z] (fb_w a q)) (vp_Si (fun r => r = (-1))) 0 0 (fun _ => False) := by
  refine rd_start (by decide) (Nat.le_of_ble_eq_true rfl) ?_
  intro p e s m below meth c ls hx hb hr hml hown ht hk hP hQ hl
  have hK := hQ.1
  have hown : s.vm.findClass RX6 = some m.cls := hown
  have hl : lv_has ls 4 [(0, .ref (a 0)), (1, .int x), (2, .int y), (3, .int z)] := hl
  have hP := hP.sub (ws' := [((a 0), .inr (5, [.ref (a 1), .ref (a 3), .ref (a 16), .ref (a 29), .ref (a 33), .ref (a 41), .ref (a 43)])), ((a 3), .inr (0, [.int 0, .int 0, .int 0, .int 0, .int 0, .int 0, .ref (a 4), .ref (a 5), .ref (a 6), .ref (a 7), .ref (a 8), .ref (a 9), .ref (a 10), .ref (a 11), .ref (a 12), .ref (a 13), .ref (a 14), .ref (a 15)]))]) [0, 3] rfl
  refine lv_aload_n hx hb dX6_exchange_0 rfl (lv_at hl 0 rfl) ?_
  refine fl_get (C := RX6) (T := TX6) (N := 7) (ci := 5) (v := .ref (a 3)) hx hb ht in_X6 hown hK hP 0 rfl rfl 1 (by decide) mw_356 rfl dX6_exchange_1 ?_
  refine lv_iload_n hx hb dX6_exchange_4 rfl (lv_at hl 1 rfl) ?_
  refine lv_iload_n hx hb dX6_exchange_5 rfl (lv_at hl 2 rfl) ?_
  refine vp_callSi (rd_wV (wc := [((a 3), .inr (0, [.int 0, .int 0, .int 0, .int 0, .int 0, .int 0, .ref (a 4), .ref (a 5), .ref (a 6), .ref (a 7), .ref (a 8), .ref (a 9), .ref (a 10), .ref (a 11), .ref (a 12), .ref (a 13), .ref (a 14), .ref (a 15)]))]) (As := [.int x, .int y]) (rest := []) hx hb hml hown ht (ct_Board_isMovable) wd_X0_isMovable mw_768 hQ (hP.sub [1] rfl) rfl rfl rfl hl.1 rfl (Nat.le_of_ble_eq_true rfl) dX6_exchange_6 ⟨Nat.le_of_ble_eq_true rfl, Nat.le_of_ble_eq_true rfl, rfl, rfl⟩ ⟨Nat.le_of_ble_eq_true rfl, Nat.le_of_ble_eq_true rfl⟩) (fun r_1 er_1 => ?_)
  obtain rfl : r_1 = 0 := er_1
  refine lv_if_eq (tgt := 29) hx hb dX6_exchange_9 (by decide) (fun c_2 => ?_) (fun c9 => absurd (by decide) c9)
  refine lv_iconst (v := (-1)) hx hb dX6_exchange_29 (by decide) ?_
  exact rd_iret hx hb hr hk (rfl) dX6_exchange_30

set_option maxHeartbeats 4000000 in
set_option maxRecDepth 100000 in
theorem cf_cell {l : Launch} {D : va_G} {q : Nat → ClassId} {a : Nat → Nat} {x : Int32} {y : Int32} : Met l yX6_cell (Cond.code yX6_cell cX6_cell 3 (some .int) :: w_all) ({ frames := 2, cells := 0, slots := 0, locals := 41 }) (rd_P D q [.ref (a 0), .int x, .int y] (fb_w a q)) (vp_Si (fun r => r = (-1))) 0 0 (fun _ => False) := by
  refine rd_start (by decide) (Nat.le_of_ble_eq_true rfl) ?_
  intro p e s m below meth c ls hx hb hr hml hown ht hk hP hQ hl
  have hK := hQ.1
  have hown : s.vm.findClass RX6 = some m.cls := hown
  have hl : lv_has ls 3 [(0, .ref (a 0)), (1, .int x), (2, .int y)] := hl
  have hP := hP.sub (ws' := [((a 0), .inr (5, [.ref (a 1), .ref (a 3), .ref (a 16), .ref (a 29), .ref (a 33), .ref (a 41), .ref (a 43)])), ((a 3), .inr (0, [.int 0, .int 0, .int 0, .int 0, .int 0, .int 0, .ref (a 4), .ref (a 5), .ref (a 6), .ref (a 7), .ref (a 8), .ref (a 9), .ref (a 10), .ref (a 11), .ref (a 12), .ref (a 13), .ref (a 14), .ref (a 15)]))]) [0, 3] rfl
  refine lv_aload_n hx hb dX6_cell_0 rfl (lv_at hl 0 rfl) ?_
  refine fl_get (C := RX6) (T := TX6) (N := 7) (ci := 5) (v := .ref (a 3)) hx hb ht in_X6 hown hK hP 0 rfl rfl 1 (by decide) mw_356 rfl dX6_cell_1 ?_
  refine lv_iload_n hx hb dX6_cell_4 rfl (lv_at hl 1 rfl) ?_
  refine vp_callSi (rd_wV (wc := [((a 3), .inr (0, [.int 0, .int 0, .int 0, .int 0, .int 0, .int 0, .ref (a 4), .ref (a 5), .ref (a 6), .ref (a 7), .ref (a 8), .ref (a 9), .ref (a 10), .ref (a 11), .ref (a 12), .ref (a 13), .ref (a 14), .ref (a 15)]))]) (As := [.int x]) (rest := []) hx hb hml hown ht (ct_Board_hasCell) wd_X0_hasCell mw_730 hQ (hP.sub [1] rfl) rfl rfl rfl hl.1 rfl (Nat.le_of_ble_eq_true rfl) dX6_cell_5 ⟨Nat.le_of_ble_eq_true rfl, Nat.le_of_ble_eq_true rfl, rfl, rfl⟩ ⟨Nat.le_of_ble_eq_true rfl, Nat.le_of_ble_eq_true rfl⟩) (fun r_1 er_1 => ?_)
  obtain rfl : r_1 = 0 := er_1
  refine lv_if_ne (tgt := 13) hx hb dX6_cell_8 (by decide) (fun c9 => absurd c9 (by decide)) (fun c_2 => ?_)
  refine lv_iconst (v := (-1)) hx hb dX6_cell_11 (by decide) ?_
  exact rd_iret hx hb hr hk (rfl) dX6_cell_12

set_option maxHeartbeats 4000000 in
set_option maxRecDepth 100000 in
theorem cf_drum {l : Launch} {D : va_G} {q : Nat → ClassId} {a : Nat → Nat} {x : Int32} {y : Int32} : Met l yX6_drum (Cond.code yX6_drum cX6_drum 3 (some .int) :: w_all) ({ frames := 1, cells := 0, slots := 0, locals := 21 }) (rd_P D q [.ref (a 0), .int x, .int y] (fb_w a q)) (vp_Si (fun r => r = (-1))) 0 0 (fun _ => False) := by
  refine rd_start (by decide) (Nat.le_of_ble_eq_true rfl) ?_
  intro p e s m below meth c ls hx hb hr hml hown ht hk hP hQ hl
  have hK := hQ.1
  have hown : s.vm.findClass RX6 = some m.cls := hown
  have hl : lv_has ls 3 [(0, .ref (a 0)), (1, .int x), (2, .int y)] := hl
  have hP := hP.sub (ws' := [((a 0), .inr (5, [.ref (a 1), .ref (a 3), .ref (a 16), .ref (a 29), .ref (a 33), .ref (a 41), .ref (a 43)])), ((a 3), .inr (0, [.int 0, .int 0, .int 0, .int 0, .int 0, .int 0, .ref (a 4), .ref (a 5), .ref (a 6), .ref (a 7), .ref (a 8), .ref (a 9), .ref (a 10), .ref (a 11), .ref (a 12), .ref (a 13), .ref (a 14), .ref (a 15)]))]) [0, 3] rfl
  refine lv_aload_n hx hb dX6_drum_0 rfl (lv_at hl 0 rfl) ?_
  refine fl_get (C := RX6) (T := TX6) (N := 7) (ci := 5) (v := .ref (a 3)) hx hb ht in_X6 hown hK hP 0 rfl rfl 1 (by decide) mw_356 rfl dX6_drum_1 ?_
  refine lv_iload_n hx hb dX6_drum_4 rfl (lv_at hl 1 rfl) ?_
  refine vp_callSi (rd_wV (wc := [((a 3), .inr (0, [.int 0, .int 0, .int 0, .int 0, .int 0, .int 0, .ref (a 4), .ref (a 5), .ref (a 6), .ref (a 7), .ref (a 8), .ref (a 9), .ref (a 10), .ref (a 11), .ref (a 12), .ref (a 13), .ref (a 14), .ref (a 15)]))]) (As := [.int x]) (rest := []) hx hb hml hown ht (ct_Board_hasDrum) wd_X0_hasDrum mw_904 hQ (hP.sub [1] rfl) rfl rfl rfl hl.1 rfl (Nat.le_of_ble_eq_true rfl) dX6_drum_5 ⟨Nat.le_of_ble_eq_true rfl, Nat.le_of_ble_eq_true rfl, rfl, rfl⟩ ⟨Nat.le_of_ble_eq_true rfl, Nat.le_of_ble_eq_true rfl⟩) (fun r_1 er_1 => ?_)
  obtain rfl : r_1 = 0 := er_1
  refine lv_if_ne (tgt := 13) hx hb dX6_drum_8 (by decide) (fun c9 => absurd c9 (by decide)) (fun c_2 => ?_)
  refine lv_iconst (v := (-1)) hx hb dX6_drum_11 (by decide) ?_
  exact rd_iret hx hb hr hk (rfl) dX6_drum_12

set_option maxHeartbeats 4000000 in
set_option maxRecDepth 100000 in
theorem cf_sign {l : Launch} {D : va_G} {q : Nat → ClassId} {a : Nat → Nat} {x : Int32} {y : Int32} : Met l yX6_sign (Cond.code yX6_sign cX6_sign 3 (some .int) :: w_all) ({ frames := 1, cells := 0, slots := 0, locals := 22 }) (rd_P D q [.ref (a 0), .int x, .int y] (fb_w a q)) (vp_Si (fun r => r = (-1))) 0 0 (fun _ => False) := by
  refine rd_start (by decide) (Nat.le_of_ble_eq_true rfl) ?_
  intro p e s m below meth c ls hx hb hr hml hown ht hk hP hQ hl
  have hK := hQ.1
  have hown : s.vm.findClass RX6 = some m.cls := hown
  have hl : lv_has ls 3 [(0, .ref (a 0)), (1, .int x), (2, .int y)] := hl
  have hP := hP.sub (ws' := [((a 0), .inr (5, [.ref (a 1), .ref (a 3), .ref (a 16), .ref (a 29), .ref (a 33), .ref (a 41), .ref (a 43)])), ((a 3), .inr (0, [.int 0, .int 0, .int 0, .int 0, .int 0, .int 0, .ref (a 4), .ref (a 5), .ref (a 6), .ref (a 7), .ref (a 8), .ref (a 9), .ref (a 10), .ref (a 11), .ref (a 12), .ref (a 13), .ref (a 14), .ref (a 15)]))]) [0, 3] rfl
  refine lv_aload_n hx hb dX6_sign_0 rfl (lv_at hl 0 rfl) ?_
  refine fl_get (C := RX6) (T := TX6) (N := 7) (ci := 5) (v := .ref (a 3)) hx hb ht in_X6 hown hK hP 0 rfl rfl 1 (by decide) mw_356 rfl dX6_sign_1 ?_
  refine lv_iload_n hx hb dX6_sign_4 rfl (lv_at hl 1 rfl) ?_
  refine lv_iload_n hx hb dX6_sign_5 rfl (lv_at hl 2 rfl) ?_
  refine vp_callSi (rd_wV (wc := [((a 3), .inr (0, [.int 0, .int 0, .int 0, .int 0, .int 0, .int 0, .ref (a 4), .ref (a 5), .ref (a 6), .ref (a 7), .ref (a 8), .ref (a 9), .ref (a 10), .ref (a 11), .ref (a 12), .ref (a 13), .ref (a 14), .ref (a 15)]))]) (As := [.int x, .int y]) (rest := []) hx hb hml hown ht (ct_Board_signOf) wd_X0_signOf mw_934 hQ (hP.sub [1] rfl) rfl rfl rfl hl.1 rfl (Nat.le_of_ble_eq_true rfl) dX6_sign_6 ⟨Nat.le_of_ble_eq_true rfl, Nat.le_of_ble_eq_true rfl, rfl, rfl⟩ ⟨Nat.le_of_ble_eq_true rfl, Nat.le_of_ble_eq_true rfl⟩) (fun r_1 er_1 => ?_)
  obtain rfl : r_1 = (-1) := er_1
  exact rd_iret hx hb hr hk (rfl) dX6_sign_9

set_option maxHeartbeats 4000000 in
set_option maxRecDepth 100000 in
theorem cf_at {l : Launch} {D : va_G} {q : Nat → ClassId} {a : Nat → Nat} {x : Int32} {y : Int32} {z : Int32} : Met l yX6_at (Cond.code yX6_at cX6_at 5 (some .int) :: w_all) ({ frames := 1, cells := 0, slots := 0, locals := 21 }) (rd_P D q [.ref (a 0), .int x, .int y, .int z] (fb_w a q)) (vp_Si (fun r => r = (-1))) 0 0 (fun _ => False) := by
  refine rd_start (by decide) (Nat.le_of_ble_eq_true rfl) ?_
  intro p e s m below meth c ls hx hb hr hml hown ht hk hP hQ hl
  have hK := hQ.1
  have hown : s.vm.findClass RX6 = some m.cls := hown
  have hl : lv_has ls 5 [(0, .ref (a 0)), (1, .int x), (2, .int y), (3, .int z)] := hl
  have hP := hP.sub (ws' := [((a 0), .inr (5, [.ref (a 1), .ref (a 3), .ref (a 16), .ref (a 29), .ref (a 33), .ref (a 41), .ref (a 43)])), ((a 3), .inr (0, [.int 0, .int 0, .int 0, .int 0, .int 0, .int 0, .ref (a 4), .ref (a 5), .ref (a 6), .ref (a 7), .ref (a 8), .ref (a 9), .ref (a 10), .ref (a 11), .ref (a 12), .ref (a 13), .ref (a 14), .ref (a 15)]))]) [0, 3] rfl
  refine lv_aload_n hx hb dX6_at_0 rfl (lv_at hl 0 rfl) ?_
  refine fl_get (C := RX6) (T := TX6) (N := 7) (ci := 5) (v := .ref (a 3)) hx hb ht in_X6 hown hK hP 0 rfl rfl 1 (by decide) mw_356 rfl dX6_at_1 ?_
  refine lv_iload_n hx hb dX6_at_4 rfl (lv_at hl 1 rfl) ?_
  refine vp_callSi (rd_wV (wc := [((a 3), .inr (0, [.int 0, .int 0, .int 0, .int 0, .int 0, .int 0, .ref (a 4), .ref (a 5), .ref (a 6), .ref (a 7), .ref (a 8), .ref (a 9), .ref (a 10), .ref (a 11), .ref (a 12), .ref (a 13), .ref (a 14), .ref (a 15)]))]) (As := [.int x]) (rest := []) hx hb hml hown ht (ct_Board_hasRow) wd_X0_hasRow mw_621 hQ (hP.sub [1] rfl) rfl rfl rfl hl.1 rfl (Nat.le_of_ble_eq_true rfl) dX6_at_5 ⟨Nat.le_of_ble_eq_true rfl, Nat.le_of_ble_eq_true rfl, rfl, rfl⟩ ⟨Nat.le_of_ble_eq_true rfl, Nat.le_of_ble_eq_true rfl⟩) (fun r_1 er_1 => ?_)
  obtain rfl : r_1 = 0 := er_1
  refine lv_if_eq (tgt := 26) hx hb dX6_at_8 (by decide) (fun c_2 => ?_) (fun c9 => absurd (by decide) c9)
  refine lv_iconst (v := (-1)) hx hb dX6_at_26 (by decide) ?_
  exact rd_iret hx hb hr hk (rfl) dX6_at_27

set_option maxHeartbeats 4000000 in
set_option maxRecDepth 100000 in
theorem cf_left {l : Launch} {D : va_G} {q : Nat → ClassId} {a : Nat → Nat} {x : Int32} : Met l yX6_left (Cond.code yX6_left cX6_left 2 (some .int) :: w_all) ({ frames := 1, cells := 0, slots := 0, locals := 20 }) (rd_P D q [.ref (a 0), .int x] (fb_w a q)) (vp_Si (fun r => r = (-1))) 0 0 (fun _ => False) := by
  refine rd_start (by decide) (Nat.le_of_ble_eq_true rfl) ?_
  intro p e s m below meth c ls hx hb hr hml hown ht hk hP hQ hl
  have hK := hQ.1
  have hown : s.vm.findClass RX6 = some m.cls := hown
  have hl : lv_has ls 2 [(0, .ref (a 0)), (1, .int x)] := hl
  have hP := hP.sub (ws' := [((a 0), .inr (5, [.ref (a 1), .ref (a 3), .ref (a 16), .ref (a 29), .ref (a 33), .ref (a 41), .ref (a 43)])), ((a 3), .inr (0, [.int 0, .int 0, .int 0, .int 0, .int 0, .int 0, .ref (a 4), .ref (a 5), .ref (a 6), .ref (a 7), .ref (a 8), .ref (a 9), .ref (a 10), .ref (a 11), .ref (a 12), .ref (a 13), .ref (a 14), .ref (a 15)]))]) [0, 3] rfl
  refine lv_aload_n hx hb dX6_left_0 rfl (lv_at hl 0 rfl) ?_
  refine fl_get (C := RX6) (T := TX6) (N := 7) (ci := 5) (v := .ref (a 3)) hx hb ht in_X6 hown hK hP 0 rfl rfl 1 (by decide) mw_356 rfl dX6_left_1 ?_
  refine vp_callSi (rd_wV (wc := [((a 3), .inr (0, [.int 0, .int 0, .int 0, .int 0, .int 0, .int 0, .ref (a 4), .ref (a 5), .ref (a 6), .ref (a 7), .ref (a 8), .ref (a 9), .ref (a 10), .ref (a 11), .ref (a 12), .ref (a 13), .ref (a 14), .ref (a 15)]))]) (As := []) (rest := []) hx hb hml hown ht (ct_Board_isThere) wd_X0_isThere mw_677 hQ (hP.sub [1] rfl) rfl rfl rfl hl.1 rfl (Nat.le_of_ble_eq_true rfl) dX6_left_4 ⟨Nat.le_of_ble_eq_true rfl, Nat.le_of_ble_eq_true rfl, rfl, rfl⟩ ⟨Nat.le_of_ble_eq_true rfl, Nat.le_of_ble_eq_true rfl⟩) (fun r_1 er_1 => ?_)
  obtain rfl : r_1 = 0 := er_1
  refine lv_if_ne (tgt := 12) hx hb dX6_left_7 (by decide) (fun c9 => absurd c9 (by decide)) (fun c_2 => ?_)
  refine lv_iconst (v := (-1)) hx hb dX6_left_10 (by decide) ?_
  exact rd_iret hx hb hr hk (rfl) dX6_left_11

set_option maxHeartbeats 4000000 in
set_option maxRecDepth 100000 in
theorem cf_when {l : Launch} {D : va_G} {q : Nat → ClassId} {a : Nat → Nat} {x : Int32} : Met l yX6_when (Cond.code yX6_when cX6_when 2 (some .int) :: w_all) ({ frames := 1, cells := 0, slots := 0, locals := 20 }) (rd_P D q [.ref (a 0), .int x] (fb_w a q)) (vp_Si (fun r => r = (-1))) 0 0 (fun _ => False) := by
  refine rd_start (by decide) (Nat.le_of_ble_eq_true rfl) ?_
  intro p e s m below meth c ls hx hb hr hml hown ht hk hP hQ hl
  have hK := hQ.1
  have hown : s.vm.findClass RX6 = some m.cls := hown
  have hl : lv_has ls 2 [(0, .ref (a 0)), (1, .int x)] := hl
  have hP := hP.sub (ws' := [((a 0), .inr (5, [.ref (a 1), .ref (a 3), .ref (a 16), .ref (a 29), .ref (a 33), .ref (a 41), .ref (a 43)])), ((a 3), .inr (0, [.int 0, .int 0, .int 0, .int 0, .int 0, .int 0, .ref (a 4), .ref (a 5), .ref (a 6), .ref (a 7), .ref (a 8), .ref (a 9), .ref (a 10), .ref (a 11), .ref (a 12), .ref (a 13), .ref (a 14), .ref (a 15)]))]) [0, 3] rfl
  refine lv_aload_n hx hb dX6_when_0 rfl (lv_at hl 0 rfl) ?_
  refine fl_get (C := RX6) (T := TX6) (N := 7) (ci := 5) (v := .ref (a 3)) hx hb ht in_X6 hown hK hP 0 rfl rfl 1 (by decide) mw_356 rfl dX6_when_1 ?_
  refine vp_callSi (rd_wV (wc := [((a 3), .inr (0, [.int 0, .int 0, .int 0, .int 0, .int 0, .int 0, .ref (a 4), .ref (a 5), .ref (a 6), .ref (a 7), .ref (a 8), .ref (a 9), .ref (a 10), .ref (a 11), .ref (a 12), .ref (a 13), .ref (a 14), .ref (a 15)]))]) (As := []) (rest := []) hx hb hml hown ht (ct_Board_isThere) wd_X0_isThere mw_677 hQ (hP.sub [1] rfl) rfl rfl rfl hl.1 rfl (Nat.le_of_ble_eq_true rfl) dX6_when_4 ⟨Nat.le_of_ble_eq_true rfl, Nat.le_of_ble_eq_true rfl, rfl, rfl⟩ ⟨Nat.le_of_ble_eq_true rfl, Nat.le_of_ble_eq_true rfl⟩) (fun r_1 er_1 => ?_)
  obtain rfl : r_1 = 0 := er_1
  refine lv_if_eq (tgt := 19) hx hb dX6_when_7 (by decide) (fun c_2 => ?_) (fun c9 => absurd (by decide) c9)
  refine lv_iconst (v := (-1)) hx hb dX6_when_19 (by decide) ?_
  exact rd_iret hx hb hr hk (rfl) dX6_when_20

set_option maxHeartbeats 4000000 in
set_option maxRecDepth 100000 in
theorem cf_loudest {l : Launch} {D : va_G} {q : Nat → ClassId} {a : Nat → Nat} {x : Int32} : Met l yX6_loudest (Cond.code yX6_loudest cX6_loudest 2 (some .int) :: w_all) ({ frames := 1, cells := 0, slots := 0, locals := 20 }) (rd_P D q [.ref (a 0), .int x] (fb_w a q)) (vp_Si (fun r => r = (-1))) 0 0 (fun _ => False) := by
  refine rd_start (by decide) (Nat.le_of_ble_eq_true rfl) ?_
  intro p e s m below meth c ls hx hb hr hml hown ht hk hP hQ hl
  have hK := hQ.1
  have hown : s.vm.findClass RX6 = some m.cls := hown
  have hl : lv_has ls 2 [(0, .ref (a 0)), (1, .int x)] := hl
  have hP := hP.sub (ws' := [((a 0), .inr (5, [.ref (a 1), .ref (a 3), .ref (a 16), .ref (a 29), .ref (a 33), .ref (a 41), .ref (a 43)])), ((a 3), .inr (0, [.int 0, .int 0, .int 0, .int 0, .int 0, .int 0, .ref (a 4), .ref (a 5), .ref (a 6), .ref (a 7), .ref (a 8), .ref (a 9), .ref (a 10), .ref (a 11), .ref (a 12), .ref (a 13), .ref (a 14), .ref (a 15)]))]) [0, 3] rfl
  refine lv_aload_n hx hb dX6_loudest_0 rfl (lv_at hl 0 rfl) ?_
  refine fl_get (C := RX6) (T := TX6) (N := 7) (ci := 5) (v := .ref (a 3)) hx hb ht in_X6 hown hK hP 0 rfl rfl 1 (by decide) mw_356 rfl dX6_loudest_1 ?_
  refine vp_callSi (rd_wV (wc := [((a 3), .inr (0, [.int 0, .int 0, .int 0, .int 0, .int 0, .int 0, .ref (a 4), .ref (a 5), .ref (a 6), .ref (a 7), .ref (a 8), .ref (a 9), .ref (a 10), .ref (a 11), .ref (a 12), .ref (a 13), .ref (a 14), .ref (a 15)]))]) (As := []) (rest := []) hx hb hml hown ht (ct_Board_isThere) wd_X0_isThere mw_677 hQ (hP.sub [1] rfl) rfl rfl rfl hl.1 rfl (Nat.le_of_ble_eq_true rfl) dX6_loudest_4 ⟨Nat.le_of_ble_eq_true rfl, Nat.le_of_ble_eq_true rfl, rfl, rfl⟩ ⟨Nat.le_of_ble_eq_true rfl, Nat.le_of_ble_eq_true rfl⟩) (fun r_1 er_1 => ?_)
  obtain rfl : r_1 = 0 := er_1
  refine lv_if_eq (tgt := 19) hx hb dX6_loudest_7 (by decide) (fun c_2 => ?_) (fun c9 => absurd (by decide) c9)
  refine lv_iconst (v := (-1)) hx hb dX6_loudest_19 (by decide) ?_
  exact rd_iret hx hb hr hk (rfl) dX6_loudest_20

set_option maxHeartbeats 4000000 in
set_option maxRecDepth 100000 in
theorem cf_total {l : Launch} {D : va_G} {q : Nat → ClassId} {a : Nat → Nat} {x : Int32} : Met l yX6_total (Cond.code yX6_total cX6_total 2 (some .int) :: w_all) ({ frames := 1, cells := 0, slots := 0, locals := 20 }) (rd_P D q [.ref (a 0), .int x] (fb_w a q)) (vp_Si (fun r => r = (-1))) 0 0 (fun _ => False) := by
  refine rd_start (by decide) (Nat.le_of_ble_eq_true rfl) ?_
  intro p e s m below meth c ls hx hb hr hml hown ht hk hP hQ hl
  have hK := hQ.1
  have hown : s.vm.findClass RX6 = some m.cls := hown
  have hl : lv_has ls 2 [(0, .ref (a 0)), (1, .int x)] := hl
  have hP := hP.sub (ws' := [((a 0), .inr (5, [.ref (a 1), .ref (a 3), .ref (a 16), .ref (a 29), .ref (a 33), .ref (a 41), .ref (a 43)])), ((a 3), .inr (0, [.int 0, .int 0, .int 0, .int 0, .int 0, .int 0, .ref (a 4), .ref (a 5), .ref (a 6), .ref (a 7), .ref (a 8), .ref (a 9), .ref (a 10), .ref (a 11), .ref (a 12), .ref (a 13), .ref (a 14), .ref (a 15)]))]) [0, 3] rfl
  refine lv_aload_n hx hb dX6_total_0 rfl (lv_at hl 0 rfl) ?_
  refine fl_get (C := RX6) (T := TX6) (N := 7) (ci := 5) (v := .ref (a 3)) hx hb ht in_X6 hown hK hP 0 rfl rfl 1 (by decide) mw_356 rfl dX6_total_1 ?_
  refine vp_callSi (rd_wV (wc := [((a 3), .inr (0, [.int 0, .int 0, .int 0, .int 0, .int 0, .int 0, .ref (a 4), .ref (a 5), .ref (a 6), .ref (a 7), .ref (a 8), .ref (a 9), .ref (a 10), .ref (a 11), .ref (a 12), .ref (a 13), .ref (a 14), .ref (a 15)]))]) (As := []) (rest := []) hx hb hml hown ht (ct_Board_isThere) wd_X0_isThere mw_677 hQ (hP.sub [1] rfl) rfl rfl rfl hl.1 rfl (Nat.le_of_ble_eq_true rfl) dX6_total_4 ⟨Nat.le_of_ble_eq_true rfl, Nat.le_of_ble_eq_true rfl, rfl, rfl⟩ ⟨Nat.le_of_ble_eq_true rfl, Nat.le_of_ble_eq_true rfl⟩) (fun r_1 er_1 => ?_)
  obtain rfl : r_1 = 0 := er_1
  refine lv_if_ne (tgt := 12) hx hb dX6_total_7 (by decide) (fun c9 => absurd c9 (by decide)) (fun c_2 => ?_)
  refine lv_iconst (v := (-1)) hx hb dX6_total_10 (by decide) ?_
  exact rd_iret hx hb hr hk (rfl) dX6_total_11

set_option maxHeartbeats 4000000 in
set_option maxRecDepth 100000 in
theorem cf_rests {l : Launch} {D : va_G} {q : Nat → ClassId} {a : Nat → Nat} {x : Int32} : Met l yX6_rests (Cond.code yX6_rests cX6_rests 3 (some .int) :: w_all) ({ frames := 2, cells := 0, slots := 0, locals := 41 }) (rd_P D q [.ref (a 0), .int x] (fb_w a q)) (vp_Si (fun r => r = (-1))) 0 0 (fun _ => False) := by
  refine rd_start (by decide) (Nat.le_of_ble_eq_true rfl) ?_
  intro p e s m below meth c ls hx hb hr hml hown ht hk hP hQ hl
  have hK := hQ.1
  have hown : s.vm.findClass RX6 = some m.cls := hown
  have hl : lv_has ls 3 [(0, .ref (a 0)), (1, .int x)] := hl
  have hP := hP.sub (ws' := [((a 0), .inr (5, [.ref (a 1), .ref (a 3), .ref (a 16), .ref (a 29), .ref (a 33), .ref (a 41), .ref (a 43)])), ((a 3), .inr (0, [.int 0, .int 0, .int 0, .int 0, .int 0, .int 0, .ref (a 4), .ref (a 5), .ref (a 6), .ref (a 7), .ref (a 8), .ref (a 9), .ref (a 10), .ref (a 11), .ref (a 12), .ref (a 13), .ref (a 14), .ref (a 15)]))]) [0, 3] rfl
  refine lv_aload_n hx hb dX6_rests_0 rfl (lv_at hl 0 rfl) ?_
  refine fl_get (C := RX6) (T := TX6) (N := 7) (ci := 5) (v := .ref (a 3)) hx hb ht in_X6 hown hK hP 0 rfl rfl 1 (by decide) mw_356 rfl dX6_rests_1 ?_
  refine lv_iload_n hx hb dX6_rests_4 rfl (lv_at hl 1 rfl) ?_
  refine vp_callSi (rd_wV (wc := [((a 3), .inr (0, [.int 0, .int 0, .int 0, .int 0, .int 0, .int 0, .ref (a 4), .ref (a 5), .ref (a 6), .ref (a 7), .ref (a 8), .ref (a 9), .ref (a 10), .ref (a 11), .ref (a 12), .ref (a 13), .ref (a 14), .ref (a 15)]))]) (As := [.int x]) (rest := []) hx hb hml hown ht (ct_Board_hasCell) wd_X0_hasCell mw_730 hQ (hP.sub [1] rfl) rfl rfl rfl hl.1 rfl (Nat.le_of_ble_eq_true rfl) dX6_rests_5 ⟨Nat.le_of_ble_eq_true rfl, Nat.le_of_ble_eq_true rfl, rfl, rfl⟩ ⟨Nat.le_of_ble_eq_true rfl, Nat.le_of_ble_eq_true rfl⟩) (fun r_1 er_1 => ?_)
  obtain rfl : r_1 = 0 := er_1
  refine lv_if_ne (tgt := 13) hx hb dX6_rests_8 (by decide) (fun c9 => absurd c9 (by decide)) (fun c_2 => ?_)
  refine lv_iconst (v := (-1)) hx hb dX6_rests_11 (by decide) ?_
  exact rd_iret hx hb hr hk (rfl) dX6_rests_12

set_option maxHeartbeats 4000000 in
set_option maxRecDepth 100000 in
theorem cf_cost {l : Launch} {D : va_G} {q : Nat → ClassId} {a : Nat → Nat} {x : Int32} : Met l yX6_cost (Cond.code yX6_cost cX6_cost 3 (some .int) :: w_all) ({ frames := 2, cells := 0, slots := 0, locals := 42 }) (rd_P D q [.ref (a 0), .int x] (fb_w a q)) (vp_Si (fun r => r = (-1))) 0 0 (fun _ => False) := by
  refine rd_start (by decide) (Nat.le_of_ble_eq_true rfl) ?_
  intro p e s m below meth c ls hx hb hr hml hown ht hk hP hQ hl
  have hK := hQ.1
  have hown : s.vm.findClass RX6 = some m.cls := hown
  have hl : lv_has ls 3 [(0, .ref (a 0)), (1, .int x)] := hl
  have hP := hP.sub (ws' := [((a 0), .inr (5, [.ref (a 1), .ref (a 3), .ref (a 16), .ref (a 29), .ref (a 33), .ref (a 41), .ref (a 43)])), ((a 1), .inr (4, [.ref (a 2), .int 0, .int 0, .int 0, .int 0, .int 0, .int 0])), ((a 2), .inl (q 0, 400, .inl (fun _ => 0))), ((a 3), .inr (0, [.int 0, .int 0, .int 0, .int 0, .int 0, .int 0, .ref (a 4), .ref (a 5), .ref (a 6), .ref (a 7), .ref (a 8), .ref (a 9), .ref (a 10), .ref (a 11), .ref (a 12), .ref (a 13), .ref (a 14), .ref (a 15)])), ((a 4), .inl (q 0, 4, .inl (fun _ => 0))), ((a 5), .inl (q 0, 4, .inl (fun _ => 0))), ((a 6), .inl (q 0, 160, .inl (fun _ => 0))), ((a 7), .inl (q 0, 40, .inl (fun _ => 0))), ((a 8), .inl (q 0, 40, .inl (fun _ => 0))), ((a 9), .inl (q 0, 40, .inl (fun _ => 0))), ((a 10), .inl (q 0, 40, .inl (fun _ => 0))), ((a 11), .inl (q 0, 40, .inl (fun _ => 0))), ((a 12), .inl (q 0, 40, .inl (fun _ => 0))), ((a 13), .inl (q 0, 40, .inl (fun _ => 0))), ((a 14), .inl (q 1, 40, .inr (.inl (fun _ => 0)))), ((a 15), .inl (q 0, 0, .inl (fun _ => 0))), ((a 16), .inr (0, [.int 0, .int 0, .int 0, .int 0, .int 0, .int 0, .ref (a 17), .ref (a 18), .ref (a 19), .ref (a 20), .ref (a 21), .ref (a 22), .ref (a 23), .ref (a 24), .ref (a 25), .ref (a 26), .ref (a 27), .ref (a 28)])), ((a 17), .inl (q 0, 4, .inl (fun _ => 0))), ((a 18), .inl (q 0, 4, .inl (fun _ => 0))), ((a 19), .inl (q 0, 160, .inl (fun _ => 0))), ((a 20), .inl (q 0, 40, .inl (fun _ => 0))), ((a 21), .inl (q 0, 40, .inl (fun _ => 0))), ((a 22), .inl (q 0, 40, .inl (fun _ => 0))), ((a 23), .inl (q 0, 40, .inl (fun _ => 0))), ((a 24), .inl (q 0, 40, .inl (fun _ => 0))), ((a 25), .inl (q 0, 40, .inl (fun _ => 0))), ((a 26), .inl (q 0, 40, .inl (fun _ => 0))), ((a 27), .inl (q 1, 40, .inr (.inl (fun _ => 0)))), ((a 28), .inl (q 0, 0, .inl (fun _ => 0))), ((a 29), .inr (1, [.ref (a 30), .ref (a 31), .ref (a 32), .int 0, .int 0, .int 0, .int 0, .int 0, .int 0, .int 0, .int 0, .int 0])), ((a 30), .inl (q 0, 40, .inl (fun _ => 0))), ((a 31), .inl (q 0, 40, .inl (fun _ => 0))), ((a 32), .inl (q 0, 40, .inl (fun _ => 0))), ((a 33), .inr (3, [.ref (a 34), .ref (a 35), .ref (a 36), .ref (a 37), .ref (a 38), .ref (a 39), .ref (a 40), .int 0, .int 0, .int 0])), ((a 34), .inl (q 0, 80, .inl (fun _ => 0))), ((a 35), .inl (q 0, 80, .inl (fun _ => 0))), ((a 36), .inl (q 0, 80, .inl (fun _ => 0))), ((a 37), .inl (q 0, 80, .inl (fun _ => 0))), ((a 38), .inl (q 0, 80, .inl (fun _ => 0))), ((a 39), .inl (q 0, 3, .inl (fun _ => 0))), ((a 40), .inl (q 0, 3, .inl (fun _ => 0))), ((a 41), .inr (2, [.ref (a 42), .int 0, .int 0])), ((a 42), .inl (q 4, 10, .inr (.inr (.inr (.inr (fun _ => none)))))), ((a 43), .inl (q 4, 2, .inr (.inr (.inr (.inr (fun _ => none))))))]) [0, 1, 2, 3, 4, 5, 6, 7, 8, 9, 10, 11, 12, 13, 14, 15, 16, 17, 18, 19, 20, 21, 22, 23, 24, 25, 26, 27, 28, 29, 30, 31, 32, 33, 34, 35, 36, 37, 38, 39, 40, 41, 42, 43] rfl
  refine lv_aload_n hx hb dX6_cost_0 rfl (lv_at hl 0 rfl) ?_
  refine lv_iload_n hx hb dX6_cost_1 rfl (lv_at hl 1 rfl) ?_
  refine vp_callSi (rd_wV (wc := [((a 0), .inr (5, [.ref (a 1), .ref (a 3), .ref (a 16), .ref (a 29), .ref (a 33), .ref (a 41), .ref (a 43)])), ((a 1), .inr (4, [.ref (a 2), .int 0, .int 0, .int 0, .int 0, .int 0, .int 0])), ((a 2), .inl (q 0, 400, .inl (fun _ => 0))), ((a 3), .inr (0, [.int 0, .int 0, .int 0, .int 0, .int 0, .int 0, .ref (a 4), .ref (a 5), .ref (a 6), .ref (a 7), .ref (a 8), .ref (a 9), .ref (a 10), .ref (a 11), .ref (a 12), .ref (a 13), .ref (a 14), .ref (a 15)])), ((a 4), .inl (q 0, 4, .inl (fun _ => 0))), ((a 5), .inl (q 0, 4, .inl (fun _ => 0))), ((a 6), .inl (q 0, 160, .inl (fun _ => 0))), ((a 7), .inl (q 0, 40, .inl (fun _ => 0))), ((a 8), .inl (q 0, 40, .inl (fun _ => 0))), ((a 9), .inl (q 0, 40, .inl (fun _ => 0))), ((a 10), .inl (q 0, 40, .inl (fun _ => 0))), ((a 11), .inl (q 0, 40, .inl (fun _ => 0))), ((a 12), .inl (q 0, 40, .inl (fun _ => 0))), ((a 13), .inl (q 0, 40, .inl (fun _ => 0))), ((a 14), .inl (q 1, 40, .inr (.inl (fun _ => 0)))), ((a 15), .inl (q 0, 0, .inl (fun _ => 0))), ((a 16), .inr (0, [.int 0, .int 0, .int 0, .int 0, .int 0, .int 0, .ref (a 17), .ref (a 18), .ref (a 19), .ref (a 20), .ref (a 21), .ref (a 22), .ref (a 23), .ref (a 24), .ref (a 25), .ref (a 26), .ref (a 27), .ref (a 28)])), ((a 17), .inl (q 0, 4, .inl (fun _ => 0))), ((a 18), .inl (q 0, 4, .inl (fun _ => 0))), ((a 19), .inl (q 0, 160, .inl (fun _ => 0))), ((a 20), .inl (q 0, 40, .inl (fun _ => 0))), ((a 21), .inl (q 0, 40, .inl (fun _ => 0))), ((a 22), .inl (q 0, 40, .inl (fun _ => 0))), ((a 23), .inl (q 0, 40, .inl (fun _ => 0))), ((a 24), .inl (q 0, 40, .inl (fun _ => 0))), ((a 25), .inl (q 0, 40, .inl (fun _ => 0))), ((a 26), .inl (q 0, 40, .inl (fun _ => 0))), ((a 27), .inl (q 1, 40, .inr (.inl (fun _ => 0)))), ((a 28), .inl (q 0, 0, .inl (fun _ => 0))), ((a 29), .inr (1, [.ref (a 30), .ref (a 31), .ref (a 32), .int 0, .int 0, .int 0, .int 0, .int 0, .int 0, .int 0, .int 0, .int 0])), ((a 30), .inl (q 0, 40, .inl (fun _ => 0))), ((a 31), .inl (q 0, 40, .inl (fun _ => 0))), ((a 32), .inl (q 0, 40, .inl (fun _ => 0))), ((a 33), .inr (3, [.ref (a 34), .ref (a 35), .ref (a 36), .ref (a 37), .ref (a 38), .ref (a 39), .ref (a 40), .int 0, .int 0, .int 0])), ((a 34), .inl (q 0, 80, .inl (fun _ => 0))), ((a 35), .inl (q 0, 80, .inl (fun _ => 0))), ((a 36), .inl (q 0, 80, .inl (fun _ => 0))), ((a 37), .inl (q 0, 80, .inl (fun _ => 0))), ((a 38), .inl (q 0, 80, .inl (fun _ => 0))), ((a 39), .inl (q 0, 3, .inl (fun _ => 0))), ((a 40), .inl (q 0, 3, .inl (fun _ => 0))), ((a 41), .inr (2, [.ref (a 42), .int 0, .int 0])), ((a 42), .inl (q 4, 10, .inr (.inr (.inr (.inr (fun _ => none)))))), ((a 43), .inl (q 4, 2, .inr (.inr (.inr (.inr (fun _ => none))))))]) (As := [.int x]) (rest := []) hx hb hml hown ht (cf_whyNotRow) wd_X6_whyNotRow mw_617 hQ (hP.sub [0, 1, 2, 3, 4, 5, 6, 7, 8, 9, 10, 11, 12, 13, 14, 15, 16, 17, 18, 19, 20, 21, 22, 23, 24, 25, 26, 27, 28, 29, 30, 31, 32, 33, 34, 35, 36, 37, 38, 39, 40, 41, 42, 43] rfl) rfl rfl rfl hl.1 rfl (Nat.le_of_ble_eq_true rfl) dX6_cost_2 ⟨Nat.le_of_ble_eq_true rfl, Nat.le_of_ble_eq_true rfl, rfl, rfl⟩ ⟨Nat.le_of_ble_eq_true rfl, Nat.le_of_ble_eq_true rfl⟩) (fun r_1 er_1 => ?_)
  obtain rfl : r_1 = (-1) := er_1
  refine lv_istore_n (lv' := [(2, .int (-1)), (0, .ref (a 0)), (1, .int x)]) hx hb dX6_cost_5 rfl hl (by decide) rfl (fun ls hl => ?_)
  refine lv_iload_n hx hb dX6_cost_6 rfl (lv_at hl 0 rfl) ?_
  refine lv_if_ne (tgt := 34) hx hb dX6_cost_7 (by decide) (fun c_2 => ?_) (fun c9 => absurd c9 (by decide))
  refine lv_iload_n hx hb dX6_cost_34 rfl (lv_at hl 0 rfl) ?_
  exact rd_iret hx hb hr hk (rfl) dX6_cost_35

set_option maxHeartbeats 4000000 in
set_option maxRecDepth 100000 in
theorem cf_best {l : Launch} {D : va_G} {q : Nat → ClassId} {a : Nat → Nat} {x : Int32} {y : Int32} : Met l yX6_best (Cond.code yX6_best cX6_best 12 (some .int) :: w_all) ({ frames := 1, cells := 0, slots := 0, locals := 21 }) (rd_P D q [.ref (a 0), .int x, .int y] (fb_w a q)) (vp_Si (fun r => r = (-1))) 0 0 (fun _ => False) := by
  refine rd_start (by decide) (Nat.le_of_ble_eq_true rfl) ?_
  intro p e s m below meth c ls hx hb hr hml hown ht hk hP hQ hl
  have hK := hQ.1
  have hown : s.vm.findClass RX6 = some m.cls := hown
  have hl : lv_has ls 12 [(0, .ref (a 0)), (1, .int x), (2, .int y)] := hl
  have hP := hP.sub (ws' := [((a 0), .inr (5, [.ref (a 1), .ref (a 3), .ref (a 16), .ref (a 29), .ref (a 33), .ref (a 41), .ref (a 43)])), ((a 3), .inr (0, [.int 0, .int 0, .int 0, .int 0, .int 0, .int 0, .ref (a 4), .ref (a 5), .ref (a 6), .ref (a 7), .ref (a 8), .ref (a 9), .ref (a 10), .ref (a 11), .ref (a 12), .ref (a 13), .ref (a 14), .ref (a 15)]))]) [0, 3] rfl
  refine lv_aload_n hx hb dX6_best_0 rfl (lv_at hl 0 rfl) ?_
  refine fl_get (C := RX6) (T := TX6) (N := 7) (ci := 5) (v := .ref (a 3)) hx hb ht in_X6 hown hK hP 0 rfl rfl 1 (by decide) mw_356 rfl dX6_best_1 ?_
  refine lv_iload_n hx hb dX6_best_4 rfl (lv_at hl 1 rfl) ?_
  refine vp_callSi (rd_wV (wc := [((a 3), .inr (0, [.int 0, .int 0, .int 0, .int 0, .int 0, .int 0, .ref (a 4), .ref (a 5), .ref (a 6), .ref (a 7), .ref (a 8), .ref (a 9), .ref (a 10), .ref (a 11), .ref (a 12), .ref (a 13), .ref (a 14), .ref (a 15)]))]) (As := [.int x]) (rest := []) hx hb hml hown ht (ct_Board_hasRow) wd_X0_hasRow mw_621 hQ (hP.sub [1] rfl) rfl rfl rfl hl.1 rfl (Nat.le_of_ble_eq_true rfl) dX6_best_5 ⟨Nat.le_of_ble_eq_true rfl, Nat.le_of_ble_eq_true rfl, rfl, rfl⟩ ⟨Nat.le_of_ble_eq_true rfl, Nat.le_of_ble_eq_true rfl⟩) (fun r_1 er_1 => ?_)
  obtain rfl : r_1 = 0 := er_1
  refine lv_if_eq (tgt := 20) hx hb dX6_best_8 (by decide) (fun c_2 => ?_) (fun c9 => absurd (by decide) c9)
  refine lv_iconst (v := (-1)) hx hb dX6_best_20 (by decide) ?_
  exact rd_iret hx hb hr hk (rfl) dX6_best_21

set_option maxHeartbeats 4000000 in
set_option maxRecDepth 100000 in
theorem cf_place {l : Launch} {D : va_G} {q : Nat → ClassId} {a : Nat → Nat} {x : Int32} {y : Int32} : Met l yX6_place (Cond.code yX6_place cX6_place 10 (some .int) :: w_all) ({ frames := 1, cells := 0, slots := 0, locals := 21 }) (rd_P D q [.ref (a 0), .int x, .int y] (fb_w a q)) (vp_Si (fun r => r = (-1))) 0 0 (fun _ => False) := by
  refine rd_start (by decide) (Nat.le_of_ble_eq_true rfl) ?_
  intro p e s m below meth c ls hx hb hr hml hown ht hk hP hQ hl
  have hK := hQ.1
  have hown : s.vm.findClass RX6 = some m.cls := hown
  have hl : lv_has ls 10 [(0, .ref (a 0)), (1, .int x), (2, .int y)] := hl
  have hP := hP.sub (ws' := [((a 0), .inr (5, [.ref (a 1), .ref (a 3), .ref (a 16), .ref (a 29), .ref (a 33), .ref (a 41), .ref (a 43)])), ((a 3), .inr (0, [.int 0, .int 0, .int 0, .int 0, .int 0, .int 0, .ref (a 4), .ref (a 5), .ref (a 6), .ref (a 7), .ref (a 8), .ref (a 9), .ref (a 10), .ref (a 11), .ref (a 12), .ref (a 13), .ref (a 14), .ref (a 15)]))]) [0, 3] rfl
  refine lv_aload_n hx hb dX6_place_0 rfl (lv_at hl 0 rfl) ?_
  refine fl_get (C := RX6) (T := TX6) (N := 7) (ci := 5) (v := .ref (a 3)) hx hb ht in_X6 hown hK hP 0 rfl rfl 1 (by decide) mw_356 rfl dX6_place_1 ?_
  refine lv_iload_n hx hb dX6_place_4 rfl (lv_at hl 1 rfl) ?_
  refine vp_callSi (rd_wV (wc := [((a 3), .inr (0, [.int 0, .int 0, .int 0, .int 0, .int 0, .int 0, .ref (a 4), .ref (a 5), .ref (a 6), .ref (a 7), .ref (a 8), .ref (a 9), .ref (a 10), .ref (a 11), .ref (a 12), .ref (a 13), .ref (a 14), .ref (a 15)]))]) (As := [.int x]) (rest := []) hx hb hml hown ht (ct_Board_hasRow) wd_X0_hasRow mw_621 hQ (hP.sub [1] rfl) rfl rfl rfl hl.1 rfl (Nat.le_of_ble_eq_true rfl) dX6_place_5 ⟨Nat.le_of_ble_eq_true rfl, Nat.le_of_ble_eq_true rfl, rfl, rfl⟩ ⟨Nat.le_of_ble_eq_true rfl, Nat.le_of_ble_eq_true rfl⟩) (fun r_1 er_1 => ?_)
  obtain rfl : r_1 = 0 := er_1
  refine lv_if_eq (tgt := 20) hx hb dX6_place_8 (by decide) (fun c_2 => ?_) (fun c9 => absurd (by decide) c9)
  refine lv_iconst (v := (-1)) hx hb dX6_place_20 (by decide) ?_
  exact rd_iret hx hb hr hk (rfl) dX6_place_21

set_option maxHeartbeats 4000000 in
set_option maxRecDepth 100000 in
theorem cf_log {l : Launch} {D : va_G} {q : Nat → ClassId} {a : Nat → Nat} {x : Int32} {y : Int32} : Met l yX6_log (Cond.code yX6_log cX6_log 3 (some .int) :: w_all) ({ frames := 1, cells := 0, slots := 0, locals := 21 }) (rd_P D q [.ref (a 0), .int x, .int y] (fb_w a q)) (vp_Si (fun r => r = (-1))) 0 0 (fun _ => False) := by
  refine rd_start (by decide) (Nat.le_of_ble_eq_true rfl) ?_
  intro p e s m below meth c ls hx hb hr hml hown ht hk hP hQ hl
  have hK := hQ.1
  have hown : s.vm.findClass RX6 = some m.cls := hown
  have hl : lv_has ls 3 [(0, .ref (a 0)), (1, .int x), (2, .int y)] := hl
  have hP := hP.sub (ws' := [((a 0), .inr (5, [.ref (a 1), .ref (a 3), .ref (a 16), .ref (a 29), .ref (a 33), .ref (a 41), .ref (a 43)])), ((a 3), .inr (0, [.int 0, .int 0, .int 0, .int 0, .int 0, .int 0, .ref (a 4), .ref (a 5), .ref (a 6), .ref (a 7), .ref (a 8), .ref (a 9), .ref (a 10), .ref (a 11), .ref (a 12), .ref (a 13), .ref (a 14), .ref (a 15)]))]) [0, 3] rfl
  refine lv_aload_n hx hb dX6_log_0 rfl (lv_at hl 0 rfl) ?_
  refine fl_get (C := RX6) (T := TX6) (N := 7) (ci := 5) (v := .ref (a 3)) hx hb ht in_X6 hown hK hP 0 rfl rfl 1 (by decide) mw_356 rfl dX6_log_1 ?_
  refine lv_iload_n hx hb dX6_log_4 rfl (lv_at hl 1 rfl) ?_
  refine vp_callSi (rd_wV (wc := [((a 3), .inr (0, [.int 0, .int 0, .int 0, .int 0, .int 0, .int 0, .ref (a 4), .ref (a 5), .ref (a 6), .ref (a 7), .ref (a 8), .ref (a 9), .ref (a 10), .ref (a 11), .ref (a 12), .ref (a 13), .ref (a 14), .ref (a 15)]))]) (As := [.int x]) (rest := []) hx hb hml hown ht (ct_Board_hasDrum) wd_X0_hasDrum mw_904 hQ (hP.sub [1] rfl) rfl rfl rfl hl.1 rfl (Nat.le_of_ble_eq_true rfl) dX6_log_5 ⟨Nat.le_of_ble_eq_true rfl, Nat.le_of_ble_eq_true rfl, rfl, rfl⟩ ⟨Nat.le_of_ble_eq_true rfl, Nat.le_of_ble_eq_true rfl⟩) (fun r_1 er_1 => ?_)
  obtain rfl : r_1 = 0 := er_1
  refine lv_if_ne (tgt := 13) hx hb dX6_log_8 (by decide) (fun c9 => absurd c9 (by decide)) (fun c_2 => ?_)
  refine lv_iconst (v := (-1)) hx hb dX6_log_11 (by decide) ?_
  exact rd_iret hx hb hr hk (rfl) dX6_log_12

set_option maxHeartbeats 4000000 in
set_option maxRecDepth 100000 in
theorem cf_usual {l : Launch} {D : va_G} {q : Nat → ClassId} {a : Nat → Nat} {x : Int32} {y : Int32} : Met l yX6_usual (Cond.code yX6_usual cX6_usual 7 (some .int) :: w_all) ({ frames := 1, cells := 0, slots := 0, locals := 21 }) (rd_P D q [.ref (a 0), .int x, .int y] (fb_w a q)) (vp_Si (fun r => r = (-1))) 0 0 (fun _ => False) := by
  refine rd_start (by decide) (Nat.le_of_ble_eq_true rfl) ?_
  intro p e s m below meth c ls hx hb hr hml hown ht hk hP hQ hl
  have hK := hQ.1
  have hown : s.vm.findClass RX6 = some m.cls := hown
  have hl : lv_has ls 7 [(0, .ref (a 0)), (1, .int x), (2, .int y)] := hl
  have hP := hP.sub (ws' := [((a 0), .inr (5, [.ref (a 1), .ref (a 3), .ref (a 16), .ref (a 29), .ref (a 33), .ref (a 41), .ref (a 43)])), ((a 3), .inr (0, [.int 0, .int 0, .int 0, .int 0, .int 0, .int 0, .ref (a 4), .ref (a 5), .ref (a 6), .ref (a 7), .ref (a 8), .ref (a 9), .ref (a 10), .ref (a 11), .ref (a 12), .ref (a 13), .ref (a 14), .ref (a 15)]))]) [0, 3] rfl
  refine lv_aload_n hx hb dX6_usual_0 rfl (lv_at hl 0 rfl) ?_
  refine fl_get (C := RX6) (T := TX6) (N := 7) (ci := 5) (v := .ref (a 3)) hx hb ht in_X6 hown hK hP 0 rfl rfl 1 (by decide) mw_356 rfl dX6_usual_1 ?_
  refine lv_iload_n hx hb dX6_usual_4 rfl (lv_at hl 1 rfl) ?_
  refine vp_callSi (rd_wV (wc := [((a 3), .inr (0, [.int 0, .int 0, .int 0, .int 0, .int 0, .int 0, .ref (a 4), .ref (a 5), .ref (a 6), .ref (a 7), .ref (a 8), .ref (a 9), .ref (a 10), .ref (a 11), .ref (a 12), .ref (a 13), .ref (a 14), .ref (a 15)]))]) (As := [.int x]) (rest := []) hx hb hml hown ht (ct_Board_hasDrum) wd_X0_hasDrum mw_904 hQ (hP.sub [1] rfl) rfl rfl rfl hl.1 rfl (Nat.le_of_ble_eq_true rfl) dX6_usual_5 ⟨Nat.le_of_ble_eq_true rfl, Nat.le_of_ble_eq_true rfl, rfl, rfl⟩ ⟨Nat.le_of_ble_eq_true rfl, Nat.le_of_ble_eq_true rfl⟩) (fun r_1 er_1 => ?_)
  obtain rfl : r_1 = 0 := er_1
  refine lv_if_eq (tgt := 20) hx hb dX6_usual_8 (by decide) (fun c_2 => ?_) (fun c9 => absurd (by decide) c9)
  refine lv_iconst (v := (-1)) hx hb dX6_usual_20 (by decide) ?_
  exact rd_iret hx hb hr hk (rfl) dX6_usual_21

set_option maxHeartbeats 4000000 in
set_option maxRecDepth 100000 in
theorem cf_better {l : Launch} {D : va_G} {q : Nat → ClassId} {a : Nat → Nat} {x : Int32} {y : Int32} : Met l yX6_better (Cond.code yX6_better cX6_better 10 (some .int) :: w_all) ({ frames := 1, cells := 0, slots := 0, locals := 21 }) (rd_P D q [.ref (a 0), .int x, .int y] (fb_w a q)) (vp_Si (fun r => r = (-1))) 0 0 (fun _ => False) := by
  refine rd_start (by decide) (Nat.le_of_ble_eq_true rfl) ?_
  intro p e s m below meth c ls hx hb hr hml hown ht hk hP hQ hl
  have hK := hQ.1
  have hown : s.vm.findClass RX6 = some m.cls := hown
  have hl : lv_has ls 10 [(0, .ref (a 0)), (1, .int x), (2, .int y)] := hl
  have hP := hP.sub (ws' := [((a 0), .inr (5, [.ref (a 1), .ref (a 3), .ref (a 16), .ref (a 29), .ref (a 33), .ref (a 41), .ref (a 43)])), ((a 3), .inr (0, [.int 0, .int 0, .int 0, .int 0, .int 0, .int 0, .ref (a 4), .ref (a 5), .ref (a 6), .ref (a 7), .ref (a 8), .ref (a 9), .ref (a 10), .ref (a 11), .ref (a 12), .ref (a 13), .ref (a 14), .ref (a 15)]))]) [0, 3] rfl
  refine lv_aload_n hx hb dX6_better_0 rfl (lv_at hl 0 rfl) ?_
  refine fl_get (C := RX6) (T := TX6) (N := 7) (ci := 5) (v := .ref (a 3)) hx hb ht in_X6 hown hK hP 0 rfl rfl 1 (by decide) mw_356 rfl dX6_better_1 ?_
  refine lv_iload_n hx hb dX6_better_4 rfl (lv_at hl 1 rfl) ?_
  refine vp_callSi (rd_wV (wc := [((a 3), .inr (0, [.int 0, .int 0, .int 0, .int 0, .int 0, .int 0, .ref (a 4), .ref (a 5), .ref (a 6), .ref (a 7), .ref (a 8), .ref (a 9), .ref (a 10), .ref (a 11), .ref (a 12), .ref (a 13), .ref (a 14), .ref (a 15)]))]) (As := [.int x]) (rest := []) hx hb hml hown ht (ct_Board_hasDrum) wd_X0_hasDrum mw_904 hQ (hP.sub [1] rfl) rfl rfl rfl hl.1 rfl (Nat.le_of_ble_eq_true rfl) dX6_better_5 ⟨Nat.le_of_ble_eq_true rfl, Nat.le_of_ble_eq_true rfl, rfl, rfl⟩ ⟨Nat.le_of_ble_eq_true rfl, Nat.le_of_ble_eq_true rfl⟩) (fun r_1 er_1 => ?_)
  obtain rfl : r_1 = 0 := er_1
  refine lv_if_eq (tgt := 20) hx hb dX6_better_8 (by decide) (fun c_2 => ?_) (fun c9 => absurd (by decide) c9)
  refine lv_iconst (v := (-1)) hx hb dX6_better_20 (by decide) ?_
  exact rd_iret hx hb hr hk (rfl) dX6_better_21

set_option maxHeartbeats 4000000 in
set_option maxRecDepth 100000 in
theorem cf_farthest {l : Launch} {D : va_G} {q : Nat → ClassId} {a : Nat → Nat} {x : Int32} {y : Int32} : Met l yX6_farthest (Cond.code yX6_farthest cX6_farthest 8 (some .int) :: w_all) ({ frames := 2, cells := 0, slots := 0, locals := 41 }) (rd_P D q [.ref (a 0), .int x, .int y] (fb_w a q)) (vp_Si (fun r => r = (-1))) 0 0 (fun _ => False) := by
  refine rd_start (by decide) (Nat.le_of_ble_eq_true rfl) ?_
  intro p e s m below meth c ls hx hb hr hml hown ht hk hP hQ hl
  have hK := hQ.1
  have hown : s.vm.findClass RX6 = some m.cls := hown
  have hl : lv_has ls 8 [(0, .ref (a 0)), (1, .int x), (2, .int y)] := hl
  have hP := hP.sub (ws' := [((a 0), .inr (5, [.ref (a 1), .ref (a 3), .ref (a 16), .ref (a 29), .ref (a 33), .ref (a 41), .ref (a 43)])), ((a 3), .inr (0, [.int 0, .int 0, .int 0, .int 0, .int 0, .int 0, .ref (a 4), .ref (a 5), .ref (a 6), .ref (a 7), .ref (a 8), .ref (a 9), .ref (a 10), .ref (a 11), .ref (a 12), .ref (a 13), .ref (a 14), .ref (a 15)]))]) [0, 3] rfl
  refine lv_aload_n hx hb dX6_farthest_0 rfl (lv_at hl 0 rfl) ?_
  refine fl_get (C := RX6) (T := TX6) (N := 7) (ci := 5) (v := .ref (a 3)) hx hb ht in_X6 hown hK hP 0 rfl rfl 1 (by decide) mw_356 rfl dX6_farthest_1 ?_
  refine lv_iload_n hx hb dX6_farthest_4 rfl (lv_at hl 1 rfl) ?_
  refine vp_callSi (rd_wV (wc := [((a 3), .inr (0, [.int 0, .int 0, .int 0, .int 0, .int 0, .int 0, .ref (a 4), .ref (a 5), .ref (a 6), .ref (a 7), .ref (a 8), .ref (a 9), .ref (a 10), .ref (a 11), .ref (a 12), .ref (a 13), .ref (a 14), .ref (a 15)]))]) (As := [.int x]) (rest := []) hx hb hml hown ht (ct_Board_hasCell) wd_X0_hasCell mw_730 hQ (hP.sub [1] rfl) rfl rfl rfl hl.1 rfl (Nat.le_of_ble_eq_true rfl) dX6_farthest_5 ⟨Nat.le_of_ble_eq_true rfl, Nat.le_of_ble_eq_true rfl, rfl, rfl⟩ ⟨Nat.le_of_ble_eq_true rfl, Nat.le_of_ble_eq_true rfl⟩) (fun r_1 er_1 => ?_)
  obtain rfl : r_1 = 0 := er_1
  refine lv_if_eq (tgt := 20) hx hb dX6_farthest_8 (by decide) (fun c_2 => ?_) (fun c9 => absurd (by decide) c9)
  refine lv_iconst (v := (-1)) hx hb dX6_farthest_20 (by decide) ?_
  exact rd_iret hx hb hr hk (rfl) dX6_farthest_21

set_option maxHeartbeats 4000000 in
set_option maxRecDepth 100000 in
theorem cf_lacks {l : Launch} {D : va_G} {q : Nat → ClassId} {a : Nat → Nat} {x : Int32} {y : Int32} : Met l yX6_lacks (Cond.code yX6_lacks cX6_lacks 3 (some .int) :: w_all) ({ frames := 2, cells := 0, slots := 0, locals := 41 }) (rd_P D q [.ref (a 0), .int x, .int y] (fb_w a q)) (vp_Si (fun r => r = (-1))) 0 0 (fun _ => False) := by
  refine rd_start (by decide) (Nat.le_of_ble_eq_true rfl) ?_
  intro p e s m below meth c ls hx hb hr hml hown ht hk hP hQ hl
  have hK := hQ.1
  have hown : s.vm.findClass RX6 = some m.cls := hown
  have hl : lv_has ls 3 [(0, .ref (a 0)), (1, .int x), (2, .int y)] := hl
  have hP := hP.sub (ws' := [((a 0), .inr (5, [.ref (a 1), .ref (a 3), .ref (a 16), .ref (a 29), .ref (a 33), .ref (a 41), .ref (a 43)])), ((a 3), .inr (0, [.int 0, .int 0, .int 0, .int 0, .int 0, .int 0, .ref (a 4), .ref (a 5), .ref (a 6), .ref (a 7), .ref (a 8), .ref (a 9), .ref (a 10), .ref (a 11), .ref (a 12), .ref (a 13), .ref (a 14), .ref (a 15)]))]) [0, 3] rfl
  refine lv_aload_n hx hb dX6_lacks_0 rfl (lv_at hl 0 rfl) ?_
  refine fl_get (C := RX6) (T := TX6) (N := 7) (ci := 5) (v := .ref (a 3)) hx hb ht in_X6 hown hK hP 0 rfl rfl 1 (by decide) mw_356 rfl dX6_lacks_1 ?_
  refine lv_iload_n hx hb dX6_lacks_4 rfl (lv_at hl 1 rfl) ?_
  refine vp_callSi (rd_wV (wc := [((a 3), .inr (0, [.int 0, .int 0, .int 0, .int 0, .int 0, .int 0, .ref (a 4), .ref (a 5), .ref (a 6), .ref (a 7), .ref (a 8), .ref (a 9), .ref (a 10), .ref (a 11), .ref (a 12), .ref (a 13), .ref (a 14), .ref (a 15)]))]) (As := [.int x]) (rest := []) hx hb hml hown ht (ct_Board_hasCell) wd_X0_hasCell mw_730 hQ (hP.sub [1] rfl) rfl rfl rfl hl.1 rfl (Nat.le_of_ble_eq_true rfl) dX6_lacks_5 ⟨Nat.le_of_ble_eq_true rfl, Nat.le_of_ble_eq_true rfl, rfl, rfl⟩ ⟨Nat.le_of_ble_eq_true rfl, Nat.le_of_ble_eq_true rfl⟩) (fun r_1 er_1 => ?_)
  obtain rfl : r_1 = 0 := er_1
  refine lv_if_eq (tgt := 20) hx hb dX6_lacks_8 (by decide) (fun c_2 => ?_) (fun c9 => absurd (by decide) c9)
  refine lv_iconst (v := (-1)) hx hb dX6_lacks_20 (by decide) ?_
  exact rd_iret hx hb hr hk (rfl) dX6_lacks_21

set_option maxHeartbeats 4000000 in
set_option maxRecDepth 100000 in
theorem cf_unlike {l : Launch} {D : va_G} {q : Nat → ClassId} {a : Nat → Nat} {x : Int32} {y : Int32} : Met l yX6_unlike (Cond.code yX6_unlike cX6_unlike 7 (some .int) :: w_all) ({ frames := 1, cells := 0, slots := 0, locals := 21 }) (rd_P D q [.ref (a 0), .int x, .int y] (fb_w a q)) (vp_Si (fun r => r = (-1))) 0 0 (fun _ => False) := by
  refine rd_start (by decide) (Nat.le_of_ble_eq_true rfl) ?_
  intro p e s m below meth c ls hx hb hr hml hown ht hk hP hQ hl
  have hK := hQ.1
  have hown : s.vm.findClass RX6 = some m.cls := hown
  have hl : lv_has ls 7 [(0, .ref (a 0)), (1, .int x), (2, .int y)] := hl
  have hP := hP.sub (ws' := [((a 0), .inr (5, [.ref (a 1), .ref (a 3), .ref (a 16), .ref (a 29), .ref (a 33), .ref (a 41), .ref (a 43)])), ((a 3), .inr (0, [.int 0, .int 0, .int 0, .int 0, .int 0, .int 0, .ref (a 4), .ref (a 5), .ref (a 6), .ref (a 7), .ref (a 8), .ref (a 9), .ref (a 10), .ref (a 11), .ref (a 12), .ref (a 13), .ref (a 14), .ref (a 15)]))]) [0, 3] rfl
  refine lv_aload_n hx hb dX6_unlike_0 rfl (lv_at hl 0 rfl) ?_
  refine fl_get (C := RX6) (T := TX6) (N := 7) (ci := 5) (v := .ref (a 3)) hx hb ht in_X6 hown hK hP 0 rfl rfl 1 (by decide) mw_356 rfl dX6_unlike_1 ?_
  refine lv_iload_n hx hb dX6_unlike_4 rfl (lv_at hl 1 rfl) ?_
  refine vp_callSi (rd_wV (wc := [((a 3), .inr (0, [.int 0, .int 0, .int 0, .int 0, .int 0, .int 0, .ref (a 4), .ref (a 5), .ref (a 6), .ref (a 7), .ref (a 8), .ref (a 9), .ref (a 10), .ref (a 11), .ref (a 12), .ref (a 13), .ref (a 14), .ref (a 15)]))]) (As := [.int x]) (rest := []) hx hb hml hown ht (ct_Board_hasRow) wd_X0_hasRow mw_621 hQ (hP.sub [1] rfl) rfl rfl rfl hl.1 rfl (Nat.le_of_ble_eq_true rfl) dX6_unlike_5 ⟨Nat.le_of_ble_eq_true rfl, Nat.le_of_ble_eq_true rfl, rfl, rfl⟩ ⟨Nat.le_of_ble_eq_true rfl, Nat.le_of_ble_eq_true rfl⟩) (fun r_1 er_1 => ?_)
  obtain rfl : r_1 = 0 := er_1
  refine lv_if_eq (tgt := 27) hx hb dX6_unlike_8 (by decide) (fun c_2 => ?_) (fun c9 => absurd (by decide) c9)
  refine lv_iconst (v := (-1)) hx hb dX6_unlike_27 (by decide) ?_
  exact rd_iret hx hb hr hk (rfl) dX6_unlike_28
end
