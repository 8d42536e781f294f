section
-- ===== PART A: goes FIRST, ahead of the names: the tables' words, and 'selects' of the private methods out of them =====
/-- a private method of a class that the tables say can be made, by its rows of tables_1 -/
def lw_okq (q : MethodName × Nat) : Prop := (q.1.cls ≠ "java/lang/invoke/MethodHandle" ∧ q.1.cls ≠ "java/lang/invoke/VarHandle") ∧ Cond.instantiable q.1.cls q.2 ∈ tables_1 ∧ Cond.privateMethod q.1 ∈ tables_1 ∧ Cond.instanceMethod q.1 ∈ tables_1
theorem lw_p0 : lw_okq (⟨"FlapBoard$Tape", "wordRead", "()I"⟩, 7) := ⟨⟨by decide +kernel, by decide +kernel⟩, List.mem_of_getElem? (i := 26) (by decide +kernel), List.mem_of_getElem? (i := 331) (by decide +kernel), List.mem_of_getElem? (i := 332) (by decide +kernel)⟩
theorem lw_p1 : lw_okq (⟨"FlapBoard$Tape", "isRead", "(Ljava/lang/String;)Z"⟩, 7) := ⟨⟨by decide +kernel, by decide +kernel⟩, List.mem_of_getElem? (i := 26) (by decide +kernel), List.mem_of_getElem? (i := 336) (by decide +kernel), List.mem_of_getElem? (i := 337) (by decide +kernel)⟩
theorem lw_p2 : lw_okq (⟨"FlapBoard$Board", "flapFor", "(IILFlapBoard$Tape;II)I"⟩, 18) := ⟨⟨by decide +kernel, by decide +kernel⟩, List.mem_of_getElem? (i := 65) (by decide +kernel), List.mem_of_getElem? (i := 472) (by decide +kernel), List.mem_of_getElem? (i := 473) (by decide +kernel)⟩
theorem lw_p3 : lw_okq (⟨"FlapBoard$Board", "entryStart", "(I)I"⟩, 18) := ⟨⟨by decide +kernel, by decide +kernel⟩, List.mem_of_getElem? (i := 65) (by decide +kernel), List.mem_of_getElem? (i := 509) (by decide +kernel), List.mem_of_getElem? (i := 510) (by decide +kernel)⟩
theorem lw_p4 : lw_okq (⟨"FlapBoard", "whyNotRow", "(I)I"⟩, 7) := ⟨⟨by decide +kernel, by decide +kernel⟩, List.mem_of_getElem? (i := 18) (by decide +kernel), List.mem_of_getElem? (i := 521) (by decide +kernel), List.mem_of_getElem? (i := 522) (by decide +kernel)⟩
theorem lw_p5 : lw_okq (⟨"FlapBoard", "isRowText", "(II)Z"⟩, 7) := ⟨⟨by decide +kernel, by decide +kernel⟩, List.mem_of_getElem? (i := 18) (by decide +kernel), List.mem_of_getElem? (i := 529) (by decide +kernel), List.mem_of_getElem? (i := 530) (by decide +kernel)⟩
theorem lw_p6 : lw_okq (⟨"FlapBoard$Board", "wantFlap", "(II)I"⟩, 18) := ⟨⟨by decide +kernel, by decide +kernel⟩, List.mem_of_getElem? (i := 65) (by decide +kernel), List.mem_of_getElem? (i := 551) (by decide +kernel), List.mem_of_getElem? (i := 552) (by decide +kernel)⟩
theorem lw_p7 : lw_okq (⟨"FlapBoard$Motor", "startCounting", "()V"⟩, 12) := ⟨⟨by decide +kernel, by decide +kernel⟩, List.mem_of_getElem? (i := 151) (by decide +kernel), List.mem_of_getElem? (i := 589) (by decide +kernel), List.mem_of_getElem? (i := 590) (by decide +kernel)⟩
theorem lw_p8 : lw_okq (⟨"FlapBoard$Motor", "sortByLeft", "(LFlapBoard$Board;)I"⟩, 12) := ⟨⟨by decide +kernel, by decide +kernel⟩, List.mem_of_getElem? (i := 151) (by decide +kernel), List.mem_of_getElem? (i := 597) (by decide +kernel), List.mem_of_getElem? (i := 598) (by decide +kernel)⟩
theorem lw_p9 : lw_okq (⟨"FlapBoard$Motor", "countTick", "(I)V"⟩, 12) := ⟨⟨by decide +kernel, by decide +kernel⟩, List.mem_of_getElem? (i := 151) (by decide +kernel), List.mem_of_getElem? (i := 621) (by decide +kernel), List.mem_of_getElem? (i := 622) (by decide +kernel)⟩
theorem lw_p10 : lw_okq (⟨"FlapBoard", "whyNotProgram", "()I"⟩, 7) := ⟨⟨by decide +kernel, by decide +kernel⟩, List.mem_of_getElem? (i := 18) (by decide +kernel), List.mem_of_getElem? (i := 689) (by decide +kernel), List.mem_of_getElem? (i := 690) (by decide +kernel)⟩
theorem lw_p11 : lw_okq (⟨"FlapBoard$Program", "readStep", "(ILFlapBoard$Tape;LFlapBoard$Board;)V"⟩, 10) := ⟨⟨by decide +kernel, by decide +kernel⟩, List.mem_of_getElem? (i := 202) (by decide +kernel), List.mem_of_getElem? (i := 699) (by decide +kernel), List.mem_of_getElem? (i := 700) (by decide +kernel)⟩
theorem lw_p12 : lw_okq (⟨"FlapBoard$Program", "openTimes", "(LFlapBoard$Tape;)V"⟩, 10) := ⟨⟨by decide +kernel, by decide +kernel⟩, List.mem_of_getElem? (i := 202) (by decide +kernel), List.mem_of_getElem? (i := 706) (by decide +kernel), List.mem_of_getElem? (i := 707) (by decide +kernel)⟩
theorem lw_p13 : lw_okq (⟨"FlapBoard$Program", "addStep", "(IIII)V"⟩, 10) := ⟨⟨by decide +kernel, by decide +kernel⟩, List.mem_of_getElem? (i := 202) (by decide +kernel), List.mem_of_getElem? (i := 714) (by decide +kernel), List.mem_of_getElem? (i := 715) (by decide +kernel)⟩
theorem lw_p14 : lw_okq (⟨"FlapBoard$Program", "goesOn", "(LFlapBoard$Tape;)Z"⟩, 10) := ⟨⟨by decide +kernel, by decide +kernel⟩, List.mem_of_getElem? (i := 202) (by decide +kernel), List.mem_of_getElem? (i := 718) (by decide +kernel), List.mem_of_getElem? (i := 719) (by decide +kernel)⟩
theorem lw_p15 : lw_okq (⟨"FlapBoard$Program", "closeTimes", "(I)V"⟩, 10) := ⟨⟨by decide +kernel, by decide +kernel⟩, List.mem_of_getElem? (i := 202) (by decide +kernel), List.mem_of_getElem? (i := 722) (by decide +kernel), List.mem_of_getElem? (i := 723) (by decide +kernel)⟩
def lw_privs_1 : List (MethodName × Nat) := [(⟨"FlapBoard$Tape", "wordRead", "()I"⟩, 7), (⟨"FlapBoard$Tape", "isRead", "(Ljava/lang/String;)Z"⟩, 7), (⟨"FlapBoard$Board", "flapFor", "(IILFlapBoard$Tape;II)I"⟩, 18), (⟨"FlapBoard$Board", "entryStart", "(I)I"⟩, 18), (⟨"FlapBoard", "whyNotRow", "(I)I"⟩, 7), (⟨"FlapBoard", "isRowText", "(II)Z"⟩, 7), (⟨"FlapBoard$Board", "wantFlap", "(II)I"⟩, 18), (⟨"FlapBoard$Motor", "startCounting", "()V"⟩, 12), (⟨"FlapBoard$Motor", "sortByLeft", "(LFlapBoard$Board;)I"⟩, 12), (⟨"FlapBoard$Motor", "countTick", "(I)V"⟩, 12), (⟨"FlapBoard", "whyNotProgram", "()I"⟩, 7), (⟨"FlapBoard$Program", "readStep", "(ILFlapBoard$Tape;LFlapBoard$Board;)V"⟩, 10), (⟨"FlapBoard$Program", "openTimes", "(LFlapBoard$Tape;)V"⟩, 10), (⟨"FlapBoard$Program", "addStep", "(IIII)V"⟩, 10), (⟨"FlapBoard$Program", "goesOn", "(LFlapBoard$Tape;)Z"⟩, 10), (⟨"FlapBoard$Program", "closeTimes", "(I)V"⟩, 10)]
theorem lw_r1 : ∀ q ∈ lw_privs_1, lw_okq q := List.forall_mem_cons.mpr ⟨lw_p0, List.forall_mem_cons.mpr ⟨lw_p1, List.forall_mem_cons.mpr ⟨lw_p2, List.forall_mem_cons.mpr ⟨lw_p3, List.forall_mem_cons.mpr ⟨lw_p4, List.forall_mem_cons.mpr ⟨lw_p5, List.forall_mem_cons.mpr ⟨lw_p6, List.forall_mem_cons.mpr ⟨lw_p7, List.forall_mem_cons.mpr ⟨lw_p8, List.forall_mem_cons.mpr ⟨lw_p9, List.forall_mem_cons.mpr ⟨lw_p10, List.forall_mem_cons.mpr ⟨lw_p11, List.forall_mem_cons.mpr ⟨lw_p12, List.forall_mem_cons.mpr ⟨lw_p13, List.forall_mem_cons.mpr ⟨lw_p14, List.forall_mem_cons.mpr ⟨lw_p15, fun _ h => absurd h List.not_mem_nil⟩⟩⟩⟩⟩⟩⟩⟩⟩⟩⟩⟩⟩⟩⟩⟩
theorem lw_p16 : lw_okq (⟨"FlapBoard", "doProgram", "()I"⟩, 7) := ⟨⟨by decide +kernel, by decide +kernel⟩, List.mem_of_getElem? (i := 18) (by decide +kernel), List.mem_of_getElem? (i := 730) (by decide +kernel), List.mem_of_getElem? (i := 731) (by decide +kernel)⟩
theorem lw_p17 : lw_okq (⟨"FlapBoard", "doStep", "(I)V"⟩, 7) := ⟨⟨by decide +kernel, by decide +kernel⟩, List.mem_of_getElem? (i := 18) (by decide +kernel), List.mem_of_getElem? (i := 739) (by decide +kernel), List.mem_of_getElem? (i := 740) (by decide +kernel)⟩
theorem lw_p18 : lw_okq (⟨"FlapBoard", "isSuch", "(II)Z"⟩, 7) := ⟨⟨by decide +kernel, by decide +kernel⟩, List.mem_of_getElem? (i := 18) (by decide +kernel), List.mem_of_getElem? (i := 852) (by decide +kernel), List.mem_of_getElem? (i := 853) (by decide +kernel)⟩
theorem lw_p19 : lw_okq (⟨"FlapBoard", "leastTicks", "()I"⟩, 7) := ⟨⟨by decide +kernel, by decide +kernel⟩, List.mem_of_getElem? (i := 18) (by decide +kernel), List.mem_of_getElem? (i := 875) (by decide +kernel), List.mem_of_getElem? (i := 876) (by decide +kernel)⟩
theorem lw_p20 : lw_okq (⟨"FlapBoard", "tryToSettle", "()V"⟩, 7) := ⟨⟨by decide +kernel, by decide +kernel⟩, List.mem_of_getElem? (i := 18) (by decide +kernel), List.mem_of_getElem? (i := 884) (by decide +kernel), List.mem_of_getElem? (i := 885) (by decide +kernel)⟩
theorem lw_p21 : lw_okq (⟨"FlapBoard$Board", "entryAt", "(IIII)I"⟩, 18) := ⟨⟨by decide +kernel, by decide +kernel⟩, List.mem_of_getElem? (i := 65) (by decide +kernel), List.mem_of_getElem? (i := 944) (by decide +kernel), List.mem_of_getElem? (i := 945) (by decide +kernel)⟩
theorem lw_p22 : lw_okq (⟨"FlapBoard", "shelvesUsed", "()I"⟩, 7) := ⟨⟨by decide +kernel, by decide +kernel⟩, List.mem_of_getElem? (i := 18) (by decide +kernel), List.mem_of_getElem? (i := 1023) (by decide +kernel), List.mem_of_getElem? (i := 1024) (by decide +kernel)⟩
theorem lw_p23 : lw_okq (⟨"FlapBoardModel", "isRow", "(I)Z"⟩, 23) := ⟨⟨by decide +kernel, by decide +kernel⟩, List.mem_of_getElem? (i := 1027) (by decide +kernel), List.mem_of_getElem? (i := 1109) (by decide +kernel), List.mem_of_getElem? (i := 1110) (by decide +kernel)⟩
theorem lw_p24 : lw_okq (⟨"FlapBoardModel", "rows", "()I"⟩, 23) := ⟨⟨by decide +kernel, by decide +kernel⟩, List.mem_of_getElem? (i := 1027) (by decide +kernel), List.mem_of_getElem? (i := 1113) (by decide +kernel), List.mem_of_getElem? (i := 1114) (by decide +kernel)⟩
theorem lw_p25 : lw_okq (⟨"FlapBoardModel", "isRowText", "(I)Z"⟩, 23) := ⟨⟨by decide +kernel, by decide +kernel⟩, List.mem_of_getElem? (i := 1027) (by decide +kernel), List.mem_of_getElem? (i := 1120) (by decide +kernel), List.mem_of_getElem? (i := 1121) (by decide +kernel)⟩
theorem lw_p26 : lw_okq (⟨"FlapBoardModel", "wide", "()I"⟩, 23) := ⟨⟨by decide +kernel, by decide +kernel⟩, List.mem_of_getElem? (i := 1027) (by decide +kernel), List.mem_of_getElem? (i := 1124) (by decide +kernel), List.mem_of_getElem? (i := 1125) (by decide +kernel)⟩
theorem lw_p27 : lw_okq (⟨"FlapBoardModel", "areSigns", "(II)Z"⟩, 23) := ⟨⟨by decide +kernel, by decide +kernel⟩, List.mem_of_getElem? (i := 1027) (by decide +kernel), List.mem_of_getElem? (i := 1128) (by decide +kernel), List.mem_of_getElem? (i := 1129) (by decide +kernel)⟩
theorem lw_p28 : lw_okq (⟨"FlapBoardModel", "keepsAct", "()V"⟩, 23) := ⟨⟨by decide +kernel, by decide +kernel⟩, List.mem_of_getElem? (i := 1027) (by decide +kernel), List.mem_of_getElem? (i := 1137) (by decide +kernel), List.mem_of_getElem? (i := 1138) (by decide +kernel)⟩
theorem lw_p29 : lw_okq (⟨"FlapBoardModel", "wantsSigns", "(IIIZ)I"⟩, 23) := ⟨⟨by decide +kernel, by decide +kernel⟩, List.mem_of_getElem? (i := 1027) (by decide +kernel), List.mem_of_getElem? (i := 1141) (by decide +kernel), List.mem_of_getElem? (i := 1142) (by decide +kernel)⟩
theorem lw_p30 : lw_okq (⟨"FlapBoardModel", "flapFor", "(II)I"⟩, 23) := ⟨⟨by decide +kernel, by decide +kernel⟩, List.mem_of_getElem? (i := 1027) (by decide +kernel), List.mem_of_getElem? (i := 1145) (by decide +kernel), List.mem_of_getElem? (i := 1146) (by decide +kernel)⟩
theorem lw_p31 : lw_okq (⟨"FlapBoardModel", "flaps", "(I)I"⟩, 23) := ⟨⟨by decide +kernel, by decide +kernel⟩, List.mem_of_getElem? (i := 1027) (by decide +kernel), List.mem_of_getElem? (i := 1149) (by decide +kernel), List.mem_of_getElem? (i := 1150) (by decide +kernel)⟩
def lw_privs_2 : List (MethodName × Nat) := [(⟨"FlapBoard", "doProgram", "()I"⟩, 7), (⟨"FlapBoard", "doStep", "(I)V"⟩, 7), (⟨"FlapBoard", "isSuch", "(II)Z"⟩, 7), (⟨"FlapBoard", "leastTicks", "()I"⟩, 7), (⟨"FlapBoard", "tryToSettle", "()V"⟩, 7), (⟨"FlapBoard$Board", "entryAt", "(IIII)I"⟩, 18), (⟨"FlapBoard", "shelvesUsed", "()I"⟩, 7), (⟨"FlapBoardModel", "isRow", "(I)Z"⟩, 23), (⟨"FlapBoardModel", "rows", "()I"⟩, 23), (⟨"FlapBoardModel", "isRowText", "(I)Z"⟩, 23), (⟨"FlapBoardModel", "wide", "()I"⟩, 23), (⟨"FlapBoardModel", "areSigns", "(II)Z"⟩, 23), (⟨"FlapBoardModel", "keepsAct", "()V"⟩, 23), (⟨"FlapBoardModel", "wantsSigns", "(IIIZ)I"⟩, 23), (⟨"FlapBoardModel", "flapFor", "(II)I"⟩, 23), (⟨"FlapBoardModel", "flaps", "(I)I"⟩, 23)]
theorem lw_r2 : ∀ q ∈ lw_privs_2, lw_okq q := List.forall_mem_cons.mpr ⟨lw_p16, List.forall_mem_cons.mpr ⟨lw_p17, List.forall_mem_cons.mpr ⟨lw_p18, List.forall_mem_cons.mpr ⟨lw_p19, List.forall_mem_cons.mpr ⟨lw_p20, List.forall_mem_cons.mpr ⟨lw_p21, List.forall_mem_cons.mpr ⟨lw_p22, List.forall_mem_cons.mpr ⟨lw_p23, List.forall_mem_cons.mpr ⟨lw_p24, List.forall_mem_cons.mpr ⟨lw_p25, List.forall_mem_cons.mpr ⟨lw_p26, List.forall_mem_cons.mpr ⟨lw_p27, List.forall_mem_cons.mpr ⟨lw_p28, List.forall_mem_cons.mpr ⟨lw_p29, List.forall_mem_cons.mpr ⟨lw_p30, List.forall_mem_cons.mpr ⟨lw_p31, fun _ h => absurd h List.not_mem_nil⟩⟩⟩⟩⟩⟩⟩⟩⟩⟩⟩⟩⟩⟩⟩⟩
theorem lw_p32 : lw_okq (⟨"FlapBoardModel", "of", "(II)I"⟩, 23) := ⟨⟨by decide +kernel, by decide +kernel⟩, List.mem_of_getElem? (i := 1027) (by decide +kernel), List.mem_of_getElem? (i := 1153) (by decide +kernel), List.mem_of_getElem? (i := 1154) (by decide +kernel)⟩
theorem lw_p33 : lw_okq (⟨"FlapBoardModel", "flapsOf", "(I)I"⟩, 23) := ⟨⟨by decide +kernel, by decide +kernel⟩, List.mem_of_getElem? (i := 1027) (by decide +kernel), List.mem_of_getElem? (i := 1157) (by decide +kernel), List.mem_of_getElem? (i := 1158) (by decide +kernel)⟩
theorem lw_p34 : lw_okq (⟨"FlapBoardModel", "signOf", "(II)I"⟩, 23) := ⟨⟨by decide +kernel, by decide +kernel⟩, List.mem_of_getElem? (i := 1027) (by decide +kernel), List.mem_of_getElem? (i := 1161) (by decide +kernel), List.mem_of_getElem? (i := 1162) (by decide +kernel)⟩
theorem lw_p35 : lw_okq (⟨"FlapBoardModel", "wornOf", "(I)J"⟩, 23) := ⟨⟨by decide +kernel, by decide +kernel⟩, List.mem_of_getElem? (i := 1027) (by decide +kernel), List.mem_of_getElem? (i := 1165) (by decide +kernel), List.mem_of_getElem? (i := 1166) (by decide +kernel)⟩
theorem lw_p36 : lw_okq (⟨"FlapBoardModel", "wantsFlap", "(IIZ)V"⟩, 23) := ⟨⟨by decide +kernel, by decide +kernel⟩, List.mem_of_getElem? (i := 1027) (by decide +kernel), List.mem_of_getElem? (i := 1175) (by decide +kernel), List.mem_of_getElem? (i := 1176) (by decide +kernel)⟩
theorem lw_p37 : lw_okq (⟨"FlapBoardModel", "sets", "(IIJ)V"⟩, 23) := ⟨⟨by decide +kernel, by decide +kernel⟩, List.mem_of_getElem? (i := 1027) (by decide +kernel), List.mem_of_getElem? (i := 1179) (by decide +kernel), List.mem_of_getElem? (i := 1180) (by decide +kernel)⟩
theorem lw_p38 : lw_okq (⟨"FlapBoardModel", "isBoard", "()Z"⟩, 23) := ⟨⟨by decide +kernel, by decide +kernel⟩, List.mem_of_getElem? (i := 1027) (by decide +kernel), List.mem_of_getElem? (i := 1187) (by decide +kernel), List.mem_of_getElem? (i := 1188) (by decide +kernel)⟩
theorem lw_p39 : lw_okq (⟨"FlapBoardModel", "drums", "()I"⟩, 23) := ⟨⟨by decide +kernel, by decide +kernel⟩, List.mem_of_getElem? (i := 1027) (by decide +kernel), List.mem_of_getElem? (i := 1191) (by decide +kernel), List.mem_of_getElem? (i := 1192) (by decide +kernel)⟩
theorem lw_p40 : lw_okq (⟨"FlapBoardModel", "scrolls", "(II)I"⟩, 23) := ⟨⟨by decide +kernel, by decide +kernel⟩, List.mem_of_getElem? (i := 1027) (by decide +kernel), List.mem_of_getElem? (i := 1195) (by decide +kernel), List.mem_of_getElem? (i := 1196) (by decide +kernel)⟩
theorem lw_p41 : lw_okq (⟨"FlapBoardModel", "cells", "()I"⟩, 23) := ⟨⟨by decide +kernel, by decide +kernel⟩, List.mem_of_getElem? (i := 1027) (by decide +kernel), List.mem_of_getElem? (i := 1199) (by decide +kernel), List.mem_of_getElem? (i := 1200) (by decide +kernel)⟩
theorem lw_p42 : lw_okq (⟨"FlapBoardModel", "ticks", "()I"⟩, 23) := ⟨⟨by decide +kernel, by decide +kernel⟩, List.mem_of_getElem? (i := 1027) (by decide +kernel), List.mem_of_getElem? (i := 1208) (by decide +kernel), List.mem_of_getElem? (i := 1209) (by decide +kernel)⟩
theorem lw_p43 : lw_okq (⟨"FlapBoardModel", "findsTurning", "()V"⟩, 23) := ⟨⟨by decide +kernel, by decide +kernel⟩, List.mem_of_getElem? (i := 1027) (by decide +kernel), List.mem_of_getElem? (i := 1212) (by decide +kernel), List.mem_of_getElem? (i := 1213) (by decide +kernel)⟩
theorem lw_p44 : lw_okq (⟨"FlapBoardModel", "leftOf", "(I)I"⟩, 23) := ⟨⟨by decide +kernel, by decide +kernel⟩, List.mem_of_getElem? (i := 1027) (by decide +kernel), List.mem_of_getElem? (i := 1216) (by decide +kernel), List.mem_of_getElem? (i := 1217) (by decide +kernel)⟩
theorem lw_p45 : lw_okq (⟨"FlapBoardModel", "current", "(I)I"⟩, 23) := ⟨⟨by decide +kernel, by decide +kernel⟩, List.mem_of_getElem? (i := 1027) (by decide +kernel), List.mem_of_getElem? (i := 1220) (by decide +kernel), List.mem_of_getElem? (i := 1221) (by decide +kernel)⟩
theorem lw_p46 : lw_okq (⟨"FlapBoardModel", "currentOf", "(I)I"⟩, 23) := ⟨⟨by decide +kernel, by decide +kernel⟩, List.mem_of_getElem? (i := 1027) (by decide +kernel), List.mem_of_getElem? (i := 1224) (by decide +kernel), List.mem_of_getElem? (i := 1225) (by decide +kernel)⟩
theorem lw_p47 : lw_okq (⟨"FlapBoardModel", "steps", "(I)V"⟩, 23) := ⟨⟨by decide +kernel, by decide +kernel⟩, List.mem_of_getElem? (i := 1027) (by decide +kernel), List.mem_of_getElem? (i := 1228) (by decide +kernel), List.mem_of_getElem? (i := 1229) (by decide +kernel)⟩
def lw_privs_3 : List (MethodName × Nat) := [(⟨"FlapBoardModel", "of", "(II)I"⟩, 23), (⟨"FlapBoardModel", "flapsOf", "(I)I"⟩, 23), (⟨"FlapBoardModel", "signOf", "(II)I"⟩, 23), (⟨"FlapBoardModel", "wornOf", "(I)J"⟩, 23), (⟨"FlapBoardModel", "wantsFlap", "(IIZ)V"⟩, 23), (⟨"FlapBoardModel", "sets", "(IIJ)V"⟩, 23), (⟨"FlapBoardModel", "isBoard", "()Z"⟩, 23), (⟨"FlapBoardModel", "drums", "()I"⟩, 23), (⟨"FlapBoardModel", "scrolls", "(II)I"⟩, 23), (⟨"FlapBoardModel", "cells", "()I"⟩, 23), (⟨"FlapBoardModel", "ticks", "()I"⟩, 23), (⟨"FlapBoardModel", "findsTurning", "()V"⟩, 23), (⟨"FlapBoardModel", "leftOf", "(I)I"⟩, 23), (⟨"FlapBoardModel", "current", "(I)I"⟩, 23), (⟨"FlapBoardModel", "currentOf", "(I)I"⟩, 23), (⟨"FlapBoardModel", "steps", "(I)V"⟩, 23)]
theorem lw_r3 : ∀ q ∈ lw_privs_3, lw_okq q := List.forall_mem_cons.mpr ⟨lw_p32, List.forall_mem_cons.mpr ⟨lw_p33, List.forall_mem_cons.mpr ⟨lw_p34, List.forall_mem_cons.mpr ⟨lw_p35, List.forall_mem_cons.mpr ⟨lw_p36, List.forall_mem_cons.mpr ⟨lw_p37, List.forall_mem_cons.mpr ⟨lw_p38, List.forall_mem_cons.mpr ⟨lw_p39, List.forall_mem_cons.mpr ⟨lw_p40, List.forall_mem_cons.mpr ⟨lw_p41, List.forall_mem_cons.mpr ⟨lw_p42, List.forall_mem_cons.mpr ⟨lw_p43, List.forall_mem_cons.mpr ⟨lw_p44, List.forall_mem_cons.mpr ⟨lw_p45, List.forall_mem_cons.mpr ⟨lw_p46, List.forall_mem_cons.mpr ⟨lw_p47, fun _ h => absurd h List.not_mem_nil⟩⟩⟩⟩⟩⟩⟩⟩⟩⟩⟩⟩⟩⟩⟩⟩
theorem lw_p48 : lw_okq (⟨"FlapBoardModel", "settles", "()I"⟩, 23) := ⟨⟨by decide +kernel, by decide +kernel⟩, List.mem_of_getElem? (i := 1027) (by decide +kernel), List.mem_of_getElem? (i := 1236) (by decide +kernel), List.mem_of_getElem? (i := 1237) (by decide +kernel)⟩
theorem lw_p49 : lw_okq (⟨"FlapBoardModel", "isCell", "(I)Z"⟩, 23) := ⟨⟨by decide +kernel, by decide +kernel⟩, List.mem_of_getElem? (i := 1027) (by decide +kernel), List.mem_of_getElem? (i := 1244) (by decide +kernel), List.mem_of_getElem? (i := 1245) (by decide +kernel)⟩
theorem lw_p50 : lw_okq (⟨"FlapBoardModel", "isFlap", "(II)Z"⟩, 23) := ⟨⟨by decide +kernel, by decide +kernel⟩, List.mem_of_getElem? (i := 1027) (by decide +kernel), List.mem_of_getElem? (i := 1253) (by decide +kernel), List.mem_of_getElem? (i := 1254) (by decide +kernel)⟩
theorem lw_p51 : lw_okq (⟨"FlapBoardModel", "wears", "(II)V"⟩, 23) := ⟨⟨by decide +kernel, by decide +kernel⟩, List.mem_of_getElem? (i := 1027) (by decide +kernel), List.mem_of_getElem? (i := 1257) (by decide +kernel), List.mem_of_getElem? (i := 1258) (by decide +kernel)⟩
theorem lw_p52 : lw_okq (⟨"FlapBoardModel", "isDrum", "(I)Z"⟩, 23) := ⟨⟨by decide +kernel, by decide +kernel⟩, List.mem_of_getElem? (i := 1027) (by decide +kernel), List.mem_of_getElem? (i := 1277) (by decide +kernel), List.mem_of_getElem? (i := 1278) (by decide +kernel)⟩
theorem lw_p53 : lw_okq (⟨"FlapBoardModel", "cellsWith", "(I)I"⟩, 23) := ⟨⟨by decide +kernel, by decide +kernel⟩, List.mem_of_getElem? (i := 1027) (by decide +kernel), List.mem_of_getElem? (i := 1305) (by decide +kernel), List.mem_of_getElem? (i := 1306) (by decide +kernel)⟩
theorem lw_p54 : lw_okq (⟨"FlapBoardModel", "signsOf", "(IZ)I"⟩, 23) := ⟨⟨by decide +kernel, by decide +kernel⟩, List.mem_of_getElem? (i := 1027) (by decide +kernel), List.mem_of_getElem? (i := 1309) (by decide +kernel), List.mem_of_getElem? (i := 1310) (by decide +kernel)⟩
theorem lw_p55 : lw_okq (⟨"FlapBoardModel", "manyWith", "(II)I"⟩, 23) := ⟨⟨by decide +kernel, by decide +kernel⟩, List.mem_of_getElem? (i := 1027) (by decide +kernel), List.mem_of_getElem? (i := 1313) (by decide +kernel), List.mem_of_getElem? (i := 1314) (by decide +kernel)⟩
theorem lw_p56 : lw_okq (⟨"FlapBoardModel", "signAt", "(II)I"⟩, 23) := ⟨⟨by decide +kernel, by decide +kernel⟩, List.mem_of_getElem? (i := 1027) (by decide +kernel), List.mem_of_getElem? (i := 1326) (by decide +kernel), List.mem_of_getElem? (i := 1327) (by decide +kernel)⟩
theorem lw_p57 : lw_okq (⟨"FlapBoardModel", "isSuch", "(II)Z"⟩, 23) := ⟨⟨by decide +kernel, by decide +kernel⟩, List.mem_of_getElem? (i := 1027) (by decide +kernel), List.mem_of_getElem? (i := 1335) (by decide +kernel), List.mem_of_getElem? (i := 1336) (by decide +kernel)⟩
theorem lw_p58 : lw_okq (⟨"FlapBoardModel", "isOther", "(I)Z"⟩, 23) := ⟨⟨by decide +kernel, by decide +kernel⟩, List.mem_of_getElem? (i := 1027) (by decide +kernel), List.mem_of_getElem? (i := 1339) (by decide +kernel), List.mem_of_getElem? (i := 1340) (by decide +kernel)⟩
theorem lw_p59 : lw_okq (⟨"FlapBoardModel", "putsAside", "()V"⟩, 23) := ⟨⟨by decide +kernel, by decide +kernel⟩, List.mem_of_getElem? (i := 1027) (by decide +kernel), List.mem_of_getElem? (i := 1353) (by decide +kernel), List.mem_of_getElem? (i := 1354) (by decide +kernel)⟩
theorem lw_p60 : lw_okq (⟨"FlapBoardModel", "others", "()I"⟩, 23) := ⟨⟨by decide +kernel, by decide +kernel⟩, List.mem_of_getElem? (i := 1027) (by decide +kernel), List.mem_of_getElem? (i := 1357) (by decide +kernel), List.mem_of_getElem? (i := 1358) (by decide +kernel)⟩
theorem lw_p61 : lw_okq (⟨"FlapBoardModel", "takesBack", "()V"⟩, 23) := ⟨⟨by decide +kernel, by decide +kernel⟩, List.mem_of_getElem? (i := 1027) (by decide +kernel), List.mem_of_getElem? (i := 1361) (by decide +kernel), List.mem_of_getElem? (i := 1362) (by decide +kernel)⟩
theorem lw_p62 : lw_okq (⟨"FlapBoardModel", "asks", "(IIII)V"⟩, 23) := ⟨⟨by decide +kernel, by decide +kernel⟩, List.mem_of_getElem? (i := 1027) (by decide +kernel), List.mem_of_getElem? (i := 1395) (by decide +kernel), List.mem_of_getElem? (i := 1396) (by decide +kernel)⟩
theorem lw_p63 : lw_okq (⟨"FlapBoardModel", "endOf", "(I)I"⟩, 23) := ⟨⟨by decide +kernel, by decide +kernel⟩, List.mem_of_getElem? (i := 1027) (by decide +kernel), List.mem_of_getElem? (i := 1403) (by decide +kernel), List.mem_of_getElem? (i := 1404) (by decide +kernel)⟩
def lw_privs_4 : List (MethodName × Nat) := [(⟨"FlapBoardModel", "settles", "()I"⟩, 23), (⟨"FlapBoardModel", "isCell", "(I)Z"⟩, 23), (⟨"FlapBoardModel", "isFlap", "(II)Z"⟩, 23), (⟨"FlapBoardModel", "wears", "(II)V"⟩, 23), (⟨"FlapBoardModel", "isDrum", "(I)Z"⟩, 23), (⟨"FlapBoardModel", "cellsWith", "(I)I"⟩, 23), (⟨"FlapBoardModel", "signsOf", "(IZ)I"⟩, 23), (⟨"FlapBoardModel", "manyWith", "(II)I"⟩, 23), (⟨"FlapBoardModel", "signAt", "(II)I"⟩, 23), (⟨"FlapBoardModel", "isSuch", "(II)Z"⟩, 23), (⟨"FlapBoardModel", "isOther", "(I)Z"⟩, 23), (⟨"FlapBoardModel", "putsAside", "()V"⟩, 23), (⟨"FlapBoardModel", "others", "()I"⟩, 23), (⟨"FlapBoardModel", "takesBack", "()V"⟩, 23), (⟨"FlapBoardModel", "asks", "(IIII)V"⟩, 23), (⟨"FlapBoardModel", "endOf", "(I)I"⟩, 23)]
theorem lw_r4 : ∀ q ∈ lw_privs_4, lw_okq q := List.forall_mem_cons.mpr ⟨lw_p48, List.forall_mem_cons.mpr ⟨lw_p49, List.forall_mem_cons.mpr ⟨lw_p50, List.forall_mem_cons.mpr ⟨lw_p51, List.forall_mem_cons.mpr ⟨lw_p52, List.forall_mem_cons.mpr ⟨lw_p53, List.forall_mem_cons.mpr ⟨lw_p54, List.forall_mem_cons.mpr ⟨lw_p55, List.forall_mem_cons.mpr ⟨lw_p56, List.forall_mem_cons.mpr ⟨lw_p57, List.forall_mem_cons.mpr ⟨lw_p58, List.forall_mem_cons.mpr ⟨lw_p59, List.forall_mem_cons.mpr ⟨lw_p60, List.forall_mem_cons.mpr ⟨lw_p61, List.forall_mem_cons.mpr ⟨lw_p62, List.forall_mem_cons.mpr ⟨lw_p63, fun _ h => absurd h List.not_mem_nil⟩⟩⟩⟩⟩⟩⟩⟩⟩⟩⟩⟩⟩⟩⟩⟩
theorem lw_p64 : lw_okq (⟨"FlapBoardModel", "journey", "(III)I"⟩, 23) := ⟨⟨by decide +kernel, by decide +kernel⟩, List.mem_of_getElem? (i := 1027) (by decide +kernel), List.mem_of_getElem? (i := 1415) (by decide +kernel), List.mem_of_getElem? (i := 1416) (by decide +kernel)⟩
theorem lw_p65 : lw_okq (⟨"FlapBoardModel", "logged", "(III)I"⟩, 23) := ⟨⟨by decide +kernel, by decide +kernel⟩, List.mem_of_getElem? (i := 1027) (by decide +kernel), List.mem_of_getElem? (i := 1419) (by decide +kernel), List.mem_of_getElem? (i := 1420) (by decide +kernel)⟩
theorem lw_p66 : lw_okq (⟨"FlapBoardModel", "entries", "(IZ)I"⟩, 23) := ⟨⟨by decide +kernel, by decide +kernel⟩, List.mem_of_getElem? (i := 1027) (by decide +kernel), List.mem_of_getElem? (i := 1426) (by decide +kernel), List.mem_of_getElem? (i := 1427) (by decide +kernel)⟩
theorem lw_p67 : lw_okq (⟨"FlapBoardModel", "hasElsewhere", "(II)Z"⟩, 23) := ⟨⟨by decide +kernel, by decide +kernel⟩, List.mem_of_getElem? (i := 1027) (by decide +kernel), List.mem_of_getElem? (i := 1446) (by decide +kernel), List.mem_of_getElem? (i := 1447) (by decide +kernel)⟩
theorem lw_p68 : lw_okq (⟨"FlapBoardModel", "lays", "(I)V"⟩, 23) := ⟨⟨by decide +kernel, by decide +kernel⟩, List.mem_of_getElem? (i := 1027) (by decide +kernel), List.mem_of_getElem? (i := 1454) (by decide +kernel), List.mem_of_getElem? (i := 1455) (by decide +kernel)⟩
theorem lw_p69 : lw_okq (⟨"FlapBoardModel", "readsBoard", "()Z"⟩, 23) := ⟨⟨by decide +kernel, by decide +kernel⟩, List.mem_of_getElem? (i := 1027) (by decide +kernel), List.mem_of_getElem? (i := 1466) (by decide +kernel), List.mem_of_getElem? (i := 1467) (by decide +kernel)⟩
theorem lw_p70 : lw_okq (⟨"FlapBoardModel", "mustWord", "(Ljava/lang/String;)Z"⟩, 23) := ⟨⟨by decide +kernel, by decide +kernel⟩, List.mem_of_getElem? (i := 1027) (by decide +kernel), List.mem_of_getElem? (i := 1471) (by decide +kernel), List.mem_of_getElem? (i := 1472) (by decide +kernel)⟩
theorem lw_p71 : lw_okq (⟨"FlapBoardModel", "takesWord", "(Ljava/lang/String;)Z"⟩, 23) := ⟨⟨by decide +kernel, by decide +kernel⟩, List.mem_of_getElem? (i := 1027) (by decide +kernel), List.mem_of_getElem? (i := 1475) (by decide +kernel), List.mem_of_getElem? (i := 1476) (by decide +kernel)⟩
theorem lw_p72 : lw_okq (⟨"FlapBoardModel", "isWord", "(Ljava/lang/String;)Z"⟩, 23) := ⟨⟨by decide +kernel, by decide +kernel⟩, List.mem_of_getElem? (i := 1027) (by decide +kernel), List.mem_of_getElem? (i := 1479) (by decide +kernel), List.mem_of_getElem? (i := 1480) (by decide +kernel)⟩
theorem lw_p73 : lw_okq (⟨"FlapBoardModel", "nextByte", "()I"⟩, 23) := ⟨⟨by decide +kernel, by decide +kernel⟩, List.mem_of_getElem? (i := 1027) (by decide +kernel), List.mem_of_getElem? (i := 1483) (by decide +kernel), List.mem_of_getElem? (i := 1484) (by decide +kernel)⟩
theorem lw_p74 : lw_okq (⟨"FlapBoardModel", "byteAt", "(I)I"⟩, 23) := ⟨⟨by decide +kernel, by decide +kernel⟩, List.mem_of_getElem? (i := 1027) (by decide +kernel), List.mem_of_getElem? (i := 1487) (by decide +kernel), List.mem_of_getElem? (i := 1488) (by decide +kernel)⟩
theorem lw_p75 : lw_okq (⟨"FlapBoardModel", "fails", "(II)Z"⟩, 23) := ⟨⟨by decide +kernel, by decide +kernel⟩, List.mem_of_getElem? (i := 1027) (by decide +kernel), List.mem_of_getElem? (i := 1495) (by decide +kernel), List.mem_of_getElem? (i := 1496) (by decide +kernel)⟩
theorem lw_p76 : lw_okq (⟨"FlapBoardModel", "readsNumber", "(II)Z"⟩, 23) := ⟨⟨by decide +kernel, by decide +kernel⟩, List.mem_of_getElem? (i := 1027) (by decide +kernel), List.mem_of_getElem? (i := 1499) (by decide +kernel), List.mem_of_getElem? (i := 1500) (by decide +kernel)⟩
theorem lw_p77 : lw_okq (⟨"FlapBoardModel", "readsPart", "()Z"⟩, 23) := ⟨⟨by decide +kernel, by decide +kernel⟩, List.mem_of_getElem? (i := 1027) (by decide +kernel), List.mem_of_getElem? (i := 1506) (by decide +kernel), List.mem_of_getElem? (i := 1507) (by decide +kernel)⟩
theorem lw_p78 : lw_okq (⟨"FlapBoardModel", "readsDrum", "()Z"⟩, 23) := ⟨⟨by decide +kernel, by decide +kernel⟩, List.mem_of_getElem? (i := 1027) (by decide +kernel), List.mem_of_getElem? (i := 1511) (by decide +kernel), List.mem_of_getElem? (i := 1512) (by decide +kernel)⟩
theorem lw_p79 : lw_okq (⟨"FlapBoardModel", "readsQuoted", "(II)Z"⟩, 23) := ⟨⟨by decide +kernel, by decide +kernel⟩, List.mem_of_getElem? (i := 1027) (by decide +kernel), List.mem_of_getElem? (i := 1515) (by decide +kernel), List.mem_of_getElem? (i := 1516) (by decide +kernel)⟩
def lw_privs_5 : List (MethodName × Nat) := [(⟨"FlapBoardModel", "journey", "(III)I"⟩, 23), (⟨"FlapBoardModel", "logged", "(III)I"⟩, 23), (⟨"FlapBoardModel", "entries", "(IZ)I"⟩, 23), (⟨"FlapBoardModel", "hasElsewhere", "(II)Z"⟩, 23), (⟨"FlapBoardModel", "lays", "(I)V"⟩, 23), (⟨"FlapBoardModel", "readsBoard", "()Z"⟩, 23), (⟨"FlapBoardModel", "mustWord", "(Ljava/lang/String;)Z"⟩, 23), (⟨"FlapBoardModel", "takesWord", "(Ljava/lang/String;)Z"⟩, 23), (⟨"FlapBoardModel", "isWord", "(Ljava/lang/String;)Z"⟩, 23), (⟨"FlapBoardModel", "nextByte", "()I"⟩, 23), (⟨"FlapBoardModel", "byteAt", "(I)I"⟩, 23), (⟨"FlapBoardModel", "fails", "(II)Z"⟩, 23), (⟨"FlapBoardModel", "readsNumber", "(II)Z"⟩, 23), (⟨"FlapBoardModel", "readsPart", "()Z"⟩, 23), (⟨"FlapBoardModel", "readsDrum", "()Z"⟩, 23), (⟨"FlapBoardModel", "readsQuoted", "(II)Z"⟩, 23)]
theorem lw_r5 : ∀ q ∈ lw_privs_5, lw_okq q := List.forall_mem_cons.mpr ⟨lw_p64, List.forall_mem_cons.mpr ⟨lw_p65, List.forall_mem_cons.mpr ⟨lw_p66, List.forall_mem_cons.mpr ⟨lw_p67, List.forall_mem_cons.mpr ⟨lw_p68, List.forall_mem_cons.mpr ⟨lw_p69, List.forall_mem_cons.mpr ⟨lw_p70, List.forall_mem_cons.mpr ⟨lw_p71, List.forall_mem_cons.mpr ⟨lw_p72, List.forall_mem_cons.mpr ⟨lw_p73, List.forall_mem_cons.mpr ⟨lw_p74, List.forall_mem_cons.mpr ⟨lw_p75, List.forall_mem_cons.mpr ⟨lw_p76, List.forall_mem_cons.mpr ⟨lw_p77, List.forall_mem_cons.mpr ⟨lw_p78, List.forall_mem_cons.mpr ⟨lw_p79, fun _ h => absurd h List.not_mem_nil⟩⟩⟩⟩⟩⟩⟩⟩⟩⟩⟩⟩⟩⟩⟩⟩
theorem lw_p80 : lw_okq (⟨"FlapBoardModel", "mustByte", "(I)Z"⟩, 23) := ⟨⟨by decide +kernel, by decide +kernel⟩, List.mem_of_getElem? (i := 1027) (by decide +kernel), List.mem_of_getElem? (i := 1519) (by decide +kernel), List.mem_of_getElem? (i := 1520) (by decide +kernel)⟩
theorem lw_p81 : lw_okq (⟨"FlapBoardModel", "takesByte", "(I)Z"⟩, 23) := ⟨⟨by decide +kernel, by decide +kernel⟩, List.mem_of_getElem? (i := 1027) (by decide +kernel), List.mem_of_getElem? (i := 1523) (by decide +kernel), List.mem_of_getElem? (i := 1524) (by decide +kernel)⟩
theorem lw_p82 : lw_okq (⟨"FlapBoardModel", "readsCells", "()Z"⟩, 23) := ⟨⟨by decide +kernel, by decide +kernel⟩, List.mem_of_getElem? (i := 1027) (by decide +kernel), List.mem_of_getElem? (i := 1531) (by decide +kernel), List.mem_of_getElem? (i := 1532) (by decide +kernel)⟩
theorem lw_p83 : lw_okq (⟨"FlapBoardModel", "readsWorn", "()Z"⟩, 23) := ⟨⟨by decide +kernel, by decide +kernel⟩, List.mem_of_getElem? (i := 1027) (by decide +kernel), List.mem_of_getElem? (i := 1535) (by decide +kernel), List.mem_of_getElem? (i := 1536) (by decide +kernel)⟩
theorem lw_p84 : lw_okq (⟨"FlapBoardModel", "readsRow", "()Z"⟩, 23) := ⟨⟨by decide +kernel, by decide +kernel⟩, List.mem_of_getElem? (i := 1027) (by decide +kernel), List.mem_of_getElem? (i := 1539) (by decide +kernel), List.mem_of_getElem? (i := 1540) (by decide +kernel)⟩
theorem lw_p85 : lw_okq (⟨"FlapBoardModel", "readsLose", "()Z"⟩, 23) := ⟨⟨by decide +kernel, by decide +kernel⟩, List.mem_of_getElem? (i := 1027) (by decide +kernel), List.mem_of_getElem? (i := 1543) (by decide +kernel), List.mem_of_getElem? (i := 1544) (by decide +kernel)⟩
theorem lw_p86 : lw_okq (⟨"FlapBoardModel", "goesProgram", "(Z)Z"⟩, 23) := ⟨⟨by decide +kernel, by decide +kernel⟩, List.mem_of_getElem? (i := 1027) (by decide +kernel), List.mem_of_getElem? (i := 1551) (by decide +kernel), List.mem_of_getElem? (i := 1552) (by decide +kernel)⟩
theorem lw_p87 : lw_okq (⟨"FlapBoardModel", "goesAll", "(Z)Z"⟩, 23) := ⟨⟨by decide +kernel, by decide +kernel⟩, List.mem_of_getElem? (i := 1027) (by decide +kernel), List.mem_of_getElem? (i := 1555) (by decide +kernel), List.mem_of_getElem? (i := 1556) (by decide +kernel)⟩
theorem lw_p88 : lw_okq (⟨"FlapBoardModel", "goesOne", "(Z)Z"⟩, 23) := ⟨⟨by decide +kernel, by decide +kernel⟩, List.mem_of_getElem? (i := 1027) (by decide +kernel), List.mem_of_getElem? (i := 1559) (by decide +kernel), List.mem_of_getElem? (i := 1560) (by decide +kernel)⟩
theorem lw_p89 : lw_okq (⟨"FlapBoardModel", "goesRow", "(Z)Z"⟩, 23) := ⟨⟨by decide +kernel, by decide +kernel⟩, List.mem_of_getElem? (i := 1027) (by decide +kernel), List.mem_of_getElem? (i := 1563) (by decide +kernel), List.mem_of_getElem? (i := 1564) (by decide +kernel)⟩
theorem lw_p90 : lw_okq (⟨"FlapBoardModel", "isDone", "(Z)Z"⟩, 23) := ⟨⟨by decide +kernel, by decide +kernel⟩, List.mem_of_getElem? (i := 1027) (by decide +kernel), List.mem_of_getElem? (i := 1567) (by decide +kernel), List.mem_of_getElem? (i := 1568) (by decide +kernel)⟩
theorem lw_p91 : lw_okq (⟨"FlapBoardModel", "goesScroll", "(Z)Z"⟩, 23) := ⟨⟨by decide +kernel, by decide +kernel⟩, List.mem_of_getElem? (i := 1027) (by decide +kernel), List.mem_of_getElem? (i := 1572) (by decide +kernel), List.mem_of_getElem? (i := 1573) (by decide +kernel)⟩
theorem lw_p92 : lw_okq (⟨"FlapBoardModel", "goesHome", "(Z)Z"⟩, 23) := ⟨⟨by decide +kernel, by decide +kernel⟩, List.mem_of_getElem? (i := 1027) (by decide +kernel), List.mem_of_getElem? (i := 1577) (by decide +kernel), List.mem_of_getElem? (i := 1578) (by decide +kernel)⟩
theorem lw_p93 : lw_okq (⟨"FlapBoardModel", "goesWait", "(Z)Z"⟩, 23) := ⟨⟨by decide +kernel, by decide +kernel⟩, List.mem_of_getElem? (i := 1027) (by decide +kernel), List.mem_of_getElem? (i := 1582) (by decide +kernel), List.mem_of_getElem? (i := 1583) (by decide +kernel)⟩
theorem lw_p94 : lw_okq (⟨"FlapBoardModel", "goesSettle", "(Z)Z"⟩, 23) := ⟨⟨by decide +kernel, by decide +kernel⟩, List.mem_of_getElem? (i := 1027) (by decide +kernel), List.mem_of_getElem? (i := 1587) (by decide +kernel), List.mem_of_getElem? (i := 1588) (by decide +kernel)⟩
theorem lw_p95 : lw_okq (⟨"FlapBoardModel", "goesLose", "(Z)Z"⟩, 23) := ⟨⟨by decide +kernel, by decide +kernel⟩, List.mem_of_getElem? (i := 1027) (by decide +kernel), List.mem_of_getElem? (i := 1591) (by decide +kernel), List.mem_of_getElem? (i := 1592) (by decide +kernel)⟩
def lw_privs_6 : List (MethodName × Nat) := [(⟨"FlapBoardModel", "mustByte", "(I)Z"⟩, 23), (⟨"FlapBoardModel", "takesByte", "(I)Z"⟩, 23), (⟨"FlapBoardModel", "readsCells", "()Z"⟩, 23), (⟨"FlapBoardModel", "readsWorn", "()Z"⟩, 23), (⟨"FlapBoardModel", "readsRow", "()Z"⟩, 23), (⟨"FlapBoardModel", "readsLose", "()Z"⟩, 23), (⟨"FlapBoardModel", "goesProgram", "(Z)Z"⟩, 23), (⟨"FlapBoardModel", "goesAll", "(Z)Z"⟩, 23), (⟨"FlapBoardModel", "goesOne", "(Z)Z"⟩, 23), (⟨"FlapBoardModel", "goesRow", "(Z)Z"⟩, 23), (⟨"FlapBoardModel", "isDone", "(Z)Z"⟩, 23), (⟨"FlapBoardModel", "goesScroll", "(Z)Z"⟩, 23), (⟨"FlapBoardModel", "goesHome", "(Z)Z"⟩, 23), (⟨"FlapBoardModel", "goesWait", "(Z)Z"⟩, 23), (⟨"FlapBoardModel", "goesSettle", "(Z)Z"⟩, 23), (⟨"FlapBoardModel", "goesLose", "(Z)Z"⟩, 23)]
theorem lw_r6 : ∀ q ∈ lw_privs_6, lw_okq q := List.forall_mem_cons.mpr ⟨lw_p80, List.forall_mem_cons.mpr ⟨lw_p81, List.forall_mem_cons.mpr ⟨lw_p82, List.forall_mem_cons.mpr ⟨lw_p83, List.forall_mem_cons.mpr ⟨lw_p84, List.forall_mem_cons.mpr ⟨lw_p85, List.forall_mem_cons.mpr ⟨lw_p86, List.forall_mem_cons.mpr ⟨lw_p87, List.forall_mem_cons.mpr ⟨lw_p88, List.forall_mem_cons.mpr ⟨lw_p89, List.forall_mem_cons.mpr ⟨lw_p90, List.forall_mem_cons.mpr ⟨lw_p91, List.forall_mem_cons.mpr ⟨lw_p92, List.forall_mem_cons.mpr ⟨lw_p93, List.forall_mem_cons.mpr ⟨lw_p94, List.forall_mem_cons.mpr ⟨lw_p95, fun _ h => absurd h List.not_mem_nil⟩⟩⟩⟩⟩⟩⟩⟩⟩⟩⟩⟩⟩⟩⟩⟩
theorem lw_p96 : lw_okq (⟨"FlapBoardModel", "goesTimes", "(Z)Z"⟩, 23) := ⟨⟨by decide +kernel, by decide +kernel⟩, List.mem_of_getElem? (i := 1027) (by decide +kernel), List.mem_of_getElem? (i := 1596) (by decide +kernel), List.mem_of_getElem? (i := 1597) (by decide +kernel)⟩
def lw_privs_7 : List (MethodName × Nat) := [(⟨"FlapBoardModel", "goesTimes", "(Z)Z"⟩, 23)]
theorem lw_r7 : ∀ q ∈ lw_privs_7, lw_okq q := List.forall_mem_cons.mpr ⟨lw_p96, fun _ h => absurd h List.not_mem_nil⟩
def lw_privs : List (MethodName × Nat) := lw_privs_1 ++ (lw_privs_2 ++ (lw_privs_3 ++ (lw_privs_4 ++ (lw_privs_5 ++ (lw_privs_6 ++ (lw_privs_7))))))
def lw_tbl : List Cond := k2_sels lw_privs ++ tables_1
theorem lw_privs_ok : ∀ q ∈ lw_privs, lw_okq q := by
  show ∀ q ∈ lw_privs_1 ++ (lw_privs_2 ++ (lw_privs_3 ++ (lw_privs_4 ++ (lw_privs_5 ++ (lw_privs_6 ++ (lw_privs_7)))))), lw_okq q
  exact List.forall_mem_append.mpr ⟨lw_r1, List.forall_mem_append.mpr ⟨lw_r2, List.forall_mem_append.mpr ⟨lw_r3, List.forall_mem_append.mpr ⟨lw_r4, List.forall_mem_append.mpr ⟨lw_r5, List.forall_mem_append.mpr ⟨lw_r6, lw_r7⟩⟩⟩⟩⟩⟩
end
section
def RX0 : String := "FlapBoard$Board"
def TX0 : u_T := fun k => match k with
  | 0 => ("FlapBoard$Board", "rows", "I", false)
  | 1 => ("FlapBoard$Board", "wide", "I", false)
  | 2 => ("FlapBoard$Board", "limit", "I", false)
  | 3 => ("FlapBoard$Board", "drums", "I", false)
  | 4 => ("FlapBoard$Board", "clatter", "I", false)
  | 5 => ("FlapBoard$Board", "ticks", "I", false)
  | 6 => ("FlapBoard$Board", "currents", "[I", true)
  | 7 => ("FlapBoard$Board", "sizes", "[I", true)
  | 8 => ("FlapBoard$Board", "signs", "[I", true)
  | 9 => ("FlapBoard$Board", "drumOf", "[I", true)
  | 10 => ("FlapBoard$Board", "shows", "[I", true)
  | 11 => ("FlapBoard$Board", "believes", "[I", true)
  | 12 => ("FlapBoard$Board", "wants", "[I", true)
  | 13 => ("FlapBoard$Board", "loses", "[I", true)
  | 14 => ("FlapBoard$Board", "steps", "[I", true)
  | 15 => ("FlapBoard$Board", "founds", "[I", true)
  | 16 => ("FlapBoard$Board", "wornOf", "[J", true)
  | _ => ("FlapBoard$Board", "entries", "[I", false)
def tyX0 : Nat → FieldType := fun k => match k with
  | 0 => .int
  | 1 => .int
  | 2 => .int
  | 3 => .int
  | 4 => .int
  | 5 => .int
  | 6 => .array .int
  | 7 => .array .int
  | 8 => .array .int
  | 9 => .array .int
  | 10 => .array .int
  | 11 => .array .int
  | 12 => .array .int
  | 13 => .array .int
  | 14 => .array .int
  | 15 => .array .int
  | 16 => .array .long
  | _ => .array .int
theorem nmX0 : ∀ a, a < 18 → ∀ b, b < 18 → a ≠ b → (TX0 a).2.1 ≠ (TX0 b).2.1 := by decide +kernel
theorem tyX0_ok : ∀ k, k < 18 → parseFieldDescriptor (TX0 k).2.2.1 = some (tyX0 k) := by decide +kernel
abbrev cX0_init : ByteArray := prog_2_method_1_code
def yX0_init : MethodName := ⟨RX0, "<init>", "()V"⟩
abbrev cX0_clear : ByteArray := prog_2_method_2_code
def yX0_clear : MethodName := ⟨RX0, "clear", "()V"⟩
abbrev cX0_setLost : ByteArray := prog_2_method_3_code
def yX0_setLost : MethodName := ⟨RX0, "setLost", "(II)V"⟩
abbrev cX0_makeCell : ByteArray := prog_2_method_4_code
def yX0_makeCell : MethodName := ⟨RX0, "makeCell", "(II)V"⟩
abbrev cX0_addDrum : ByteArray := prog_2_method_5_code
def yX0_addDrum : MethodName := ⟨RX0, "addDrum", "(ILFlapBoard$Tape;II)V"⟩
abbrev cX0_copyAll : ByteArray := prog_2_method_6_code
def yX0_copyAll : MethodName := ⟨RX0, "copyAll", "(LFlapBoard$Board;)V"⟩
abbrev cX0_copyAllButLog : ByteArray := prog_2_method_7_code
def yX0_copyAllButLog : MethodName := ⟨RX0, "copyAllButLog", "(LFlapBoard$Board;)V"⟩
abbrev cX0_isThere : ByteArray := prog_2_method_8_code
def yX0_isThere : MethodName := ⟨RX0, "isThere", "()Z"⟩
abbrev cX0_cells : ByteArray := prog_2_method_9_code
def yX0_cells : MethodName := ⟨RX0, "cells", "()I"⟩
abbrev cX0_hasCell : ByteArray := prog_2_method_10_code
def yX0_hasCell : MethodName := ⟨RX0, "hasCell", "(I)Z"⟩
abbrev cX0_hasRow : ByteArray := prog_2_method_11_code
def yX0_hasRow : MethodName := ⟨RX0, "hasRow", "(I)Z"⟩
abbrev cX0_hasDrum : ByteArray := prog_2_method_12_code
def yX0_hasDrum : MethodName := ⟨RX0, "hasDrum", "(I)Z"⟩
abbrev cX0_hasFlap : ByteArray := prog_2_method_13_code
def yX0_hasFlap : MethodName := ⟨RX0, "hasFlap", "(II)Z"⟩
abbrev cX0_isMovable : ByteArray := prog_2_method_14_code
def yX0_isMovable : MethodName := ⟨RX0, "isMovable", "(II)Z"⟩
abbrev cX0_flapsOn : ByteArray := prog_2_method_15_code
def yX0_flapsOn : MethodName := ⟨RX0, "flapsOn", "(I)I"⟩
abbrev cX0_flapsOf : ByteArray := prog_2_method_16_code
def yX0_flapsOf : MethodName := ⟨RX0, "flapsOf", "(I)I"⟩
abbrev cX0_currentOf : ByteArray := prog_2_method_17_code
def yX0_currentOf : MethodName := ⟨RX0, "currentOf", "(I)I"⟩
abbrev cX0_signOf : ByteArray := prog_2_method_18_code
def yX0_signOf : MethodName := ⟨RX0, "signOf", "(II)I"⟩
abbrev cX0_signOn : ByteArray := prog_2_method_19_code
def yX0_signOn : MethodName := ⟨RX0, "signOn", "(II)I"⟩
abbrev cX0_wantedSign : ByteArray := prog_2_method_20_code
def yX0_wantedSign : MethodName := ⟨RX0, "wantedSign", "(I)I"⟩
abbrev cX0_showsWrong : ByteArray := prog_2_method_21_code
def yX0_showsWrong : MethodName := ⟨RX0, "showsWrong", "(I)Z"⟩
abbrev cX0_wrongCount : ByteArray := prog_2_method_22_code
def yX0_wrongCount : MethodName := ⟨RX0, "wrongCount", "()I"⟩
abbrev cX0_sumOf : ByteArray := prog_2_method_23_code
def yX0_sumOf : MethodName := ⟨RX0, "sumOf", "([I)I"⟩
abbrev cX0_swapSigns : ByteArray := prog_2_method_24_code
def yX0_swapSigns : MethodName := ⟨RX0, "swapSigns", "(III)V"⟩
abbrev cX0_cellsWith : ByteArray := prog_2_method_25_code
def yX0_cellsWith : MethodName := ⟨RX0, "cellsWith", "(I)I"⟩
abbrev cX0_flapsWith : ByteArray := prog_2_method_26_code
def yX0_flapsWith : MethodName := ⟨RX0, "flapsWith", "(III)I"⟩
abbrev cX0_drumHas : ByteArray := prog_2_method_27_code
def yX0_drumHas : MethodName := ⟨RX0, "drumHas", "(II)Z"⟩
abbrev cX0_someDrumHas : ByteArray := prog_2_method_28_code
def yX0_someDrumHas : MethodName := ⟨RX0, "someDrumHas", "(I)Z"⟩
abbrev cX0_missedOfOwn : ByteArray := prog_2_method_29_code
def yX0_missedOfOwn : MethodName := ⟨RX0, "missedOfOwn", "(I)I"⟩
abbrev cX0_signsOfOthers : ByteArray := prog_2_method_30_code
def yX0_signsOfOthers : MethodName := ⟨RX0, "signsOfOthers", "(I)I"⟩
abbrev cX0_isLastOfSign : ByteArray := prog_2_method_31_code
def yX0_isLastOfSign : MethodName := ⟨RX0, "isLastOfSign", "(II)Z"⟩
abbrev cX0_unlikeSigns : ByteArray := prog_2_method_32_code
def yX0_unlikeSigns : MethodName := ⟨RX0, "unlikeSigns", "(I)I"⟩
abbrev cX0_mostOfOneSign : ByteArray := prog_2_method_33_code
def yX0_mostOfOneSign : MethodName := ⟨RX0, "mostOfOneSign", "(I)I"⟩
abbrev cX0_isWorn : ByteArray := prog_2_method_34_code
def yX0_isWorn : MethodName := ⟨RX0, "isWorn", "(II)Z"⟩
abbrev cX0_wornCount : ByteArray := prog_2_method_35_code
def yX0_wornCount : MethodName := ⟨RX0, "wornCount", "(I)I"⟩
abbrev cX0_wearFlap : ByteArray := prog_2_method_36_code
def yX0_wearFlap : MethodName := ⟨RX0, "wearFlap", "(II)V"⟩
abbrev cX0_mendFlap : ByteArray := prog_2_method_37_code
def yX0_mendFlap : MethodName := ⟨RX0, "mendFlap", "(II)V"⟩
abbrev cX0_flapsOnTo : ByteArray := prog_2_method_38_code
def yX0_flapsOnTo : MethodName := ⟨RX0, "flapsOnTo", "(II)I"⟩
abbrev cX0_leftOf : ByteArray := prog_2_method_39_code
def yX0_leftOf : MethodName := ⟨RX0, "leftOf", "(I)I"⟩
abbrev cX0_nearest : ByteArray := prog_2_method_40_code
def yX0_nearest : MethodName := ⟨RX0, "nearest", "(II)I"⟩
abbrev cX0_flapFor : ByteArray := prog_2_method_41_code
def yX0_flapFor : MethodName := ⟨RX0, "flapFor", "(IILFlapBoard$Tape;II)I"⟩
abbrev cX0_costOf : ByteArray := prog_2_method_42_code
def yX0_costOf : MethodName := ⟨RX0, "costOf", "(IILFlapBoard$Tape;II)I"⟩
abbrev cX0_missesOf : ByteArray := prog_2_method_43_code
def yX0_missesOf : MethodName := ⟨RX0, "missesOf", "(IILFlapBoard$Tape;II)I"⟩
abbrev cX0_wantSigns : ByteArray := prog_2_method_44_code
def yX0_wantSigns : MethodName := ⟨RX0, "wantSigns", "(ILFlapBoard$Tape;II)I"⟩
abbrev cX0_scrollUp : ByteArray := prog_2_method_45_code
def yX0_scrollUp : MethodName := ⟨RX0, "scrollUp", "(LFlapBoard$Tape;II)I"⟩
abbrev cX0_wantFlap : ByteArray := prog_2_method_46_code
def yX0_wantFlap : MethodName := ⟨RX0, "wantFlap", "(II)I"⟩
abbrev cX0_wantHome : ByteArray := prog_2_method_47_code
def yX0_wantHome : MethodName := ⟨RX0, "wantHome", "(I)V"⟩
abbrev cX0_showSigns : ByteArray := prog_2_method_48_code
def yX0_showSigns : MethodName := ⟨RX0, "showSigns", "(ILFlapBoard$Tape;II)V"⟩
abbrev cX0_stepOn : ByteArray := prog_2_method_49_code
def yX0_stepOn : MethodName := ⟨RX0, "stepOn", "(I)I"⟩
abbrev cX0_leftOfAll : ByteArray := prog_2_method_50_code
def yX0_leftOfAll : MethodName := ⟨RX0, "leftOfAll", "(Z)I"⟩
abbrev cX0_mostLeft : ByteArray := prog_2_method_51_code
def yX0_mostLeft : MethodName := ⟨RX0, "mostLeft", "()I"⟩
abbrev cX0_emptyLog : ByteArray := prog_2_method_52_code
def yX0_emptyLog : MethodName := ⟨RX0, "emptyLog", "()V"⟩
abbrev cX0_entryStart : ByteArray := prog_2_method_53_code
def yX0_entryStart : MethodName := ⟨RX0, "entryStart", "(I)I"⟩
abbrev cX0_entryCount : ByteArray := prog_2_method_54_code
def yX0_entryCount : MethodName := ⟨RX0, "entryCount", "()I"⟩
abbrev cX0_entryAt : ByteArray := prog_2_method_55_code
def yX0_entryAt : MethodName := ⟨RX0, "entryAt", "(IIII)I"⟩
abbrev cX0_journey : ByteArray := prog_2_method_56_code
def yX0_journey : MethodName := ⟨RX0, "journey", "(I)I"⟩
abbrev cX0_logSize : ByteArray := prog_2_method_57_code
def yX0_logSize : MethodName := ⟨RX0, "logSize", "(I)I"⟩
abbrev cX0_unlikeEntries : ByteArray := prog_2_method_58_code
def yX0_unlikeEntries : MethodName := ⟨RX0, "unlikeEntries", "(I)I"⟩
abbrev cX0_entriesOf : ByteArray := prog_2_method_59_code
def yX0_entriesOf : MethodName := ⟨RX0, "entriesOf", "(IIZ)I"⟩
abbrev cX0_journeyChange : ByteArray := prog_2_method_60_code
def yX0_journeyChange : MethodName := ⟨RX0, "journeyChange", "(III)I"⟩
def RX1 : String := "FlapBoard$BoardText"
def TX1 : u_T := fun k => match k with
  | _ => ("", "", "", false)
def tyX1 : Nat → FieldType := fun k => match k with
  | _ => .int
theorem nmX1 : ∀ a, a < 0 → ∀ b, b < 0 → a ≠ b → (TX1 a).2.1 ≠ (TX1 b).2.1 := by decide +kernel
theorem tyX1_ok : ∀ k, k < 0 → parseFieldDescriptor (TX1 k).2.2.1 = some (tyX1 k) := by decide +kernel
abbrev cX1_readInto : ByteArray := prog_3_method_2_code
def yX1_readInto : MethodName := ⟨RX1, "readInto", "(LFlapBoard$Board;LFlapBoard$Tape;)V"⟩
abbrev cX1_readHead : ByteArray := prog_3_method_3_code
def yX1_readHead : MethodName := ⟨RX1, "readHead", "(LFlapBoard$Board;LFlapBoard$Tape;)V"⟩
abbrev cX1_readPart : ByteArray := prog_3_method_4_code
def yX1_readPart : MethodName := ⟨RX1, "readPart", "(LFlapBoard$Board;LFlapBoard$Tape;)V"⟩
abbrev cX1_readDrum : ByteArray := prog_3_method_5_code
def yX1_readDrum : MethodName := ⟨RX1, "readDrum", "(LFlapBoard$Board;LFlapBoard$Tape;)V"⟩
abbrev cX1_readCells : ByteArray := prog_3_method_6_code
def yX1_readCells : MethodName := ⟨RX1, "readCells", "(LFlapBoard$Board;LFlapBoard$Tape;)V"⟩
abbrev cX1_readWorn : ByteArray := prog_3_method_7_code
def yX1_readWorn : MethodName := ⟨RX1, "readWorn", "(LFlapBoard$Board;LFlapBoard$Tape;)V"⟩
abbrev cX1_readRow : ByteArray := prog_3_method_8_code
def yX1_readRow : MethodName := ⟨RX1, "readRow", "(LFlapBoard$Board;LFlapBoard$Tape;)V"⟩
abbrev cX1_readLose : ByteArray := prog_3_method_9_code
def yX1_readLose : MethodName := ⟨RX1, "readLose", "(LFlapBoard$Board;LFlapBoard$Tape;)V"⟩
def RX2 : String := "FlapBoard$Motor"
def TX2 : u_T := fun k => match k with
  | 0 => ("FlapBoard$Motor", "firstByLeft", "[I", true)
  | 1 => ("FlapBoard$Motor", "nextCell", "[I", true)
  | 2 => ("FlapBoard$Motor", "chosen", "[I", true)
  | 3 => ("FlapBoard$Motor", "size", "I", false)
  | 4 => ("FlapBoard$Motor", "current", "I", false)
  | 5 => ("FlapBoard$Motor", "ticks", "I", false)
  | 6 => ("FlapBoard$Motor", "steps", "I", false)
  | 7 => ("FlapBoard$Motor", "clatter", "I", false)
  | 8 => ("FlapBoard$Motor", "mostCurrent", "I", false)
  | 9 => ("FlapBoard$Motor", "loudestTick", "I", false)
  | 10 => ("FlapBoard$Motor", "loudestClatter", "I", false)
  | _ => ("FlapBoard$Motor", "found", "I", false)
def tyX2 : Nat → FieldType := fun k => match k with
  | 0 => .array .int
  | 1 => .array .int
  | 2 => .array .int
  | 3 => .int
  | 4 => .int
  | 5 => .int
  | 6 => .int
  | 7 => .int
  | 8 => .int
  | 9 => .int
  | 10 => .int
  | _ => .int
theorem nmX2 : ∀ a, a < 12 → ∀ b, b < 12 → a ≠ b → (TX2 a).2.1 ≠ (TX2 b).2.1 := by decide +kernel
theorem tyX2_ok : ∀ k, k < 12 → parseFieldDescriptor (TX2 k).2.2.1 = some (tyX2 k) := by decide +kernel
abbrev cX2_init : ByteArray := prog_4_method_1_code
def yX2_init : MethodName := ⟨RX2, "<init>", "()V"⟩
abbrev cX2_turn : ByteArray := prog_4_method_2_code
def yX2_turn : MethodName := ⟨RX2, "turn", "(LFlapBoard$Board;I)V"⟩
abbrev cX2_startCounting : ByteArray := prog_4_method_3_code
def yX2_startCounting : MethodName := ⟨RX2, "startCounting", "()V"⟩
abbrev cX2_countTick : ByteArray := prog_4_method_4_code
def yX2_countTick : MethodName := ⟨RX2, "countTick", "(I)V"⟩
abbrev cX2_choose : ByteArray := prog_4_method_5_code
def yX2_choose : MethodName := ⟨RX2, "choose", "(LFlapBoard$Board;)V"⟩
abbrev cX2_sortByLeft : ByteArray := prog_4_method_6_code
def yX2_sortByLeft : MethodName := ⟨RX2, "sortByLeft", "(LFlapBoard$Board;)I"⟩
abbrev cX2_chosenBits : ByteArray := prog_4_method_7_code
def yX2_chosenBits : MethodName := ⟨RX2, "chosenBits", "()J"⟩
def RX3 : String := "FlapBoard$Past"
def TX3 : u_T := fun k => match k with
  | 0 => ("FlapBoard$Past", "boards", "[LFlapBoard$Board;", true)
  | 1 => ("FlapBoard$Past", "size", "I", false)
  | _ => ("FlapBoard$Past", "next", "I", false)
def tyX3 : Nat → FieldType := fun k => match k with
  | 0 => .array (.object "FlapBoard$Board")
  | 1 => .int
  | _ => .int
theorem nmX3 : ∀ a, a < 3 → ∀ b, b < 3 → a ≠ b → (TX3 a).2.1 ≠ (TX3 b).2.1 := by decide +kernel
theorem tyX3_ok : ∀ k, k < 3 → parseFieldDescriptor (TX3 k).2.2.1 = some (tyX3 k) := by decide +kernel
abbrev cX3_init : ByteArray := prog_5_method_1_code
def yX3_init : MethodName := ⟨RX3, "<init>", "()V"⟩
abbrev cX3_push : ByteArray := prog_5_method_2_code
def yX3_push : MethodName := ⟨RX3, "push", "(LFlapBoard$Board;)V"⟩
abbrev cX3_pop : ByteArray := prog_5_method_3_code
def yX3_pop : MethodName := ⟨RX3, "pop", "(LFlapBoard$Board;)Z"⟩
def RX4 : String := "FlapBoard$Program"
def TX4 : u_T := fun k => match k with
  | 0 => ("FlapBoard$Program", "kinds", "[I", true)
  | 1 => ("FlapBoard$Program", "ones", "[I", true)
  | 2 => ("FlapBoard$Program", "twos", "[I", true)
  | 3 => ("FlapBoard$Program", "quoted", "[I", true)
  | 4 => ("FlapBoard$Program", "ends", "[I", true)
  | 5 => ("FlapBoard$Program", "open", "[I", true)
  | 6 => ("FlapBoard$Program", "again", "[I", true)
  | 7 => ("FlapBoard$Program", "depth", "I", false)
  | 8 => ("FlapBoard$Program", "size", "I", false)
  | _ => ("FlapBoard$Program", "at", "I", false)
def tyX4 : Nat → FieldType := fun k => match k with
  | 0 => .array .int
  | 1 => .array .int
  | 2 => .array .int
  | 3 => .array .int
  | 4 => .array .int
  | 5 => .array .int
  | 6 => .array .int
  | 7 => .int
  | 8 => .int
  | _ => .int
theorem nmX4 : ∀ a, a < 10 → ∀ b, b < 10 → a ≠ b → (TX4 a).2.1 ≠ (TX4 b).2.1 := by decide +kernel
theorem tyX4_ok : ∀ k, k < 10 → parseFieldDescriptor (TX4 k).2.2.1 = some (tyX4 k) := by decide +kernel
abbrev cX4_init : ByteArray := prog_6_method_1_code
def yX4_init : MethodName := ⟨RX4, "<init>", "()V"⟩
abbrev cX4_hasStep : ByteArray := prog_6_method_2_code
def yX4_hasStep : MethodName := ⟨RX4, "hasStep", "(I)Z"⟩
abbrev cX4_kindOf : ByteArray := prog_6_method_3_code
def yX4_kindOf : MethodName := ⟨RX4, "kindOf", "(I)I"⟩
abbrev cX4_oneOf : ByteArray := prog_6_method_4_code
def yX4_oneOf : MethodName := ⟨RX4, "oneOf", "(I)I"⟩
abbrev cX4_twoOf : ByteArray := prog_6_method_5_code
def yX4_twoOf : MethodName := ⟨RX4, "twoOf", "(I)I"⟩
abbrev cX4_quotedOf : ByteArray := prog_6_method_6_code
def yX4_quotedOf : MethodName := ⟨RX4, "quotedOf", "(I)I"⟩
abbrev cX4_endOf : ByteArray := prog_6_method_7_code
def yX4_endOf : MethodName := ⟨RX4, "endOf", "(I)I"⟩
abbrev cX4_startDoing : ByteArray := prog_6_method_8_code
def yX4_startDoing : MethodName := ⟨RX4, "startDoing", "()V"⟩
abbrev cX4_goOn : ByteArray := prog_6_method_9_code
def yX4_goOn : MethodName := ⟨RX4, "goOn", "()V"⟩
abbrev cX4_readFrom : ByteArray := prog_6_method_10_code
def yX4_readFrom : MethodName := ⟨RX4, "readFrom", "(LFlapBoard$Tape;LFlapBoard$Board;)V"⟩
abbrev cX4_readStep : ByteArray := prog_6_method_11_code
def yX4_readStep : MethodName := ⟨RX4, "readStep", "(ILFlapBoard$Tape;LFlapBoard$Board;)V"⟩
abbrev cX4_openTimes : ByteArray := prog_6_method_12_code
def yX4_openTimes : MethodName := ⟨RX4, "openTimes", "(LFlapBoard$Tape;)V"⟩
abbrev cX4_addStep : ByteArray := prog_6_method_13_code
def yX4_addStep : MethodName := ⟨RX4, "addStep", "(IIII)V"⟩
abbrev cX4_goesOn : ByteArray := prog_6_method_14_code
def yX4_goesOn : MethodName := ⟨RX4, "goesOn", "(LFlapBoard$Tape;)Z"⟩
abbrev cX4_closeTimes : ByteArray := prog_6_method_15_code
def yX4_closeTimes : MethodName := ⟨RX4, "closeTimes", "(I)V"⟩
def RX5 : String := "FlapBoard$Tape"
def TX5 : u_T := fun k => match k with
  | 0 => ("FlapBoard$Tape", "bytes", "[I", true)
  | 1 => ("FlapBoard$Tape", "size", "I", false)
  | 2 => ("FlapBoard$Tape", "at", "I", false)
  | 3 => ("FlapBoard$Tape", "begun", "I", false)
  | 4 => ("FlapBoard$Tape", "quotedFrom", "I", false)
  | 5 => ("FlapBoard$Tape", "quotedSize", "I", false)
  | _ => ("FlapBoard$Tape", "fault", "I", false)
def tyX5 : Nat → FieldType := fun k => match k with
  | 0 => .array .int
  | 1 => .int
  | 2 => .int
  | 3 => .int
  | 4 => .int
  | 5 => .int
  | _ => .int
theorem nmX5 : ∀ a, a < 7 → ∀ b, b < 7 → a ≠ b → (TX5 a).2.1 ≠ (TX5 b).2.1 := by decide +kernel
theorem tyX5_ok : ∀ k, k < 7 → parseFieldDescriptor (TX5 k).2.2.1 = some (tyX5 k) := by decide +kernel
abbrev cX5_init : ByteArray := prog_7_method_1_code
def yX5_init : MethodName := ⟨RX5, "<init>", "()V"⟩
abbrev cX5_addNumber : ByteArray := prog_7_method_2_code
def yX5_addNumber : MethodName := ⟨RX5, "addNumber", "(I)V"⟩
abbrev cX5_byteAt : ByteArray := prog_7_method_3_code
def yX5_byteAt : MethodName := ⟨RX5, "byteAt", "(I)I"⟩
abbrev cX5_startReading : ByteArray := prog_7_method_4_code
def yX5_startReading : MethodName := ⟨RX5, "startReading", "()V"⟩
abbrev cX5_isSound : ByteArray := prog_7_method_5_code
def yX5_isSound : MethodName := ⟨RX5, "isSound", "()Z"⟩
abbrev cX5_blame : ByteArray := prog_7_method_6_code
def yX5_blame : MethodName := ⟨RX5, "blame", "(II)V"⟩
abbrev cX5_peek : ByteArray := prog_7_method_7_code
def yX5_peek : MethodName := ⟨RX5, "peek", "()I"⟩
abbrev cX5_takeByte : ByteArray := prog_7_method_8_code
def yX5_takeByte : MethodName := ⟨RX5, "takeByte", "(I)V"⟩
abbrev cX5_takeWord : ByteArray := prog_7_method_9_code
def yX5_takeWord : MethodName := ⟨RX5, "takeWord", "()I"⟩
abbrev cX5_takeThisWord : ByteArray := prog_7_method_10_code
def yX5_takeThisWord : MethodName := ⟨RX5, "takeThisWord", "(I)V"⟩
abbrev cX5_wordRead : ByteArray := prog_7_method_11_code
def yX5_wordRead : MethodName := ⟨RX5, "wordRead", "()I"⟩
abbrev cX5_isRead : ByteArray := prog_7_method_12_code
def yX5_isRead : MethodName := ⟨RX5, "isRead", "(Ljava/lang/String;)Z"⟩
abbrev cX5_takeNumber : ByteArray := prog_7_method_13_code
def yX5_takeNumber : MethodName := ⟨RX5, "takeNumber", "(II)I"⟩
abbrev cX5_takeQuoted : ByteArray := prog_7_method_14_code
def yX5_takeQuoted : MethodName := ⟨RX5, "takeQuoted", "(II)V"⟩
def RX6 : String := "FlapBoard"
def TX6 : u_T := fun k => match k with
  | 0 => ("FlapBoard", "tape", "LFlapBoard$Tape;", true)
  | 1 => ("FlapBoard", "board", "LFlapBoard$Board;", true)
  | 2 => ("FlapBoard", "trial", "LFlapBoard$Board;", true)
  | 3 => ("FlapBoard", "motor", "LFlapBoard$Motor;", true)
  | 4 => ("FlapBoard", "program", "LFlapBoard$Program;", true)
  | 5 => ("FlapBoard", "past", "LFlapBoard$Past;", true)
  | _ => ("FlapBoard", "shelves", "[LFlapBoard$Board;", true)
def tyX6 : Nat → FieldType := fun k => match k with
  | 0 => .object "FlapBoard$Tape"
  | 1 => .object "FlapBoard$Board"
  | 2 => .object "FlapBoard$Board"
  | 3 => .object "FlapBoard$Motor"
  | 4 => .object "FlapBoard$Program"
  | 5 => .object "FlapBoard$Past"
  | _ => .array (.object "FlapBoard$Board")
theorem nmX6 : ∀ a, a < 7 → ∀ b, b < 7 → a ≠ b → (TX6 a).2.1 ≠ (TX6 b).2.1 := by decide +kernel
theorem tyX6_ok : ∀ k, k < 7 → parseFieldDescriptor (TX6 k).2.2.1 = some (tyX6 k) := by decide +kernel
abbrev cX6_init : ByteArray := prog_1_method_1_code
def yX6_init : MethodName := ⟨RX6, "<init>", "()V"⟩
abbrev cX6_feed : ByteArray := prog_1_method_2_code
def yX6_feed : MethodName := ⟨RX6, "feed", "(IIIII)I"⟩
abbrev cX6_end : ByteArray := prog_1_method_3_code
def yX6_end : MethodName := ⟨RX6, "end", "(I)I"⟩
abbrev cX6_tell : ByteArray := prog_1_method_4_code
def yX6_tell : MethodName := ⟨RX6, "tell", "()I"⟩
abbrev cX6_row : ByteArray := prog_1_method_5_code
def yX6_row : MethodName := ⟨RX6, "row", "(I)I"⟩
abbrev cX6_scroll : ByteArray := prog_1_method_6_code
def yX6_scroll : MethodName := ⟨RX6, "scroll", "()I"⟩
abbrev cX6_tick : ByteArray := prog_1_method_7_code
def yX6_tick : MethodName := ⟨RX6, "tick", "(I)I"⟩
abbrev cX6_settle : ByteArray := prog_1_method_8_code
def yX6_settle : MethodName := ⟨RX6, "settle", "()I"⟩
abbrev cX6_lose : ByteArray := prog_1_method_9_code
def yX6_lose : MethodName := ⟨RX6, "lose", "(II)I"⟩
abbrev cX6_wear : ByteArray := prog_1_method_10_code
def yX6_wear : MethodName := ⟨RX6, "wear", "(II)I"⟩
abbrev cX6_mend : ByteArray := prog_1_method_11_code
def yX6_mend : MethodName := ⟨RX6, "mend", "(II)I"⟩
abbrev cX6_limit : ByteArray := prog_1_method_12_code
def yX6_limit : MethodName := ⟨RX6, "limit", "(I)I"⟩
abbrev cX6_exchange : ByteArray := prog_1_method_13_code
def yX6_exchange : MethodName := ⟨RX6, "exchange", "(III)I"⟩
abbrev cX6_run : ByteArray := prog_1_method_14_code
def yX6_run : MethodName := ⟨RX6, "run", "()I"⟩
abbrev cX6_whyNotProgram : ByteArray := prog_1_method_15_code
def yX6_whyNotProgram : MethodName := ⟨RX6, "whyNotProgram", "()I"⟩
abbrev cX6_doProgram : ByteArray := prog_1_method_16_code
def yX6_doProgram : MethodName := ⟨RX6, "doProgram", "()I"⟩
abbrev cX6_doStep : ByteArray := prog_1_method_17_code
def yX6_doStep : MethodName := ⟨RX6, "doStep", "(I)V"⟩
abbrev cX6_undo : ByteArray := prog_1_method_18_code
def yX6_undo : MethodName := ⟨RX6, "undo", "()I"⟩
abbrev cX6_keep : ByteArray := prog_1_method_19_code
def yX6_keep : MethodName := ⟨RX6, "keep", "(I)I"⟩
abbrev cX6_back : ByteArray := prog_1_method_20_code
def yX6_back : MethodName := ⟨RX6, "back", "(I)I"⟩
abbrev cX6_isShelf : ByteArray := prog_1_method_21_code
def yX6_isShelf : MethodName := ⟨RX6, "isShelf", "(I)Z"⟩
abbrev cX6_shelvesUsed : ByteArray := prog_1_method_22_code
def yX6_shelvesUsed : MethodName := ⟨RX6, "shelvesUsed", "()I"⟩
abbrev cX6_cell : ByteArray := prog_1_method_23_code
def yX6_cell : MethodName := ⟨RX6, "cell", "(II)I"⟩
abbrev cX6_worn : ByteArray := prog_1_method_24_code
def yX6_worn : MethodName := ⟨RX6, "worn", "(I)J"⟩
abbrev cX6_drum : ByteArray := prog_1_method_25_code
def yX6_drum : MethodName := ⟨RX6, "drum", "(II)I"⟩
abbrev cX6_sign : ByteArray := prog_1_method_26_code
def yX6_sign : MethodName := ⟨RX6, "sign", "(II)I"⟩
abbrev cX6_at : ByteArray := prog_1_method_27_code
def yX6_at : MethodName := ⟨RX6, "at", "(III)I"⟩
abbrev cX6_which : ByteArray := prog_1_method_28_code
def yX6_which : MethodName := ⟨RX6, "which", "(I)J"⟩
abbrev cX6_isSuch : ByteArray := prog_1_method_29_code
def yX6_isSuch : MethodName := ⟨RX6, "isSuch", "(II)Z"⟩
abbrev cX6_left : ByteArray := prog_1_method_30_code
def yX6_left : MethodName := ⟨RX6, "left", "(I)I"⟩
abbrev cX6_leastTicks : ByteArray := prog_1_method_31_code
def yX6_leastTicks : MethodName := ⟨RX6, "leastTicks", "()I"⟩
abbrev cX6_when : ByteArray := prog_1_method_32_code
def yX6_when : MethodName := ⟨RX6, "when", "(I)I"⟩
abbrev cX6_loudest : ByteArray := prog_1_method_33_code
def yX6_loudest : MethodName := ⟨RX6, "loudest", "(I)I"⟩
abbrev cX6_tryToSettle : ByteArray := prog_1_method_34_code
def yX6_tryToSettle : MethodName := ⟨RX6, "tryToSettle", "()V"⟩
abbrev cX6_total : ByteArray := prog_1_method_35_code
def yX6_total : MethodName := ⟨RX6, "total", "(I)I"⟩
abbrev cX6_rests : ByteArray := prog_1_method_36_code
def yX6_rests : MethodName := ⟨RX6, "rests", "(I)I"⟩
abbrev cX6_cost : ByteArray := prog_1_method_37_code
def yX6_cost : MethodName := ⟨RX6, "cost", "(I)I"⟩
abbrev cX6_best : ByteArray := prog_1_method_38_code
def yX6_best : MethodName := ⟨RX6, "best", "(II)I"⟩
abbrev cX6_place : ByteArray := prog_1_method_39_code
def yX6_place : MethodName := ⟨RX6, "place", "(II)I"⟩
abbrev cX6_whyNotRow : ByteArray := prog_1_method_40_code
def yX6_whyNotRow : MethodName := ⟨RX6, "whyNotRow", "(I)I"⟩
abbrev cX6_isRowText : ByteArray := prog_1_method_41_code
def yX6_isRowText : MethodName := ⟨RX6, "isRowText", "(II)Z"⟩
abbrev cX6_isSign : ByteArray := prog_1_method_42_code
def yX6_isSign : MethodName := ⟨RX6, "isSign", "(I)Z"⟩
abbrev cX6_log : ByteArray := prog_1_method_43_code
def yX6_log : MethodName := ⟨RX6, "log", "(II)I"⟩
abbrev cX6_often : ByteArray := prog_1_method_44_code
def yX6_often : MethodName := ⟨RX6, "often", "(IIZ)I"⟩
abbrev cX6_usual : ByteArray := prog_1_method_45_code
def yX6_usual : MethodName := ⟨RX6, "usual", "(II)I"⟩
abbrev cX6_better : ByteArray := prog_1_method_46_code
def yX6_better : MethodName := ⟨RX6, "better", "(II)I"⟩
abbrev cX6_farthest : ByteArray := prog_1_method_47_code
def yX6_farthest : MethodName := ⟨RX6, "farthest", "(II)I"⟩
abbrev cX6_lacks : ByteArray := prog_1_method_48_code
def yX6_lacks : MethodName := ⟨RX6, "lacks", "(II)I"⟩
abbrev cX6_unlike : ByteArray := prog_1_method_49_code
def yX6_unlike : MethodName := ⟨RX6, "unlike", "(II)I"⟩
abbrev cX6_letter : ByteArray := prog_1_method_50_code
def yX6_letter : MethodName := ⟨RX6, "letter", "(II)I"⟩
abbrev cX6_digest : ByteArray := prog_1_method_51_code
def yX6_digest : MethodName := ⟨RX6, "digest", "()J"⟩
abbrev cX6_count : ByteArray := prog_1_method_52_code
def yX6_count : MethodName := ⟨RX6, "count", "(I)I"⟩
abbrev cX6_onFrom : ByteArray := prog_1_method_53_code
def yX6_onFrom : MethodName := ⟨RX6, "onFrom", "(III)I"⟩
abbrev cX6_behind : ByteArray := prog_1_method_54_code
def yX6_behind : MethodName := ⟨RX6, "behind", "(II)I"⟩
def RX7 : String := "FlapBoardModel"
def TX7 : u_T := fun k => match k with
  | 0 => ("FlapBoardModel", "now", "[J", true)
  | 1 => ("FlapBoardModel", "was", "[J", true)
  | 2 => ("FlapBoardModel", "undone", "I", false)
  | 3 => ("FlapBoardModel", "kept", "[J", true)
  | 4 => ("FlapBoardModel", "isKept", "[Z", true)
  | 5 => ("FlapBoardModel", "aside", "[J", true)
  | 6 => ("FlapBoardModel", "turning", "J", false)
  | 7 => ("FlapBoardModel", "turnMany", "I", false)
  | 8 => ("FlapBoardModel", "turnCurrent", "I", false)
  | 9 => ("FlapBoardModel", "wanted", "[I", true)
  | 10 => ("FlapBoardModel", "costs", "I", false)
  | 11 => ("FlapBoardModel", "misses", "I", false)
  | 12 => ("FlapBoardModel", "tape", "[B", true)
  | 13 => ("FlapBoardModel", "taped", "I", false)
  | 14 => ("FlapBoardModel", "spot", "I", false)
  | 15 => ("FlapBoardModel", "wrong", "I", false)
  | 16 => ("FlapBoardModel", "number", "I", false)
  | 17 => ("FlapBoardModel", "numberAt", "I", false)
  | 18 => ("FlapBoardModel", "quoted", "I", false)
  | 19 => ("FlapBoardModel", "quotedMany", "I", false)
  | 20 => ("FlapBoardModel", "loseCell", "I", false)
  | 21 => ("FlapBoardModel", "done", "I", false)
  | _ => ("FlapBoardModel", "deep", "I", false)
def tyX7 : Nat → FieldType := fun k => match k with
  | 0 => .array .long
  | 1 => .array .long
  | 2 => .int
  | 3 => .array .long
  | 4 => .array .boolean
  | 5 => .array .long
  | 6 => .long
  | 7 => .int
  | 8 => .int
  | 9 => .array .int
  | 10 => .int
  | 11 => .int
  | 12 => .array .byte
  | 13 => .int
  | 14 => .int
  | 15 => .int
  | 16 => .int
  | 17 => .int
  | 18 => .int
  | 19 => .int
  | 20 => .int
  | 21 => .int
  | _ => .int
theorem nmX7 : ∀ a, a < 23 → ∀ b, b < 23 → a ≠ b → (TX7 a).2.1 ≠ (TX7 b).2.1 := by decide +kernel
theorem tyX7_ok : ∀ k, k < 23 → parseFieldDescriptor (TX7 k).2.2.1 = some (tyX7 k) := by decide +kernel
abbrev cX7_init : ByteArray := prog_9_method_1_code
def yX7_init : MethodName := ⟨RX7, "<init>", "()V"⟩
abbrev cX7_in : ByteArray := prog_9_method_2_code
def yX7_in : MethodName := ⟨RX7, "in", "(JJJ)Z"⟩
abbrev cX7_isIn : ByteArray := prog_9_method_3_code
def yX7_isIn : MethodName := ⟨RX7, "isIn", "(JI)Z"⟩
abbrev cX7_isSign : ByteArray := prog_9_method_4_code
def yX7_isSign : MethodName := ⟨RX7, "isSign", "(I)Z"⟩
abbrev cX7_rows : ByteArray := prog_9_method_5_code
def yX7_rows : MethodName := ⟨RX7, "rows", "()I"⟩
abbrev cX7_wide : ByteArray := prog_9_method_6_code
def yX7_wide : MethodName := ⟨RX7, "wide", "()I"⟩
abbrev cX7_cells : ByteArray := prog_9_method_7_code
def yX7_cells : MethodName := ⟨RX7, "cells", "()I"⟩
abbrev cX7_drums : ByteArray := prog_9_method_8_code
def yX7_drums : MethodName := ⟨RX7, "drums", "()I"⟩
abbrev cX7_isBoard : ByteArray := prog_9_method_9_code
def yX7_isBoard : MethodName := ⟨RX7, "isBoard", "()Z"⟩
abbrev cX7_isCell : ByteArray := prog_9_method_10_code
def yX7_isCell : MethodName := ⟨RX7, "isCell", "(I)Z"⟩
abbrev cX7_isRow : ByteArray := prog_9_method_11_code
def yX7_isRow : MethodName := ⟨RX7, "isRow", "(I)Z"⟩
abbrev cX7_isDrum : ByteArray := prog_9_method_12_code
def yX7_isDrum : MethodName := ⟨RX7, "isDrum", "(I)Z"⟩
abbrev cX7_of : ByteArray := prog_9_method_13_code
def yX7_of : MethodName := ⟨RX7, "of", "(II)I"⟩
abbrev cX7_sets : ByteArray := prog_9_method_14_code
def yX7_sets : MethodName := ⟨RX7, "sets", "(IIJ)V"⟩
abbrev cX7_wornOf : ByteArray := prog_9_method_15_code
def yX7_wornOf : MethodName := ⟨RX7, "wornOf", "(I)J"⟩
abbrev cX7_currentOf : ByteArray := prog_9_method_16_code
def yX7_currentOf : MethodName := ⟨RX7, "currentOf", "(I)I"⟩
abbrev cX7_flapsOf : ByteArray := prog_9_method_17_code
def yX7_flapsOf : MethodName := ⟨RX7, "flapsOf", "(I)I"⟩
abbrev cX7_signOf : ByteArray := prog_9_method_18_code
def yX7_signOf : MethodName := ⟨RX7, "signOf", "(II)I"⟩
abbrev cX7_flaps : ByteArray := prog_9_method_19_code
def yX7_flaps : MethodName := ⟨RX7, "flaps", "(I)I"⟩
abbrev cX7_current : ByteArray := prog_9_method_20_code
def yX7_current : MethodName := ⟨RX7, "current", "(I)I"⟩
abbrev cX7_on : ByteArray := prog_9_method_21_code
def yX7_on : MethodName := ⟨RX7, "on", "(III)I"⟩
abbrev cX7_leftOf : ByteArray := prog_9_method_22_code
def yX7_leftOf : MethodName := ⟨RX7, "leftOf", "(I)I"⟩
abbrev cX7_bits : ByteArray := prog_9_method_23_code
def yX7_bits : MethodName := ⟨RX7, "bits", "(J)I"⟩
abbrev cX7_steps : ByteArray := prog_9_method_24_code
def yX7_steps : MethodName := ⟨RX7, "steps", "(I)V"⟩
abbrev cX7_findsTurning : ByteArray := prog_9_method_25_code
def yX7_findsTurning : MethodName := ⟨RX7, "findsTurning", "()V"⟩
abbrev cX7_ticks : ByteArray := prog_9_method_26_code
def yX7_ticks : MethodName := ⟨RX7, "ticks", "()I"⟩
abbrev cX7_flapFor : ByteArray := prog_9_method_27_code
def yX7_flapFor : MethodName := ⟨RX7, "flapFor", "(II)I"⟩
abbrev cX7_wantsFlap : ByteArray := prog_9_method_28_code
def yX7_wantsFlap : MethodName := ⟨RX7, "wantsFlap", "(IIZ)V"⟩
abbrev cX7_wantsSigns : ByteArray := prog_9_method_29_code
def yX7_wantsSigns : MethodName := ⟨RX7, "wantsSigns", "(IIIZ)I"⟩
abbrev cX7_scrolls : ByteArray := prog_9_method_30_code
def yX7_scrolls : MethodName := ⟨RX7, "scrolls", "(II)I"⟩
abbrev cX7_keepsAct : ByteArray := prog_9_method_31_code
def yX7_keepsAct : MethodName := ⟨RX7, "keepsAct", "()V"⟩
abbrev cX7_areSigns : ByteArray := prog_9_method_32_code
def yX7_areSigns : MethodName := ⟨RX7, "areSigns", "(II)Z"⟩
abbrev cX7_isRowText : ByteArray := prog_9_method_33_code
def yX7_isRowText : MethodName := ⟨RX7, "isRowText", "(I)Z"⟩
abbrev cX7_row : ByteArray := prog_9_method_34_code
def yX7_row : MethodName := ⟨RX7, "row", "(I)I"⟩
abbrev cX7_scroll : ByteArray := prog_9_method_35_code
def yX7_scroll : MethodName := ⟨RX7, "scroll", "()I"⟩
abbrev cX7_tick : ByteArray := prog_9_method_36_code
def yX7_tick : MethodName := ⟨RX7, "tick", "(I)I"⟩
abbrev cX7_settles : ByteArray := prog_9_method_37_code
def yX7_settles : MethodName := ⟨RX7, "settles", "()I"⟩
abbrev cX7_settle : ByteArray := prog_9_method_38_code
def yX7_settle : MethodName := ⟨RX7, "settle", "()I"⟩
abbrev cX7_lose : ByteArray := prog_9_method_39_code
def yX7_lose : MethodName := ⟨RX7, "lose", "(II)I"⟩
abbrev cX7_isFlap : ByteArray := prog_9_method_40_code
def yX7_isFlap : MethodName := ⟨RX7, "isFlap", "(II)Z"⟩
abbrev cX7_wears : ByteArray := prog_9_method_41_code
def yX7_wears : MethodName := ⟨RX7, "wears", "(II)V"⟩
abbrev cX7_wear : ByteArray := prog_9_method_42_code
def yX7_wear : MethodName := ⟨RX7, "wear", "(II)I"⟩
abbrev cX7_mend : ByteArray := prog_9_method_43_code
def yX7_mend : MethodName := ⟨RX7, "mend", "(II)I"⟩
abbrev cX7_limit : ByteArray := prog_9_method_44_code
def yX7_limit : MethodName := ⟨RX7, "limit", "(I)I"⟩
abbrev cX7_exchange : ByteArray := prog_9_method_45_code
def yX7_exchange : MethodName := ⟨RX7, "exchange", "(III)I"⟩
abbrev cX7_undo : ByteArray := prog_9_method_46_code
def yX7_undo : MethodName := ⟨RX7, "undo", "()I"⟩
abbrev cX7_keep : ByteArray := prog_9_method_47_code
def yX7_keep : MethodName := ⟨RX7, "keep", "(I)I"⟩
abbrev cX7_back : ByteArray := prog_9_method_48_code
def yX7_back : MethodName := ⟨RX7, "back", "(I)I"⟩
abbrev cX7_cell : ByteArray := prog_9_method_49_code
def yX7_cell : MethodName := ⟨RX7, "cell", "(II)I"⟩
abbrev cX7_worn : ByteArray := prog_9_method_50_code
def yX7_worn : MethodName := ⟨RX7, "worn", "(I)J"⟩
abbrev cX7_cellsWith : ByteArray := prog_9_method_51_code
def yX7_cellsWith : MethodName := ⟨RX7, "cellsWith", "(I)I"⟩
abbrev cX7_manyWith : ByteArray := prog_9_method_52_code
def yX7_manyWith : MethodName := ⟨RX7, "manyWith", "(II)I"⟩
abbrev cX7_signsOf : ByteArray := prog_9_method_53_code
def yX7_signsOf : MethodName := ⟨RX7, "signsOf", "(IZ)I"⟩
abbrev cX7_drum : ByteArray := prog_9_method_54_code
def yX7_drum : MethodName := ⟨RX7, "drum", "(II)I"⟩
abbrev cX7_sign : ByteArray := prog_9_method_55_code
def yX7_sign : MethodName := ⟨RX7, "sign", "(II)I"⟩
abbrev cX7_signAt : ByteArray := prog_9_method_56_code
def yX7_signAt : MethodName := ⟨RX7, "signAt", "(II)I"⟩
abbrev cX7_at : ByteArray := prog_9_method_57_code
def yX7_at : MethodName := ⟨RX7, "at", "(III)I"⟩
abbrev cX7_isOther : ByteArray := prog_9_method_58_code
def yX7_isOther : MethodName := ⟨RX7, "isOther", "(I)Z"⟩
abbrev cX7_isSuch : ByteArray := prog_9_method_59_code
def yX7_isSuch : MethodName := ⟨RX7, "isSuch", "(II)Z"⟩
abbrev cX7_which : ByteArray := prog_9_method_60_code
def yX7_which : MethodName := ⟨RX7, "which", "(I)J"⟩
abbrev cX7_left : ByteArray := prog_9_method_61_code
def yX7_left : MethodName := ⟨RX7, "left", "(I)I"⟩
abbrev cX7_putsAside : ByteArray := prog_9_method_62_code
def yX7_putsAside : MethodName := ⟨RX7, "putsAside", "()V"⟩
abbrev cX7_takesBack : ByteArray := prog_9_method_63_code
def yX7_takesBack : MethodName := ⟨RX7, "takesBack", "()V"⟩
abbrev cX7_others : ByteArray := prog_9_method_64_code
def yX7_others : MethodName := ⟨RX7, "others", "()I"⟩
abbrev cX7_when : ByteArray := prog_9_method_65_code
def yX7_when : MethodName := ⟨RX7, "when", "(I)I"⟩
abbrev cX7_total : ByteArray := prog_9_method_66_code
def yX7_total : MethodName := ⟨RX7, "total", "(I)I"⟩
abbrev cX7_rests : ByteArray := prog_9_method_67_code
def yX7_rests : MethodName := ⟨RX7, "rests", "(I)I"⟩
abbrev cX7_unlike : ByteArray := prog_9_method_68_code
def yX7_unlike : MethodName := ⟨RX7, "unlike", "(II)I"⟩
abbrev cX7_digest : ByteArray := prog_9_method_69_code
def yX7_digest : MethodName := ⟨RX7, "digest", "()J"⟩
abbrev cX7_letter : ByteArray := prog_9_method_70_code
def yX7_letter : MethodName := ⟨RX7, "letter", "(II)I"⟩
abbrev cX7_count : ByteArray := prog_9_method_71_code
def yX7_count : MethodName := ⟨RX7, "count", "(I)I"⟩
abbrev cX7_asks : ByteArray := prog_9_method_72_code
def yX7_asks : MethodName := ⟨RX7, "asks", "(IIII)V"⟩
abbrev cX7_cost : ByteArray := prog_9_method_73_code
def yX7_cost : MethodName := ⟨RX7, "cost", "(I)I"⟩
abbrev cX7_endOf : ByteArray := prog_9_method_74_code
def yX7_endOf : MethodName := ⟨RX7, "endOf", "(I)I"⟩
abbrev cX7_best : ByteArray := prog_9_method_75_code
def yX7_best : MethodName := ⟨RX7, "best", "(II)I"⟩
abbrev cX7_place : ByteArray := prog_9_method_76_code
def yX7_place : MethodName := ⟨RX7, "place", "(II)I"⟩
abbrev cX7_logged : ByteArray := prog_9_method_77_code
def yX7_logged : MethodName := ⟨RX7, "logged", "(III)I"⟩
abbrev cX7_moved : ByteArray := prog_9_method_78_code
def yX7_moved : MethodName := ⟨RX7, "moved", "(III)I"⟩
abbrev cX7_journey : ByteArray := prog_9_method_79_code
def yX7_journey : MethodName := ⟨RX7, "journey", "(III)I"⟩
abbrev cX7_entries : ByteArray := prog_9_method_80_code
def yX7_entries : MethodName := ⟨RX7, "entries", "(IZ)I"⟩
abbrev cX7_log : ByteArray := prog_9_method_81_code
def yX7_log : MethodName := ⟨RX7, "log", "(II)I"⟩
abbrev cX7_often : ByteArray := prog_9_method_82_code
def yX7_often : MethodName := ⟨RX7, "often", "(IIZ)I"⟩
abbrev cX7_better : ByteArray := prog_9_method_83_code
def yX7_better : MethodName := ⟨RX7, "better", "(II)I"⟩
abbrev cX7_farthest : ByteArray := prog_9_method_84_code
def yX7_farthest : MethodName := ⟨RX7, "farthest", "(II)I"⟩
abbrev cX7_hasElsewhere : ByteArray := prog_9_method_85_code
def yX7_hasElsewhere : MethodName := ⟨RX7, "hasElsewhere", "(II)Z"⟩
abbrev cX7_lacks : ByteArray := prog_9_method_86_code
def yX7_lacks : MethodName := ⟨RX7, "lacks", "(II)I"⟩
abbrev cX7_lays : ByteArray := prog_9_method_87_code
def yX7_lays : MethodName := ⟨RX7, "lays", "(I)V"⟩
abbrev cX7_feed : ByteArray := prog_9_method_88_code
def yX7_feed : MethodName := ⟨RX7, "feed", "(IIIII)I"⟩
abbrev cX7_end : ByteArray := prog_9_method_89_code
def yX7_end : MethodName := ⟨RX7, "end", "(I)I"⟩
abbrev cX7_byteAt : ByteArray := prog_9_method_90_code
def yX7_byteAt : MethodName := ⟨RX7, "byteAt", "(I)I"⟩
abbrev cX7_nextByte : ByteArray := prog_9_method_91_code
def yX7_nextByte : MethodName := ⟨RX7, "nextByte", "()I"⟩
abbrev cX7_fails : ByteArray := prog_9_method_92_code
def yX7_fails : MethodName := ⟨RX7, "fails", "(II)Z"⟩
abbrev cX7_isWord : ByteArray := prog_9_method_93_code
def yX7_isWord : MethodName := ⟨RX7, "isWord", "(Ljava/lang/String;)Z"⟩
abbrev cX7_takesWord : ByteArray := prog_9_method_94_code
def yX7_takesWord : MethodName := ⟨RX7, "takesWord", "(Ljava/lang/String;)Z"⟩
abbrev cX7_mustWord : ByteArray := prog_9_method_95_code
def yX7_mustWord : MethodName := ⟨RX7, "mustWord", "(Ljava/lang/String;)Z"⟩
abbrev cX7_takesByte : ByteArray := prog_9_method_96_code
def yX7_takesByte : MethodName := ⟨RX7, "takesByte", "(I)Z"⟩
abbrev cX7_mustByte : ByteArray := prog_9_method_97_code
def yX7_mustByte : MethodName := ⟨RX7, "mustByte", "(I)Z"⟩
abbrev cX7_readsNumber : ByteArray := prog_9_method_98_code
def yX7_readsNumber : MethodName := ⟨RX7, "readsNumber", "(II)Z"⟩
abbrev cX7_readsQuoted : ByteArray := prog_9_method_99_code
def yX7_readsQuoted : MethodName := ⟨RX7, "readsQuoted", "(II)Z"⟩
abbrev cX7_readsDrum : ByteArray := prog_9_method_100_code
def yX7_readsDrum : MethodName := ⟨RX7, "readsDrum", "()Z"⟩
abbrev cX7_readsCells : ByteArray := prog_9_method_101_code
def yX7_readsCells : MethodName := ⟨RX7, "readsCells", "()Z"⟩
abbrev cX7_readsWorn : ByteArray := prog_9_method_102_code
def yX7_readsWorn : MethodName := ⟨RX7, "readsWorn", "()Z"⟩
abbrev cX7_readsRow : ByteArray := prog_9_method_103_code
def yX7_readsRow : MethodName := ⟨RX7, "readsRow", "()Z"⟩
abbrev cX7_readsLose : ByteArray := prog_9_method_104_code
def yX7_readsLose : MethodName := ⟨RX7, "readsLose", "()Z"⟩
abbrev cX7_readsPart : ByteArray := prog_9_method_105_code
def yX7_readsPart : MethodName := ⟨RX7, "readsPart", "()Z"⟩
abbrev cX7_readsBoard : ByteArray := prog_9_method_106_code
def yX7_readsBoard : MethodName := ⟨RX7, "readsBoard", "()Z"⟩
abbrev cX7_tell : ByteArray := prog_9_method_107_code
def yX7_tell : MethodName := ⟨RX7, "tell", "()I"⟩
abbrev cX7_isDone : ByteArray := prog_9_method_108_code
def yX7_isDone : MethodName := ⟨RX7, "isDone", "(Z)Z"⟩
abbrev cX7_goesRow : ByteArray := prog_9_method_109_code
def yX7_goesRow : MethodName := ⟨RX7, "goesRow", "(Z)Z"⟩
abbrev cX7_goesScroll : ByteArray := prog_9_method_110_code
def yX7_goesScroll : MethodName := ⟨RX7, "goesScroll", "(Z)Z"⟩
abbrev cX7_goesHome : ByteArray := prog_9_method_111_code
def yX7_goesHome : MethodName := ⟨RX7, "goesHome", "(Z)Z"⟩
abbrev cX7_goesWait : ByteArray := prog_9_method_112_code
def yX7_goesWait : MethodName := ⟨RX7, "goesWait", "(Z)Z"⟩
abbrev cX7_goesSettle : ByteArray := prog_9_method_113_code
def yX7_goesSettle : MethodName := ⟨RX7, "goesSettle", "(Z)Z"⟩
abbrev cX7_goesLose : ByteArray := prog_9_method_114_code
def yX7_goesLose : MethodName := ⟨RX7, "goesLose", "(Z)Z"⟩
abbrev cX7_goesTimes : ByteArray := prog_9_method_115_code
def yX7_goesTimes : MethodName := ⟨RX7, "goesTimes", "(Z)Z"⟩
abbrev cX7_goesOne : ByteArray := prog_9_method_116_code
def yX7_goesOne : MethodName := ⟨RX7, "goesOne", "(Z)Z"⟩
abbrev cX7_goesAll : ByteArray := prog_9_method_117_code
def yX7_goesAll : MethodName := ⟨RX7, "goesAll", "(Z)Z"⟩
abbrev cX7_goesProgram : ByteArray := prog_9_method_118_code
def yX7_goesProgram : MethodName := ⟨RX7, "goesProgram", "(Z)Z"⟩
abbrev cX7_run : ByteArray := prog_9_method_119_code
def yX7_run : MethodName := ⟨RX7, "run", "()I"⟩
abbrev cX7_loudest : ByteArray := prog_9_method_120_code
def yX7_loudest : MethodName := ⟨RX7, "loudest", "(I)I"⟩
abbrev cX7_usual : ByteArray := prog_9_method_121_code
def yX7_usual : MethodName := ⟨RX7, "usual", "(II)I"⟩
def RJx145de : String := "java/io/Serializable"
def RJx9f9b0 : String := "java/lang/CharSequence"
def RJxb160c : String := "java/lang/Comparable"
def RJ13 : String := "java/lang/Long"
abbrev cJ13_bitCount_95d88 : ByteArray := prog_10_method_50_code
def yJ13_bitCount_95d88 : MethodName := ⟨RJ13, "bitCount", "(J)I"⟩
def RJ9 : String := "java/lang/Math"
abbrev cJ9_max_7cf53 : ByteArray := prog_11_method_65_code
def yJ9_max_7cf53 : MethodName := ⟨RJ9, "max", "(II)I"⟩
abbrev cJ9_min_7cf53 : ByteArray := prog_11_method_69_code
def yJ9_min_7cf53 : MethodName := ⟨RJ9, "min", "(II)I"⟩
def RJ0 : String := "java/lang/String"
abbrev cJ0_length_8abf5 : ByteArray := prog_12_method_54_code
def yJ0_length_8abf5 : MethodName := ⟨RJ0, "length", "()I"⟩
abbrev cJ0_charAt_5068e : ByteArray := prog_12_method_56_code
def yJ0_charAt_5068e : MethodName := ⟨RJ0, "charAt", "(I)C"⟩
abbrev cJ0_coder_7d493 : ByteArray := prog_12_method_152_code
def yJ0_coder_7d493 : MethodName := ⟨RJ0, "coder", "()B"⟩
abbrev cJ0_isLatin1_aae02 : ByteArray := prog_12_method_154_code
def yJ0_isLatin1_aae02 : MethodName := ⟨RJ0, "isLatin1", "()Z"⟩
abbrev cJ0_checkIndex_df160 : ByteArray := prog_12_method_155_code
def yJ0_checkIndex_df160 : MethodName := ⟨RJ0, "checkIndex", "(II)V"⟩
def RJ1 : String := "java/lang/StringLatin1"
abbrev cJ1_charAt_3b067 : ByteArray := prog_13_method_2_code
def yJ1_charAt_3b067 : MethodName := ⟨RJ1, "charAt", "([BI)C"⟩
def RJ2 : String := "java/lang/StringUTF16"
abbrev cJ2_getChar_3b067 : ByteArray := prog_14_method_5_code
def yJ2_getChar_3b067 : MethodName := ⟨RJ2, "getChar", "([BI)C"⟩
abbrev cJ2_length_9d52b : ByteArray := prog_14_method_6_code
def yJ2_length_9d52b : MethodName := ⟨RJ2, "length", "([B)I"⟩
abbrev cJ2_charAt_3b067 : ByteArray := prog_14_method_83_code
def yJ2_charAt_3b067 : MethodName := ⟨RJ2, "charAt", "([BI)C"⟩
abbrev cJ2_checkIndex_2214a : ByteArray := prog_14_method_91_code
def yJ2_checkIndex_2214a : MethodName := ⟨RJ2, "checkIndex", "(I[B)V"⟩
def RJ10 : String := "java/lang/System"
def RJxfd54e : String := "java/lang/constant/Constable"
def RJx3cf43 : String := "java/lang/constant/ConstantDesc"
def RJ7 : String := "java/util/Arrays"
abbrev cJ7_fill_53178 : ByteArray := prog_16_method_103_code
def yJ7_fill_53178 : MethodName := ⟨RJ7, "fill", "([II)V"⟩
def RJ3 : String := "jdk/internal/util/Preconditions"
abbrev cJ3_checkIndex_8e157 : ByteArray := prog_17_method_11_code
def yJ3_checkIndex_8e157 : MethodName := ⟨RJ3, "checkIndex", "(IILjava/util/function/BiFunction;)I"⟩
def RL : String := "FlapBoardLaw"
abbrev cL_law : ByteArray := code
def yL_law : MethodName := ⟨RL, "law", "([I)Z"⟩
abbrev vwCl : List vw_C := [(RX0, TX0, 18), (RX2, TX2, 12), (RX3, TX3, 3), (RX4, TX4, 10), (RX5, TX5, 7), (RX6, TX6, 7), (RX7, TX7, 23)]
end
section
/-! My own rows: one list of words for every contract, the shape of a contract, calls. -/
def w_all : List Cond := lw_tbl.filter goodWord
theorem w_in {w : Cond} (k : Nat) (h : lw_tbl[k]? = some w) (hg : goodWord w = true) : w ∈ w_all := List.mem_filter.mpr ⟨List.mem_of_getElem? h, hg⟩
theorem w_good {w : Cond} (h : w ∈ w_all) : (w.onTables && w.keeps) = true ∨ ∃ ty, w = .arrayClass ty := good_of_word (List.mem_filter.mp h).2
theorem w_tbl {w : Cond} (h : w ∈ w_all) : w ∈ lw_tbl := (List.mem_filter.mp h).1
theorem w_gin {ws : List Cond} (h : ∀ w ∈ ws, w ∈ w_all) : GoodIn w_all ws := fun w hw => ⟨h w hw, w_good (h w hw)⟩
/-- the words of an instance method, and of a static one -/
def wd_V (y : MethodName) (bytes : ByteArray) (maxL : Nat) (ret : Option FieldType) (n : Nat) : Prop := Cond.instanceMethod y ∈ w_all ∧ Cond.selects y.cls y y ∈ w_all ∧ Cond.initialized y.cls ∈ w_all ∧ Cond.code y bytes maxL ret ∈ w_all ∧ y.cls ≠ "java/lang/invoke/MethodHandle" ∧ y.cls ≠ "java/lang/invoke/VarHandle" ∧ (parseMethodDescriptor y.desc).map (fun d => d.parameters.length) = some n
def wd_S (y : MethodName) (bytes : ByteArray) (maxL : Nat) (ret : Option FieldType) (n : Nat) : Prop := Cond.static y ∈ w_all ∧ Cond.initialized y.cls ∈ w_all ∧ Cond.code y bytes maxL ret ∈ w_all ∧ y.cls ≠ "java/lang/invoke/MethodHandle" ∧ y.cls ≠ "java/lang/invoke/VarHandle" ∧ (parseMethodDescriptor y.desc).map (fun d => d.parameters.length) = some n
def wd_I (y : MethodName) (bytes : ByteArray) (maxL : Nat) (n : Nat) : Prop := Cond.instanceMethod y ∈ w_all ∧ Cond.initialized y.cls ∈ w_all ∧ Cond.code y bytes maxL none ∈ w_all ∧ y.name = "<init>" ∧ y.cls ≠ "java/lang/invoke/MethodHandle" ∧ y.cls ≠ "java/lang/invoke/VarHandle" ∧ (parseMethodDescriptor y.desc).map (fun d => d.parameters.length) = some n
abbrev ty_l (q : Nat → ClassId) : List (ClassId × FieldType) := [(q 0, .int), (q 1, .long), (q 2, .byte), (q 3, .boolean), (q 4, .object "FlapBoard$Board")]
/-- what is known of the tables, whatever the heap -/
def kn (D : va_G) (q : Nat → ClassId) (U : State) : Prop := va_K D vwCl (ty_l q) U ∧ va_AO "FlapBoard$Board" U
theorem kn_moved {D : va_G} {q : Nat → ClassId} {u U : State} (hvm : u.vm.Alike U.vm) (h : kn D q u) : kn D q U := ⟨va_K.moved hvm h.1, va_AO.moved hvm h.2⟩
/-- a contract's start: one that only reads, one that writes -/
def rd_P (D : va_G) (q : Nat → ClassId) (av : List Value) (ws : va_W) : Array Value → State → Prop := va_Pc av (fun U => va_P D vwCl ws U.heap ∧ kn D q U)
def mt_P (D : va_G) (q : Nat → ClassId) (av : List Value) (ws : va_W) (sz : Nat) : Array Value → State → Prop := va_Pc av (fun U => U.heap.size = sz ∧ va_P D vwCl ws U.heap ∧ kn D q U ∧ va_D (fun _ => True) ws)
def mt_B {S : Type} (D : va_G) (ws : va_W) (sz : Nat) (w2 : S → va_W) : S → State → Prop := fun u t => va_P D vwCl (w2 u) t.heap ∧ va_D (va_A ws sz) (w2 u)
theorem rd_blind {D : va_G} {q : Nat → ClassId} {av : List Value} {ws : va_W} : FrameBlind (rd_P D q av ws) := fun a U g mk h => ⟨h.1, h.2.1, kn_moved (u := U) (U := U.calling g mk a) (Vm.Alike.refl U.vm) h.2.2⟩
theorem mt_blind {D : va_G} {q : Nat → ClassId} {av : List Value} {ws : va_W} {sz : Nat} : FrameBlind (mt_P D q av ws sz) := fun a U g mk h => ⟨h.1, h.2.1, h.2.2.1, kn_moved (u := U) (U := U.calling g mk a) (Vm.Alike.refl U.vm) h.2.2.2.1, h.2.2.2.2⟩
theorem rd_start {l : Launch} {y : MethodName} {cc : ByteArray} {maxL : Nat} {ret : Option FieldType} {rm : Room} {D : va_G} {q : Nat → ClassId} {av : List Value} {ws : va_W} {Qc : Array Value → State → Outcome → State → Prop} {free : Addr → Prop} {mc ms : Nat} (hy : plainName y.cls = true) (hav : (lg_sl av).length ≤ maxL)
    (body : ∀ (p : Program) (e : Env) (s : State) (m : MethodId) (below : List Frame) (meth : Method) (c : Code) (ls : Array Slot), p.tables.exec = Jvm.exec → c.code = cc → meth.sig.returnType = ret → c.maxLocals = maxL → s.vm.findClass y.cls = some m.cls → (∀ w ∈ w_all, w.before av.toArray s = true) → meth.locks = false → va_P D vwCl ws s.heap → kn D q s → lv_has ls maxL (lv_args 0 av) → W p l e rm s m av.toArray below meth c s.heap [] 0 0 (MQ below Qc av.toArray s mc ms free) (F0 m 0 ls [])) : Met l y (Cond.code y cc maxL ret :: w_all) rm (rd_P D q av ws) Qc mc ms free := by
  refine Met.ofW (cc := cc) (maxL := maxL) (ret := ret) hy rfl ?_
  intro p e s m args below meth c s₁ B hml hv
  obtain ⟨rfl, hP, hK⟩ := hv
  have hts := atoms_spec (ws := Cond.code y cc maxL ret :: w_all) B.pre
  rw [lg_entry_eq]
  exact body p e s m below meth c _ B.exec B.bytes B.returns hml (findClass_of_methodNamed B.named) (fun w hw => hts w (List.mem_cons_of_mem _ hw)) B.notSynchronized hP hK (lv_entry av hav)
theorem mt_start {l : Launch} {y : MethodName} {cc : ByteArray} {maxL : Nat} {ret : Option FieldType} {rm : Room} {D : va_G} {q : Nat → ClassId} {av : List Value} {ws : va_W} {sz : Nat} {Qc : Array Value → State → Outcome → State → Prop} {free : Addr → Prop} {mc ms : Nat} (hy : plainName y.cls = true) (hav : (lg_sl av).length ≤ maxL)
    (body : ∀ (p : Program) (e : Env) (s : State) (m : MethodId) (below : List Frame) (meth : Method) (c : Code) (ls : Array Slot), p.tables.exec = Jvm.exec → c.code = cc → meth.sig.returnType = ret → c.maxLocals = maxL → s.vm.findClass y.cls = some m.cls → (∀ w ∈ w_all, w.before av.toArray s = true) → meth.locks = false → meth.name = y.name → va_P D vwCl ws s.heap → kn D q s → va_D (va_A ws sz) ws → (∀ x : Nat, s.heap.size ≤ x → va_A ws sz x) → va_S (va_A ws sz) s.heap s.heap [] → lv_has ls maxL (lv_args 0 av) → W p l e rm s m av.toArray below meth c s.heap [] 0 0 (MQ below Qc av.toArray s mc ms free) (F0 m 0 ls [])) : Met l y (Cond.code y cc maxL ret :: w_all) rm (mt_P D q av ws sz) Qc mc ms free := by
  refine Met.ofW (cc := cc) (maxL := maxL) (ret := ret) hy rfl ?_
  intro p e s m args below meth c s₁ B hml hv
  obtain ⟨rfl, hsz, hP, hK, hD⟩ := hv
  have hts := atoms_spec (ws := Cond.code y cc maxL ret :: w_all) B.pre
  rw [lg_entry_eq]
  exact body p e s m below meth c _ B.exec B.bytes B.returns hml (findClass_of_methodNamed B.named) (fun w hw => hts w (List.mem_cons_of_mem _ hw)) B.notSynchronized (name_of_methodNamed B.named B.method).1 hP hK hD.self (fun x h => Or.inr (hsz ▸ h)) va_S.rf (lv_entry av hav)
section BB
variable {p : Program} {l : Launch} {e : Env} {R : Room} {s : State} {m : MethodId} {args : Array Value} {below : List Frame} {meth : Method} {c : Code} {H : Heap} {locs : List Loc} {cells slots : Nat} {Q : State → Prop}
variable {cc : ByteArray} {pc nL : Nat} {ls : Array Slot} {rest st : List Value} {D : va_G} {q : Nat → ClassId} {ws wc : va_W} {A : Nat → Prop} {H0 : Heap}
theorem ab_i {x v : Int32} (h : x = v) (k : W p l e R s m args below meth c H locs cells slots Q (F0 m pc ls (.int v :: rest))) : W p l e R s m args below meth c H locs cells slots Q (F0 m pc ls (.int x :: rest)) := h ▸ k
theorem ab_l {x v : Int64} (h : x = v) (k : W p l e R s m args below meth c H locs cells slots Q (F0 m pc ls (.long v :: rest))) : W p l e R s m args below meth c H locs cells slots Q (F0 m pc ls (.long x :: rest)) := h ▸ k
/-- ends -/
theorem rd_iret {post : Int32 → Prop} {v : Int32} (hx : p.tables.exec = Jvm.exec) (hb : c.code = cc) (hr : meth.sig.returnType = some .int) (hk : meth.locks = false) (hp : post v) (hdg : decode cc pc = .ok (.ireturn, 1)) : W p l e R s m args below meth c s.heap [] 0 0 (MQ below (vp_Si post) args s 0 0 (fun _ => False)) (F0 m pc ls [.int v]) := W.iret hx hb hr (fun _ ht _ => ⟨v, rfl, hp, ht⟩) (fun _ h => by cases h) hdg hk
theorem rd_zret {post : Int32 → Prop} {v : Int32} {ty : FieldType} (hx : p.tables.exec = Jvm.exec) (hb : c.code = cc) (hr : meth.sig.returnType = some ty) (hk : meth.locks = false) (hn : narrow ty (.int v) = .int v) (hp : post v) (hdg : decode cc pc = .ok (.ireturn, 1)) : W p l e R s m args below meth c s.heap [] 0 0 (MQ below (vp_Si post) args s 0 0 (fun _ => False)) (F0 m pc ls [.int v]) := W.zret hx hb hr hn (fun _ ht _ => ⟨v, rfl, hp, ht⟩) (fun _ h => by cases h) hdg hk
theorem rd_lret {post : Int64 → Prop} {v : Int64} (hx : p.tables.exec = Jvm.exec) (hb : c.code = cc) (hr : meth.sig.returnType = some .long) (hk : meth.locks = false) (hp : post v) (hdg : decode cc pc = .ok (.lreturn, 1)) : W p l e R s m args below meth c s.heap [] 0 0 (MQ below (vp_Sl post) args s 0 0 (fun _ => False)) (F0 m pc ls [.long v]) := W.lret hx hb hr (fun _ ht _ => ⟨v, rfl, hp, ht⟩) (fun _ h => by cases h) hdg hk
theorem mt_iret {S : Type} {post : Int32 → S → Prop} {w2 : S → va_W} {sz : Nat} {v : Int32} (u : S) (hx : p.tables.exec = Jvm.exec) (hb : c.code = cc) (hr : meth.sig.returnType = some .int) (hk : meth.locks = false) (hp : post v u) (hP : va_P D vwCl (w2 u) H) (hD : va_D (va_A ws sz) (w2 u)) (hS : va_S (va_A ws sz) s.heap H locs) (hdg : decode cc pc = .ok (.ireturn, 1)) : W p l e R s m args below meth c H locs cells slots (MQ below (va_Qi post (mt_B D ws sz w2) (va_A ws sz)) args s cells slots (va_A ws sz)) (F0 m pc ls [.int v]) := W.iret hx hb hr (fun _ ht _ => ⟨⟨v, u, rfl, hp, by rw [ht]; exact hP, hD⟩, hS.F ht⟩) hS.2.2 hdg hk
theorem mt_zret {S : Type} {post : Int32 → S → Prop} {w2 : S → va_W} {sz : Nat} {v : Int32} {ty : FieldType} (u : S) (hx : p.tables.exec = Jvm.exec) (hb : c.code = cc) (hr : meth.sig.returnType = some ty) (hk : meth.locks = false) (hn : narrow ty (.int v) = .int v) (hp : post v u) (hP : va_P D vwCl (w2 u) H) (hD : va_D (va_A ws sz) (w2 u)) (hS : va_S (va_A ws sz) s.heap H locs) (hdg : decode cc pc = .ok (.ireturn, 1)) : W p l e R s m args below meth c H locs cells slots (MQ below (va_Qi post (mt_B D ws sz w2) (va_A ws sz)) args s cells slots (va_A ws sz)) (F0 m pc ls [.int v]) := W.zret hx hb hr hn (fun _ ht _ => ⟨⟨v, u, rfl, hp, by rw [ht]; exact hP, hD⟩, hS.F ht⟩) hS.2.2 hdg hk
theorem mt_vret {S : Type} {post : S → Prop} {w2 : S → va_W} {sz : Nat} (u : S) (hx : p.tables.exec = Jvm.exec) (hb : c.code = cc) (hr : meth.sig.returnType = none) (hk : meth.locks = false) (hp : post u) (hP : va_P D vwCl (w2 u) H) (hD : va_D (va_A ws sz) (w2 u)) (hS : va_S (va_A ws sz) s.heap H locs) (hdg : decode cc pc = .ok (.return_, 1)) : W p l e R s m args below meth c H locs cells slots (MQ below (va_Qv post (mt_B D ws sz w2) (va_A ws sz)) args s cells slots (va_A ws sz)) (F0 m pc ls []) := W.vret hx hb hr (fun _ ht _ => ⟨⟨u, rfl, hp, by rw [ht]; exact hP, hD⟩, hS.F ht⟩) hS.2.2 hdg hk
/-- a field, by the one list of words -/
theorem fl_get {own C : String} {T : u_T} {N ci index : Nat} (hx : p.tables.exec = Jvm.exec) (hb : c.code = cc) (ht : ∀ w ∈ w_all, w.before args s = true) (hin : ∀ w ∈ u_ws C T N, w ∈ w_all) (hown : s.vm.findClass own = some m.cls) (hK : va_K D vwCl (ty_l q) s) (hP : va_P D vwCl ws H) {a : Nat} (q0 : Nat) {fs : List Value} (he : ws[q0]? = some (a, .inr (ci, fs))) (hc : vwCl[ci]? = some (C, T, N)) (k : Nat) (hk : k < N) (hl : Cond.fieldLink own index (T k).1 (T k).2.1 (T k).2.2.1 ∈ w_all) {v : Value} (hv : fs[k]? = some v) (hdg : decode cc pc = .ok (.getfield index, 3)) (kk : W p l e R s m args below meth c H locs cells slots Q (F0 m (pc + 3) ls (v :: rest))) : W p l e R s m args below meth c H locs cells slots Q (F0 m pc ls (.ref a :: rest)) :=
  va_get hx hb ht hin hown hK hP q0 he hc k hk (ht _ hl) (fun _ h => h) hv hdg kk
theorem fl_put {own C : String} {T : u_T} {N ci index : Nat} (hx : p.tables.exec = Jvm.exec) (hb : c.code = cc) (ht : ∀ w ∈ w_all, w.before args s = true) (hin : ∀ w ∈ u_ws C T N, w ∈ w_all) {ty0 : Nat → FieldType} (hty : ∀ k, k < N → parseFieldDescriptor (T k).2.2.1 = some (ty0 k)) (hnm : ∀ a, a < N → ∀ b, b < N → a ≠ b → (T a).2.1 ≠ (T b).2.1) (hown : s.vm.findClass own = some m.cls) (hK : va_K D vwCl (ty_l q) s) (hP : va_P D vwCl ws H) (hD : va_D A ws) (hS0 : va_S A H0 H locs) {a : Nat} (q0 : Nat) {fs : List Value} (he : ws[q0]? = some (a, .inr (ci, fs))) (hc : vwCl[ci]? = some (C, T, N)) (k : Nat) (hk : k < N) (hl : Cond.fieldLink own index (T k).1 (T k).2.1 (T k).2.2.1 ∈ w_all) (hfin : (T k).2.2.2 = false) {v : Value} (hn : narrow (ty0 k) v = v) (hfit : fits (ty0 k) v = true) (hlk : k < fs.length) (hdg : decode cc pc = .ok (.putfield index, 3)) {ws2 : va_W} (hw2 : ws.set q0 (a, .inr (ci, fs.set k v)) = ws2)
    (kk : ∀ (H1 : Heap) (locs1 : List Loc), va_P D vwCl ws2 H1 → va_D A ws2 → va_S A H0 H1 locs1 → W p l e R s m args below meth c H1 locs1 cells slots Q (F0 m (pc + 3) ls rest)) : W p l e R s m args below meth c H locs cells slots Q (F0 m pc ls (v :: .ref a :: rest)) := by
  subst hw2
  exact va_put hx hb ht hin ty0 hty hnm hown hK hP hD hS0 q0 he hc k hk (ht _ hl) (fun _ h => h) hfin (hty k hk) hn hfit hlk hdg kk
theorem fl_putF {own C : String} {T : u_T} {N ci index : Nat} (hx : p.tables.exec = Jvm.exec) (hb : c.code = cc) (ht : ∀ w ∈ w_all, w.before args s = true) (hin : ∀ w ∈ u_ws C T N, w ∈ w_all) {ty0 : Nat → FieldType} (hty : ∀ k, k < N → parseFieldDescriptor (T k).2.2.1 = some (ty0 k)) (hnm : ∀ a, a < N → ∀ b, b < N → a ≠ b → (T a).2.1 ≠ (T b).2.1) (hown : s.vm.findClass own = some m.cls) (hK : va_K D vwCl (ty_l q) s) (hP : va_P D vwCl ws H) (hD : va_D A ws) (hS0 : va_S A H0 H locs) {a : Nat} (q0 : Nat) {fs : List Value} (he : ws[q0]? = some (a, .inr (ci, fs))) (hc : vwCl[ci]? = some (C, T, N)) (k : Nat) (hk : k < N) (hl : Cond.fieldLink own index (T k).1 (T k).2.1 (T k).2.2.1 ∈ w_all) (hfin : (T k).2.2.2 = true) (hin2 : meth.name = "<init>") (hdecl : (T k).1 = own) {v : Value} (hn : narrow (ty0 k) v = v) (hfit : fits (ty0 k) v = true) (hlk : k < fs.length) (hdg : decode cc pc = .ok (.putfield index, 3)) {ws2 : va_W} (hw2 : ws.set q0 (a, .inr (ci, fs.set k v)) = ws2)
    (kk : ∀ (H1 : Heap) (locs1 : List Loc), va_P D vwCl ws2 H1 → va_D A ws2 → va_S A H0 H1 locs1 → W p l e R s m args below meth c H1 locs1 cells slots Q (F0 m (pc + 3) ls rest)) : W p l e R s m args below meth c H locs cells slots Q (F0 m pc ls (v :: .ref a :: rest)) := by
  subst hw2
  exact va_putF hx hb ht hin ty0 hty hnm hown hK hP hD hS0 q0 he hc k hk (ht _ hl) (fun _ h => h) hfin hin2 hdecl (hty k hk) hn hfit hlk hdg kk
/-- a call of a method that only reads, at a world of its own among ours -/
theorem rd_wV {y : MethodName} {bytes : ByteArray} {maxL n : Nat} {ret : Option FieldType} {rm : Room} {own : String} {index : Nat} {As : List Value} {b : Nat} {ci : Nat} {fs : List Value} {T : u_T} {N : Nat} {Qc : Array Value → State → Outcome → State → Prop}
    (hx : p.tables.exec = Jvm.exec) (hb : c.code = cc) (hml : c.maxLocals = nL) (hown : s.vm.findClass own = some m.cls) (ht : ∀ w ∈ w_all, w.before args s = true) (hM : Met l y (Cond.code y bytes maxL ret :: w_all) rm (rd_P D q (.ref b :: As) wc) Qc 0 0 (fun _ => False)) (wy : wd_V y bytes maxL ret n) (hl : Cond.methodLink own index y ∈ w_all) (hQ : kn D q s) (hP : va_P D vwCl wc H) (he : wc[0]? = some (b, .inr (ci, fs))) (hc : vwCl[ci]? = some (y.cls, T, N)) (hn : As.length = n) (hz : ls.size = nL) (hst : st = As.reverse ++ .ref b :: rest) (hW : (rest.map fun v => v.category).sum ≤ 8) (hdg : decode cc pc = .ok (.invokevirtual index, 3)) (hR : rm.frames + 1 ≤ R.frames ∧ 8 + (maxL + 11) + rm.locals ≤ R.locals ∧ rm.cells = 0 ∧ rm.slots = 0) (hcs : cells ≤ R.cells ∧ slots ≤ R.slots) :
    CallRun p l e R s m args below meth c H locs cells slots 0 0 (F0 m pc ls st) rest (Qc (Value.ref b :: As).toArray) (fun _ => False) := by
  obtain ⟨w1, w2, w3, w4, w5, w6, w7⟩ := wy
  have hG : GoodIn w_all (Cond.code y bytes maxL ret :: w_all) := w_gin (fun w h => (List.mem_cons.mp h).elim (fun e => e ▸ w4) id)
  exact W.runV ⟨hx, hb, hml, hown, ht⟩ hM ⟨callB_of n ht hG rfl hR.2.2.1 hR.2.2.2 (ht _ w3) (ht _ hl) ⟨w5, w6, w7⟩ ⟨hR.1, hR.2.1⟩, ht _ w1, ht _ w2⟩ ⟨rd_blind, va_recv hQ.1 hP hc he, fun U hU hW => ⟨rfl, by rw [hU]; exact hP, kn_moved hW.alike hQ⟩⟩ rfl hn hz hst (lv_room hW) hdg ⟨hcs.1, hcs.2⟩
theorem rd_wS {y : MethodName} {bytes : ByteArray} {maxL n : Nat} {ret : Option FieldType} {rm : Room} {own : String} {index : Nat} {As : List Value} {Qc : Array Value → State → Outcome → State → Prop}
    (hx : p.tables.exec = Jvm.exec) (hb : c.code = cc) (hml : c.maxLocals = nL) (hown : s.vm.findClass own = some m.cls) (ht : ∀ w ∈ w_all, w.before args s = true) (hM : Met l y (Cond.code y bytes maxL ret :: w_all) rm (rd_P D q As wc) Qc 0 0 (fun _ => False)) (wy : wd_S y bytes maxL ret n) (hl : Cond.methodLink own index y ∈ w_all) (hQ : kn D q s) (hP : va_P D vwCl wc H) (hn : As.length = n) (hz : ls.size = nL) (hst : st = As.reverse ++ rest) (hW : (rest.map fun v => v.category).sum ≤ 8) (hdg : decode cc pc = .ok (.invokestatic index, 3)) (hR : rm.frames + 1 ≤ R.frames ∧ 8 + (maxL + 11) + rm.locals ≤ R.locals ∧ rm.cells = 0 ∧ rm.slots = 0) (hcs : cells ≤ R.cells ∧ slots ≤ R.slots) :
    CallRun p l e R s m args below meth c H locs cells slots 0 0 (F0 m pc ls st) rest (Qc As.toArray) (fun _ => False) := by
  obtain ⟨w1, w3, w4, w5, w6, w7⟩ := wy
  have hG : GoodIn w_all (Cond.code y bytes maxL ret :: w_all) := w_gin (fun w h => (List.mem_cons.mp h).elim (fun e => e ▸ w4) id)
  exact W.runS ⟨hx, hb, hml, hown, ht⟩ hM ⟨callB_of n ht hG rfl hR.2.2.1 hR.2.2.2 (ht _ w3) (ht _ hl) ⟨w5, w6, w7⟩ ⟨hR.1, hR.2.1⟩, ht _ w1⟩ ⟨rd_blind, fun U hU hW => ⟨rfl, by rw [hU]; exact hP, kn_moved hW.alike hQ⟩⟩ rfl hn hz hst (lv_room hW) hdg ⟨hcs.1, hcs.2⟩
/-- a call of a method that writes -/
theorem mt_wV {y : MethodName} {bytes : ByteArray} {maxL n mc ms : Nat} {ret : Option FieldType} {rm : Room} {own : String} {index : Nat} {As : List Value} {b : Nat} {ci : Nat} {fs : List Value} {T : u_T} {N : Nat} {Qc : Array Value → State → Outcome → State → Prop} {free : Addr → Prop}
    (hx : p.tables.exec = Jvm.exec) (hb : c.code = cc) (hml : c.maxLocals = nL) (hown : s.vm.findClass own = some m.cls) (ht : ∀ w ∈ w_all, w.before args s = true) (hM : Met l y (Cond.code y bytes maxL ret :: w_all) rm (mt_P D q (.ref b :: As) wc H.size) Qc mc ms free) (wy : wd_V y bytes maxL ret n) (hl : Cond.methodLink own index y ∈ w_all) (hQ : kn D q s) (hP : va_P D vwCl wc H) (hD : va_D A wc) (he : wc[0]? = some (b, .inr (ci, fs))) (hc : vwCl[ci]? = some (y.cls, T, N)) (hn : As.length = n) (hz : ls.size = nL) (hst : st = As.reverse ++ .ref b :: rest) (hW : (rest.map fun v => v.category).sum ≤ 8) (hdg : decode cc pc = .ok (.invokevirtual index, 3)) (hR : rm.frames + 1 ≤ R.frames ∧ 8 + (maxL + 11) + rm.locals ≤ R.locals ∧ rm.cells = mc ∧ rm.slots = ms) (hcs : cells + mc ≤ R.cells ∧ slots + ms ≤ R.slots) :
    va_Run p l e R s m args below meth c H locs cells slots mc ms (F0 m pc ls st) rest (Qc (Value.ref b :: As).toArray) free := by
  obtain ⟨w1, w2, w3, w4, w5, w6, w7⟩ := wy
  have hG : GoodIn w_all (Cond.code y bytes maxL ret :: w_all) := w_gin (fun w h => (List.mem_cons.mp h).elim (fun e => e ▸ w4) id)
  exact va_runV ⟨hx, hb, hml, hown, ht⟩ hM ⟨callB_of n ht hG rfl hR.2.2.1 hR.2.2.2 (ht _ w3) (ht _ hl) ⟨w5, w6, w7⟩ ⟨hR.1, hR.2.1⟩, ht _ w1, ht _ w2⟩ ⟨mt_blind, va_recv hQ.1 hP hc he, fun U hU hW => ⟨rfl, by rw [hU], by rw [hU]; exact hP, kn_moved hW.alike hQ, hD.weaken (fun _ _ _ _ => trivial)⟩⟩ rfl hn hz hst (lv_room hW) hdg hcs
theorem mt_wS {y : MethodName} {bytes : ByteArray} {maxL n mc ms : Nat} {ret : Option FieldType} {rm : Room} {own : String} {index : Nat} {As : List Value} {Qc : Array Value → State → Outcome → State → Prop} {free : Addr → Prop}
    (hx : p.tables.exec = Jvm.exec) (hb : c.code = cc) (hml : c.maxLocals = nL) (hown : s.vm.findClass own = some m.cls) (ht : ∀ w ∈ w_all, w.before args s = true) (hM : Met l y (Cond.code y bytes maxL ret :: w_all) rm (mt_P D q As wc H.size) Qc mc ms free) (wy : wd_S y bytes maxL ret n) (hl : Cond.methodLink own index y ∈ w_all) (hQ : kn D q s) (hP : va_P D vwCl wc H) (hD : va_D A wc) (hn : As.length = n) (hz : ls.size = nL) (hst : st = As.reverse ++ rest) (hW : (rest.map fun v => v.category).sum ≤ 8) (hdg : decode cc pc = .ok (.invokestatic index, 3)) (hR : rm.frames + 1 ≤ R.frames ∧ 8 + (maxL + 11) + rm.locals ≤ R.locals ∧ rm.cells = mc ∧ rm.slots = ms) (hcs : cells + mc ≤ R.cells ∧ slots + ms ≤ R.slots) :
    va_Run p l e R s m args below meth c H locs cells slots mc ms (F0 m pc ls st) rest (Qc As.toArray) free := by
  obtain ⟨w1, w3, w4, w5, w6, w7⟩ := wy
  have hG : GoodIn w_all (Cond.code y bytes maxL ret :: w_all) := w_gin (fun w h => (List.mem_cons.mp h).elim (fun e => e ▸ w4) id)
  exact va_runS ⟨hx, hb, hml, hown, ht⟩ hM ⟨callB_of n ht hG rfl hR.2.2.1 hR.2.2.2 (ht _ w3) (ht _ hl) ⟨w5, w6, w7⟩ ⟨hR.1, hR.2.1⟩, ht _ w1⟩ ⟨mt_blind, fun U hU hW => ⟨rfl, by rw [hU], by rw [hU]; exact hP, kn_moved hW.alike hQ, hD.weaken (fun _ _ _ _ => trivial)⟩⟩ rfl hn hz hst (lv_room hW) hdg hcs
theorem mt_wI {y : MethodName} {bytes : ByteArray} {maxL n mc ms : Nat} {rm : Room} {own : String} {index : Nat} {As : List Value} {b : Nat} {Qc : Array Value → State → Outcome → State → Prop} {free : Addr → Prop}
    (hx : p.tables.exec = Jvm.exec) (hb : c.code = cc) (hml : c.maxLocals = nL) (hown : s.vm.findClass own = some m.cls) (ht : ∀ w ∈ w_all, w.before args s = true) (hM : Met l y (Cond.code y bytes maxL none :: w_all) rm (mt_P D q (.ref b :: As) wc H.size) Qc mc ms free) (wy : wd_I y bytes maxL n) (hl : Cond.methodLink own index y ∈ w_all) (hQ : kn D q s) (hP : va_P D vwCl wc H) (hD : va_D A wc) (hn : As.length = n) (hz : ls.size = nL) (hst : st = As.reverse ++ .ref b :: rest) (hW : (rest.map fun v => v.category).sum ≤ 8) (hdg : decode cc pc = .ok (.invokespecial index, 3)) (hR : rm.frames + 1 ≤ R.frames ∧ 8 + (maxL + 11) + rm.locals ≤ R.locals ∧ rm.cells = mc ∧ rm.slots = ms) (hcs : cells + mc ≤ R.cells ∧ slots + ms ≤ R.slots) :
    va_Run p l e R s m args below meth c H locs cells slots mc ms (F0 m pc ls st) rest (Qc (Value.ref b :: As).toArray) free := by
  obtain ⟨w1, w3, w4, w4b, w5, w6, w7⟩ := wy
  have hG : GoodIn w_all (Cond.code y bytes maxL none :: w_all) := w_gin (fun w h => (List.mem_cons.mp h).elim (fun e => e ▸ w4) id)
  exact va_runI ⟨hx, hb, hml, hown, ht⟩ hM ⟨callB_of n ht hG rfl hR.2.2.1 hR.2.2.2 (ht _ w3) (ht _ hl) ⟨w5, w6, w7⟩ ⟨hR.1, hR.2.1⟩, w4b, ht _ w1⟩ ⟨mt_blind, fun U hU hW => ⟨rfl, by rw [hU], by rw [hU]; exact hP, kn_moved hW.alike hQ, hD.weaken (fun _ _ _ _ => trivial)⟩⟩ rfl hn hz hst (lv_room hW) hdg hcs
/-- behind such a call: the rest of our world beside what the method left -/
theorem mt_goi {S : Type} {post : Int32 → S → Prop} {w2 : S → va_W} {wr : va_W} {mc ms : Nat} {av : Array Value} (hr : va_Run p l e R s m args below meth c H locs cells slots mc ms (F0 m pc ls st) rest (va_Qi post (mt_B D wc H.size w2) (va_A wc H.size) av) (va_A wc H.size)) (hP : va_P D vwCl ws H) (hD : va_D A ws) (hS : va_S A H0 H locs) (hA : ∀ x : Nat, H0.size ≤ x → A x) (isC isR : List Nat) (hC : isC.map (fun i => ws[i]?) = wc.map some) (hR : isR.map (fun i => ws[i]?) = wr.map some) (hn : va_nd isR = true) (hdis : ∀ i ∈ isR, i ∉ isC)
    (kk : ∀ (r : Int32) (u : S) (H1 : Heap) (locs1 : List Loc), post r u → va_P D vwCl (wr ++ w2 u) H1 → va_D A (wr ++ w2 u) → va_S A H0 H1 locs1 → W p l e R s m args below meth c H1 locs1 (cells + mc) (slots + ms) Q (F0 m (pc + 3) ls (.int r :: rest))) : W p l e R s m args below meth c H locs cells slots Q (F0 m pc ls st) := by
  have hF := va_free (wc := wc) hD hS hA isC hC
  refine va_calli hr hS (fun x _ h => hF x h) hF (fun r u t H1 locs1 ht hvm hw hB hz1 hk1 hS1 => ?_)
  obtain ⟨hP1, hD1⟩ := hB
  rw [ht] at hP1
  obtain ⟨hP2, hD2⟩ := va_join hP hD isC isR hC hR hn hdis hk1 hF hP1 hD1
  exact kk r u H1 locs1 hw hP2 hD2 hS1
theorem mt_gov {S : Type} {post : S → Prop} {w2 : S → va_W} {wr : va_W} {mc ms : Nat} {av : Array Value} (hr : va_Run p l e R s m args below meth c H locs cells slots mc ms (F0 m pc ls st) rest (va_Qv post (mt_B D wc H.size w2) (va_A wc H.size) av) (va_A wc H.size)) (hP : va_P D vwCl ws H) (hD : va_D A ws) (hS : va_S A H0 H locs) (hA : ∀ x : Nat, H0.size ≤ x → A x) (isC isR : List Nat) (hC : isC.map (fun i => ws[i]?) = wc.map some) (hR : isR.map (fun i => ws[i]?) = wr.map some) (hn : va_nd isR = true) (hdis : ∀ i ∈ isR, i ∉ isC)
    (kk : ∀ (u : S) (H1 : Heap) (locs1 : List Loc), post u → va_P D vwCl (wr ++ w2 u) H1 → va_D A (wr ++ w2 u) → va_S A H0 H1 locs1 → W p l e R s m args below meth c H1 locs1 (cells + mc) (slots + ms) Q (F0 m (pc + 3) ls rest)) : W p l e R s m args below meth c H locs cells slots Q (F0 m pc ls st) := by
  have hF := va_free (wc := wc) hD hS hA isC hC
  refine va_callv hr hS (fun x _ h => hF x h) hF (fun u t H1 locs1 ht hvm hw hB hz1 hk1 hS1 => ?_)
  obtain ⟨hP1, hD1⟩ := hB
  rw [ht] at hP1
  obtain ⟨hP2, hD2⟩ := va_join hP hD isC isR hC hR hn hdis hk1 hF hP1 hD1
  exact kk u H1 locs1 hw hP2 hD2 hS1
/-- new rows of whole numbers: their class is the known one -/
theorem nw_i {n : Int32} {N : Nat} (hx : p.tables.exec = Jvm.exec) (hb : c.code = cc) (ht : ∀ w ∈ w_all, w.before args s = true) (hw : Cond.arrayClass .int ∈ w_all) (hK : va_K D vwCl (ty_l q) s) (hP : va_P D vwCl ws H) (hD : va_D A ws) (hS : va_S A H0 H locs) (hA : ∀ x, H0.size ≤ x → A x) (hn : ¬ n < 0) (hN : n.toNatClampNeg = N) (hbytes : N * componentBytes .int ≤ 536870912) (hcs : cells + 1 ≤ R.cells ∧ slots + N ≤ R.slots) (hdg : decode cc pc = .ok (.newarray .int, 2))
    (kk : ∀ (a : Nat) (H1 : Heap), va_P D vwCl (ws ++ [(a, .inl (q 0, N, .inl (fun _ => 0)))]) H1 → va_D A (ws ++ [(a, .inl (q 0, N, .inl (fun _ => 0)))]) → va_S A H0 H1 locs → W p l e R s m args below meth c H1 locs (cells + 1) (slots + N) Q (F0 m (pc + 2) ls (.ref a :: rest))) : W p l e R s m args below meth c H locs cells slots Q (F0 m pc ls (.int n :: rest)) := by
  refine va_newa (atype := .int) (ty := .int) (a0 := (N, .inl (fun _ => 0))) hx hb (ht _ hw) rfl hK hP hD hS hA (fun _ => rfl) hn hN hbytes hcs.1 hcs.2 hdg (fun a cA H1 hK1 hP1 hD1 hS1 => ?_)
  have h1 : s.vm.findClass ("[" ++ FieldType.int.toString) = some cA := (hK1.2 5 (cA, .int) rfl).2
  have h2 : s.vm.findClass ("[" ++ FieldType.int.toString) = some (q 0) := (hK.2 0 (q 0, .int) rfl).2
  have h3 : cA = q 0 := Option.some.inj (h1.symm.trans h2)
  subst h3
  exact kk a H1 hP1 hD1 hS1
theorem nw_l {n : Int32} {N : Nat} (hx : p.tables.exec = Jvm.exec) (hb : c.code = cc) (ht : ∀ w ∈ w_all, w.before args s = true) (hw : Cond.arrayClass .long ∈ w_all) (hK : va_K D vwCl (ty_l q) s) (hP : va_P D vwCl ws H) (hD : va_D A ws) (hS : va_S A H0 H locs) (hA : ∀ x, H0.size ≤ x → A x) (hn : ¬ n < 0) (hN : n.toNatClampNeg = N) (hbytes : N * componentBytes .long ≤ 536870912) (hcs : cells + 1 ≤ R.cells ∧ slots + N ≤ R.slots) (hdg : decode cc pc = .ok (.newarray .long, 2))
    (kk : ∀ (a : Nat) (H1 : Heap), va_P D vwCl (ws ++ [(a, .inl (q 1, N, .inr (.inl (fun _ => 0))))]) H1 → va_D A (ws ++ [(a, .inl (q 1, N, .inr (.inl (fun _ => 0))))]) → va_S A H0 H1 locs → W p l e R s m args below meth c H1 locs (cells + 1) (slots + N) Q (F0 m (pc + 2) ls (.ref a :: rest))) : W p l e R s m args below meth c H locs cells slots Q (F0 m pc ls (.int n :: rest)) := by
  refine va_newa (atype := .long) (ty := .long) (a0 := (N, .inr (.inl (fun _ => 0)))) hx hb (ht _ hw) rfl hK hP hD hS hA (fun _ => rfl) hn hN hbytes hcs.1 hcs.2 hdg (fun a cA H1 hK1 hP1 hD1 hS1 => ?_)
  have h1 : s.vm.findClass ("[" ++ FieldType.long.toString) = some cA := (hK1.2 5 (cA, .long) rfl).2
  have h2 : s.vm.findClass ("[" ++ FieldType.long.toString) = some (q 1) := (hK.2 1 (q 1, .long) rfl).2
  have h3 : cA = q 1 := Option.some.inj (h1.symm.trans h2)
  subst h3
  exact kk a H1 hP1 hD1 hS1
theorem nw_b {n : Int32} {N : Nat} (hx : p.tables.exec = Jvm.exec) (hb : c.code = cc) (ht : ∀ w ∈ w_all, w.before args s = true) (hw : Cond.arrayClass .byte ∈ w_all) (hK : va_K D vwCl (ty_l q) s) (hP : va_P D vwCl ws H) (hD : va_D A ws) (hS : va_S A H0 H locs) (hA : ∀ x, H0.size ≤ x → A x) (hn : ¬ n < 0) (hN : n.toNatClampNeg = N) (hbytes : N * componentBytes .byte ≤ 536870912) (hcs : cells + 1 ≤ R.cells ∧ slots + N ≤ R.slots) (hdg : decode cc pc = .ok (.newarray .byte, 2))
    (kk : ∀ (a : Nat) (H1 : Heap), va_P D vwCl (ws ++ [(a, .inl (q 2, N, .inl (fun _ => 0)))]) H1 → va_D A (ws ++ [(a, .inl (q 2, N, .inl (fun _ => 0)))]) → va_S A H0 H1 locs → W p l e R s m args below meth c H1 locs (cells + 1) (slots + N) Q (F0 m (pc + 2) ls (.ref a :: rest))) : W p l e R s m args below meth c H locs cells slots Q (F0 m pc ls (.int n :: rest)) := by
  refine va_newa (atype := .byte) (ty := .byte) (a0 := (N, .inl (fun _ => 0))) hx hb (ht _ hw) rfl hK hP hD hS hA (fun _ => rfl) hn hN hbytes hcs.1 hcs.2 hdg (fun a cA H1 hK1 hP1 hD1 hS1 => ?_)
  have h1 : s.vm.findClass ("[" ++ FieldType.byte.toString) = some cA := (hK1.2 5 (cA, .byte) rfl).2
  have h2 : s.vm.findClass ("[" ++ FieldType.byte.toString) = some (q 2) := (hK.2 2 (q 2, .byte) rfl).2
  have h3 : cA = q 2 := Option.some.inj (h1.symm.trans h2)
  subst h3
  exact kk a H1 hP1 hD1 hS1
theorem nw_z {n : Int32} {N : Nat} (hx : p.tables.exec = Jvm.exec) (hb : c.code = cc) (ht : ∀ w ∈ w_all, w.before args s = true) (hw : Cond.arrayClass .boolean ∈ w_all) (hK : va_K D vwCl (ty_l q) s) (hP : va_P D vwCl ws H) (hD : va_D A ws) (hS : va_S A H0 H locs) (hA : ∀ x, H0.size ≤ x → A x) (hn : ¬ n < 0) (hN : n.toNatClampNeg = N) (hbytes : N * componentBytes .boolean ≤ 536870912) (hcs : cells + 1 ≤ R.cells ∧ slots + N ≤ R.slots) (hdg : decode cc pc = .ok (.newarray .boolean, 2))
    (kk : ∀ (a : Nat) (H1 : Heap), va_P D vwCl (ws ++ [(a, .inl (q 3, N, .inl (fun _ => 0)))]) H1 → va_D A (ws ++ [(a, .inl (q 3, N, .inl (fun _ => 0)))]) → va_S A H0 H1 locs → W p l e R s m args below meth c H1 locs (cells + 1) (slots + N) Q (F0 m (pc + 2) ls (.ref a :: rest))) : W p l e R s m args below meth c H locs cells slots Q (F0 m pc ls (.int n :: rest)) := by
  refine va_newa (atype := .boolean) (ty := .boolean) (a0 := (N, .inl (fun _ => 0))) hx hb (ht _ hw) rfl hK hP hD hS hA (fun _ => rfl) hn hN hbytes hcs.1 hcs.2 hdg (fun a cA H1 hK1 hP1 hD1 hS1 => ?_)
  have h1 : s.vm.findClass ("[" ++ FieldType.boolean.toString) = some cA := (hK1.2 5 (cA, .boolean) rfl).2
  have h2 : s.vm.findClass ("[" ++ FieldType.boolean.toString) = some (q 3) := (hK.2 3 (q 3, .boolean) rfl).2
  have h3 : cA = q 3 := Option.some.inj (h1.symm.trans h2)
  subst h3
  exact kk a H1 hP1 hD1 hS1
theorem ab_null (k : W p l e R s m args below meth c H locs cells slots Q (F0 m pc ls (.null :: rest))) : W p l e R s m args below meth c H locs cells slots Q (F0 m pc ls (va_rf none :: rest)) := k
theorem mt_lret {S : Type} {post : Int64 → S → Prop} {w2 : S → va_W} {sz : Nat} {v : Int64} (u : S) (hx : p.tables.exec = Jvm.exec) (hb : c.code = cc) (hr : meth.sig.returnType = some .long) (hk : meth.locks = false) (hp : post v u) (hP : va_P D vwCl (w2 u) H) (hD : va_D (va_A ws sz) (w2 u)) (hS : va_S (va_A ws sz) s.heap H locs) (hdg : decode cc pc = .ok (.lreturn, 1)) : W p l e R s m args below meth c H locs cells slots (MQ below (va_Ql post (mt_B D ws sz w2) (va_A ws sz)) args s cells slots (va_A ws sz)) (F0 m pc ls [.long v]) := W.lret hx hb hr (fun _ ht _ => ⟨⟨v, u, rfl, hp, by rw [ht]; exact hP, hD⟩, hS.F ht⟩) hS.2.2 hdg hk
theorem mt_gol {S : Type} {post : Int64 → S → Prop} {w2 : S → va_W} {wr : va_W} {mc ms : Nat} {av : Array Value} (hr : va_Run p l e R s m args below meth c H locs cells slots mc ms (F0 m pc ls st) rest (va_Ql post (mt_B D wc H.size w2) (va_A wc H.size) av) (va_A wc H.size)) (hP : va_P D vwCl ws H) (hD : va_D A ws) (hS : va_S A H0 H locs) (hA : ∀ x : Nat, H0.size ≤ x → A x) (isC isR : List Nat) (hC : isC.map (fun i => ws[i]?) = wc.map some) (hR : isR.map (fun i => ws[i]?) = wr.map some) (hn : va_nd isR = true) (hdis : ∀ i ∈ isR, i ∉ isC)
    (kk : ∀ (r : Int64) (u : S) (H1 : Heap) (locs1 : List Loc), post r u → va_P D vwCl (wr ++ w2 u) H1 → va_D A (wr ++ w2 u) → va_S A H0 H1 locs1 → W p l e R s m args below meth c H1 locs1 (cells + mc) (slots + ms) Q (F0 m (pc + 3) ls (.long r :: rest))) : W p l e R s m args below meth c H locs cells slots Q (F0 m pc ls st) := by
  have hF := va_free (wc := wc) hD hS hA isC hC
  refine va_calll hr hS (fun x _ h => hF x h) hF (fun r u t H1 locs1 ht hvm hw hB hz1 hk1 hS1 => ?_)
  obtain ⟨hP1, hD1⟩ := hB
  rw [ht] at hP1
  obtain ⟨hP2, hD2⟩ := va_join hP hD isC isR hC hR hn hdis hk1 hF hP1 hD1
  exact kk r u H1 locs1 hw hP2 hD2 hS1
end BB
theorem upd_0 (i : Nat) : upd (fun _ => (0 : Int32)) i 0 = fun _ => 0 := by
  funext j
  simp [upd]
theorem vp_updL_0 (i : Nat) : vp_updL (fun _ => (0 : Int64)) i 0 = fun _ => 0 := by
  funext j
  simp [vp_updL]
theorem in_X0 : ∀ w ∈ u_ws RX0 TX0 18, w ∈ w_all := by decide +kernel
theorem in_X2 : ∀ w ∈ u_ws RX2 TX2 12, w ∈ w_all := by decide +kernel
theorem in_X3 : ∀ w ∈ u_ws RX3 TX3 3, w ∈ w_all := by decide +kernel
theorem in_X4 : ∀ w ∈ u_ws RX4 TX4 10, w ∈ w_all := by decide +kernel
theorem in_X5 : ∀ w ∈ u_ws RX5 TX5 7, w ∈ w_all := by decide +kernel
theorem in_X6 : ∀ w ∈ u_ws RX6 TX6 7, w ∈ w_all := by decide +kernel
theorem in_X7 : ∀ w ∈ u_ws RX7 TX7 23, w ∈ w_all := by decide +kernel
theorem nf_X0 : ∀ j, j < 18 → defaultValue (tyX0 j) = vp_V [.int 0, .int 0, .int 0, .int 0, .int 0, .int 0, .null, .null, .null, .null, .null, .null, .null, .null, .null, .null, .null, .null] j := by
  intro j hj
  rcases (show j = 0 ∨ j = 1 ∨ j = 2 ∨ j = 3 ∨ j = 4 ∨ j = 5 ∨ j = 6 ∨ j = 7 ∨ j = 8 ∨ j = 9 ∨ j = 10 ∨ j = 11 ∨ j = 12 ∨ j = 13 ∨ j = 14 ∨ j = 15 ∨ j = 16 ∨ j = 17 by omega) with rfl | rfl | rfl | rfl | rfl | rfl | rfl | rfl | rfl | rfl | rfl | rfl | rfl | rfl | rfl | rfl | rfl | rfl <;> rfl
theorem nf_X2 : ∀ j, j < 12 → defaultValue (tyX2 j) = vp_V [.null, .null, .null, .int 0, .int 0, .int 0, .int 0, .int 0, .int 0, .int 0, .int 0, .int 0] j := by
  intro j hj
  rcases (show j = 0 ∨ j = 1 ∨ j = 2 ∨ j = 3 ∨ j = 4 ∨ j = 5 ∨ j = 6 ∨ j = 7 ∨ j = 8 ∨ j = 9 ∨ j = 10 ∨ j = 11 by omega) with rfl | rfl | rfl | rfl | rfl | rfl | rfl | rfl | rfl | rfl | rfl | rfl <;> rfl
theorem nf_X3 : ∀ j, j < 3 → defaultValue (tyX3 j) = vp_V [.null, .int 0, .int 0] j := by
  intro j hj
  rcases (show j = 0 ∨ j = 1 ∨ j = 2 by omega) with rfl | rfl | rfl <;> rfl
theorem nf_X4 : ∀ j, j < 10 → defaultValue (tyX4 j) = vp_V [.null, .null, .null, .null, .null, .null, .null, .int 0, .int 0, .int 0] j := by
  intro j hj
  rcases (show j = 0 ∨ j = 1 ∨ j = 2 ∨ j = 3 ∨ j = 4 ∨ j = 5 ∨ j = 6 ∨ j = 7 ∨ j = 8 ∨ j = 9 by omega) with rfl | rfl | rfl | rfl | rfl | rfl | rfl | rfl | rfl | rfl <;> rfl
theorem nf_X5 : ∀ j, j < 7 → defaultValue (tyX5 j) = vp_V [.null, .int 0, .int 0, .int 0, .int 0, .int 0, .int 0] j := by
  intro j hj
  rcases (show j = 0 ∨ j = 1 ∨ j = 2 ∨ j = 3 ∨ j = 4 ∨ j = 5 ∨ j = 6 by omega) with rfl | rfl | rfl | rfl | rfl | rfl | rfl <;> rfl
theorem nf_X6 : ∀ j, j < 7 → defaultValue (tyX6 j) = vp_V [.null, .null, .null, .null, .null, .null, .null] j := by
  intro j hj
  rcases (show j = 0 ∨ j = 1 ∨ j = 2 ∨ j = 3 ∨ j = 4 ∨ j = 5 ∨ j = 6 by omega) with rfl | rfl | rfl | rfl | rfl | rfl | rfl <;> rfl
theorem nf_X7 : ∀ j, j < 23 → defaultValue (tyX7 j) = vp_V [.null, .null, .int 0, .null, .null, .null, .long 0, .int 0, .int 0, .null, .int 0, .int 0, .null, .int 0, .int 0, .int 0, .int 0, .int 0, .int 0, .int 0, .int 0, .int 0, .int 0] j := by
  intro j hj
  rcases (show j = 0 ∨ j = 1 ∨ j = 2 ∨ j = 3 ∨ j = 4 ∨ j = 5 ∨ j = 6 ∨ j = 7 ∨ j = 8 ∨ j = 9 ∨ j = 10 ∨ j = 11 ∨ j = 12 ∨ j = 13 ∨ j = 14 ∨ j = 15 ∨ j = 16 ∨ j = 17 ∨ j = 18 ∨ j = 19 ∨ j = 20 ∨ j = 21 ∨ j = 22 by omega) with rfl | rfl | rfl | rfl | rfl | rfl | rfl | rfl | rfl | rfl | rfl | rfl | rfl | rfl | rfl | rfl | rfl | rfl | rfl | rfl | rfl | rfl | rfl <;> rfl
theorem in_c {i : Int32} {n : Nat} (h : decide (¬ (i < 0 ∨ n ≤ i.toNatClampNeg)) = true) : vp_in i n := show ¬ (i < 0 ∨ n ≤ i.toNatClampNeg) from of_decide_eq_true h
theorem nI_inc (i : Nat) : nI i + Int32.ofInt 1 = nI (i + 1) := (nI_succ i).symm
theorem in_r {i : Int32} {n : Nat} (h1 : 0 ≤ i.toInt) (h2 : i.toInt < (n : Int)) : vp_in i n := by
  intro h
  have h3 : i.toNatClampNeg = i.toInt.toNat := rfl
  rcases h with h | h
  · have := Int32.lt_iff_toInt_lt.mp h
    simp at this
    omega
  · omega
theorem va_cpy_0 {α : Type} {z : α} (a b n : Nat) : va_cpy (fun _ => z) (fun _ => z) a b n = fun _ => z := by
  funext j
  simp [va_cpy]
section BQ
variable {p : Program} {l : Launch} {e : Env} {R : Room} {s : State} {m : MethodId} {args : Array Value} {below : List Frame} {meth : Method} {c : Code} {H : Heap} {locs : List Loc} {cells slots : Nat} {Q : State → Prop}
variable {cc : ByteArray} {pc : Nat} {ls : Array Slot} {rest : List Value} {D : va_G} {q : Nat → ClassId} {ws : va_W} {A : Nat → Prop} {H0 : Heap}
theorem nw_q {n : Int32} {N : Nat} {own : String} {index : Nat} (hx : p.tables.exec = Jvm.exec) (hb : c.code = cc) (hown : s.vm.findClass own = some m.cls) (hcl : (Cond.classLink own index "FlapBoard$Board").before args s = true) (hQ : kn D q s) (hP : va_P D vwCl ws H) (hD : va_D A ws) (hS : va_S A H0 H locs) (hA : ∀ x, H0.size ≤ x → A x) (hn : ¬ n < 0) (hN : n.toNatClampNeg = N) (hbytes : N * 4 ≤ 536870912) (hcs : cells + 1 ≤ R.cells ∧ slots + N ≤ R.slots) (hdg : decode cc pc = .ok (.anewarray index, 3))
    (kk : ∀ (a : Nat) (H1 : Heap), va_P D vwCl (ws ++ [(a, .inl (q 4, N, .inr (.inr (.inr (.inr (fun _ => none))))))]) H1 → va_D A (ws ++ [(a, .inl (q 4, N, .inr (.inr (.inr (.inr (fun _ => none))))))]) → va_S A H0 H1 locs → W p l e R s m args below meth c H1 locs (cells + 1) (slots + N) Q (F0 m (pc + 3) ls (.ref a :: rest))) : W p l e R s m args below meth c H locs cells slots Q (F0 m pc ls (.int n :: rest)) := by
  refine va_newq hx hb hown hcl hQ.2 hQ.1 hP hD hS hA hn hN hbytes hcs.1 hcs.2 hdg (fun a cA H1 hK1 hP1 hD1 hS1 => ?_)
  obtain ⟨_, _, _, _, _, h1⟩ := (hK1.2 5 (cA, .object "FlapBoard$Board") rfl).2
  obtain ⟨_, _, _, _, _, h2⟩ := (hQ.1.2 4 (q 4, .object "FlapBoard$Board") rfl).2
  have h3 : cA = q 4 := Option.some.inj (h1.symm.trans h2)
  subst h3
  exact kk a H1 hP1 hD1 hS1
end BQ
end
section
theorem mw_4 : Cond.selects RX6 yX6_whyNotRow yX6_whyNotRow ∈ w_all := w_in 4 (by decide +kernel) (by decide +kernel)
theorem mw_8 : Cond.selects RX2 yX2_sortByLeft yX2_sortByLeft ∈ w_all := w_in 8 (by decide +kernel) (by decide +kernel)
theorem mw_10 : Cond.selects RX6 yX6_whyNotProgram yX6_whyNotProgram ∈ w_all := w_in 10 (by decide +kernel) (by decide +kernel)
theorem mw_22 : Cond.selects RX6 yX6_shelvesUsed yX6_shelvesUsed ∈ w_all := w_in 22 (by decide +kernel) (by decide +kernel)
theorem mw_98 : Cond.initialized RX6 ∈ w_all := w_in 98 (by decide +kernel) (by decide +kernel)
theorem mw_99 : Cond.initialized RX5 ∈ w_all := w_in 99 (by decide +kernel) (by decide +kernel)
theorem mw_100 : Cond.initialized RX0 ∈ w_all := w_in 100 (by decide +kernel) (by decide +kernel)
theorem mw_101 : Cond.initialized RX2 ∈ w_all := w_in 101 (by decide +kernel) (by decide +kernel)
theorem mw_103 : Cond.initialized RX3 ∈ w_all := w_in 103 (by decide +kernel) (by decide +kernel)
theorem mw_112 : Cond.initialized RJ7 ∈ w_all := w_in 112 (by decide +kernel) (by decide +kernel)
theorem mw_128 : Cond.fieldLink RX5 9 "FlapBoard$Tape" "bytes" "[I" ∈ w_all := w_in 128 (by decide +kernel) (by decide +kernel)
theorem mw_129 : Cond.fieldLink RX6 51 "FlapBoard$Tape" "size" "I" ∈ w_all := w_in 129 (by decide +kernel) (by decide +kernel)
theorem mw_130 : Cond.fieldLink RX5 15 "FlapBoard$Tape" "size" "I" ∈ w_all := w_in 130 (by decide +kernel) (by decide +kernel)
theorem mw_167 : Cond.fieldLink RX0 49 "FlapBoard$Board" "rows" "I" ∈ w_all := w_in 167 (by decide +kernel) (by decide +kernel)
theorem mw_169 : Cond.fieldLink RX6 94 "FlapBoard$Board" "rows" "I" ∈ w_all := w_in 169 (by decide +kernel) (by decide +kernel)
theorem mw_171 : Cond.fieldLink RX0 53 "FlapBoard$Board" "wide" "I" ∈ w_all := w_in 171 (by decide +kernel) (by decide +kernel)
theorem mw_174 : Cond.fieldLink RX6 261 "FlapBoard$Board" "wide" "I" ∈ w_all := w_in 174 (by decide +kernel) (by decide +kernel)
theorem mw_178 : Cond.fieldLink RX6 146 "FlapBoard$Board" "limit" "I" ∈ w_all := w_in 178 (by decide +kernel) (by decide +kernel)
theorem mw_179 : Cond.fieldLink RX0 59 "FlapBoard$Board" "drums" "I" ∈ w_all := w_in 179 (by decide +kernel) (by decide +kernel)
theorem mw_181 : Cond.fieldLink RX6 80 "FlapBoard$Board" "drums" "I" ∈ w_all := w_in 181 (by decide +kernel) (by decide +kernel)
theorem mw_253 : Cond.fieldLink RX2 9 "FlapBoard$Motor" "firstByLeft" "[I" ∈ w_all := w_in 253 (by decide +kernel) (by decide +kernel)
theorem mw_256 : Cond.fieldLink RX2 28 "FlapBoard$Motor" "size" "I" ∈ w_all := w_in 256 (by decide +kernel) (by decide +kernel)
theorem mw_257 : Cond.fieldLink RX6 114 "FlapBoard$Motor" "size" "I" ∈ w_all := w_in 257 (by decide +kernel) (by decide +kernel)
theorem mw_258 : Cond.fieldLink RX2 65 "FlapBoard$Motor" "current" "I" ∈ w_all := w_in 258 (by decide +kernel) (by decide +kernel)
theorem mw_345 : Cond.fieldLink RX3 26 "FlapBoard$Past" "size" "I" ∈ w_all := w_in 345 (by decide +kernel) (by decide +kernel)
theorem mw_346 : Cond.fieldLink RX6 79 "FlapBoard$Past" "size" "I" ∈ w_all := w_in 346 (by decide +kernel) (by decide +kernel)
theorem mw_355 : Cond.fieldLink RX6 10 "FlapBoard" "tape" "LFlapBoard$Tape;" ∈ w_all := w_in 355 (by decide +kernel) (by decide +kernel)
theorem mw_356 : Cond.fieldLink RX6 19 "FlapBoard" "board" "LFlapBoard$Board;" ∈ w_all := w_in 356 (by decide +kernel) (by decide +kernel)
theorem mw_358 : Cond.fieldLink RX6 29 "FlapBoard" "motor" "LFlapBoard$Motor;" ∈ w_all := w_in 358 (by decide +kernel) (by decide +kernel)
theorem mw_360 : Cond.fieldLink RX6 43 "FlapBoard" "past" "LFlapBoard$Past;" ∈ w_all := w_in 360 (by decide +kernel) (by decide +kernel)
theorem mw_361 : Cond.fieldLink RX6 47 "FlapBoard" "shelves" "[LFlapBoard$Board;" ∈ w_all := w_in 361 (by decide +kernel) (by decide +kernel)
theorem mw_381 : Cond.methodLink RX6 55 yX5_addNumber ∈ w_all := w_in 381 (by decide +kernel) (by decide +kernel)
theorem mw_382 : Cond.instanceMethod yX5_addNumber ∈ w_all := w_in 382 (by decide +kernel) (by decide +kernel)
theorem mw_383 : Cond.selects RX5 yX5_addNumber yX5_addNumber ∈ w_all := w_in 383 (by decide +kernel) (by decide +kernel)
theorem mw_384 : Cond.code yX5_addNumber cX5_addNumber 3 none ∈ w_all := w_in 384 (by decide +kernel) (by decide +kernel)
theorem mw_542 : Cond.instanceMethod yX0_cells ∈ w_all := w_in 542 (by decide +kernel) (by decide +kernel)
theorem mw_543 : Cond.selects RX0 yX0_cells yX0_cells ∈ w_all := w_in 543 (by decide +kernel) (by decide +kernel)
theorem mw_544 : Cond.code yX0_cells cX0_cells 1 (some .int) ∈ w_all := w_in 544 (by decide +kernel) (by decide +kernel)
theorem mw_584 : Cond.methodLink RX0 72 yX0_hasCell ∈ w_all := w_in 584 (by decide +kernel) (by decide +kernel)
theorem mw_585 : Cond.instanceMethod yX0_hasCell ∈ w_all := w_in 585 (by decide +kernel) (by decide +kernel)
theorem mw_586 : Cond.selects RX0 yX0_hasCell yX0_hasCell ∈ w_all := w_in 586 (by decide +kernel) (by decide +kernel)
theorem mw_587 : Cond.code yX0_hasCell cX0_hasCell 2 (some .boolean) ∈ w_all := w_in 587 (by decide +kernel) (by decide +kernel)
theorem mw_588 : Cond.methodLink RX0 102 yX0_cells ∈ w_all := w_in 588 (by decide +kernel) (by decide +kernel)
theorem mw_610 : Cond.static yJ7_fill_53178 ∈ w_all := w_in 610 (by decide +kernel) (by decide +kernel)
theorem mw_611 : Cond.code yJ7_fill_53178 cJ7_fill_53178 4 none ∈ w_all := w_in 611 (by decide +kernel) (by decide +kernel)
theorem mw_617 : Cond.methodLink RX6 83 yX6_whyNotRow ∈ w_all := w_in 617 (by decide +kernel) (by decide +kernel)
theorem mw_619 : Cond.instanceMethod yX6_whyNotRow ∈ w_all := w_in 619 (by decide +kernel) (by decide +kernel)
theorem mw_620 : Cond.code yX6_whyNotRow cX6_whyNotRow 2 (some .int) ∈ w_all := w_in 620 (by decide +kernel) (by decide +kernel)
theorem mw_621 : Cond.methodLink RX6 258 yX0_hasRow ∈ w_all := w_in 621 (by decide +kernel) (by decide +kernel)
theorem mw_622 : Cond.instanceMethod yX0_hasRow ∈ w_all := w_in 622 (by decide +kernel) (by decide +kernel)
theorem mw_623 : Cond.selects RX0 yX0_hasRow yX0_hasRow ∈ w_all := w_in 623 (by decide +kernel) (by decide +kernel)
theorem mw_624 : Cond.code yX0_hasRow cX0_hasRow 2 (some .boolean) ∈ w_all := w_in 624 (by decide +kernel) (by decide +kernel)
theorem mw_669 : Cond.instanceMethod yX0_signOf ∈ w_all := w_in 669 (by decide +kernel) (by decide +kernel)
theorem mw_670 : Cond.selects RX0 yX0_signOf yX0_signOf ∈ w_all := w_in 670 (by decide +kernel) (by decide +kernel)
theorem mw_671 : Cond.code yX0_signOf cX0_signOf 3 (some .int) ∈ w_all := w_in 671 (by decide +kernel) (by decide +kernel)
theorem mw_677 : Cond.methodLink RX6 101 yX0_isThere ∈ w_all := w_in 677 (by decide +kernel) (by decide +kernel)
theorem mw_678 : Cond.instanceMethod yX0_isThere ∈ w_all := w_in 678 (by decide +kernel) (by decide +kernel)
theorem mw_679 : Cond.selects RX0 yX0_isThere yX0_isThere ∈ w_all := w_in 679 (by decide +kernel) (by decide +kernel)
theorem mw_680 : Cond.code yX0_isThere cX0_isThere 1 (some .boolean) ∈ w_all := w_in 680 (by decide +kernel) (by decide +kernel)
theorem mw_690 : Cond.instanceMethod yX2_choose ∈ w_all := w_in 690 (by decide +kernel) (by decide +kernel)
theorem mw_691 : Cond.selects RX2 yX2_choose yX2_choose ∈ w_all := w_in 691 (by decide +kernel) (by decide +kernel)
theorem mw_692 : Cond.code yX2_choose cX2_choose 7 none ∈ w_all := w_in 692 (by decide +kernel) (by decide +kernel)
theorem mw_693 : Cond.methodLink RX2 74 yX2_sortByLeft ∈ w_all := w_in 693 (by decide +kernel) (by decide +kernel)
theorem mw_695 : Cond.instanceMethod yX2_sortByLeft ∈ w_all := w_in 695 (by decide +kernel) (by decide +kernel)
theorem mw_696 : Cond.code yX2_sortByLeft cX2_sortByLeft 5 (some .int) ∈ w_all := w_in 696 (by decide +kernel) (by decide +kernel)
theorem mw_697 : Cond.methodLink RX2 84 yJ7_fill_53178 ∈ w_all := w_in 697 (by decide +kernel) (by decide +kernel)
theorem mw_698 : Cond.methodLink RX2 90 yX0_cells ∈ w_all := w_in 698 (by decide +kernel) (by decide +kernel)
theorem mw_725 : Cond.methodLink RX6 111 yX2_choose ∈ w_all := w_in 725 (by decide +kernel) (by decide +kernel)
theorem mw_730 : Cond.methodLink RX6 118 yX0_hasCell ∈ w_all := w_in 730 (by decide +kernel) (by decide +kernel)
theorem mw_736 : Cond.methodLink RX6 130 yX0_hasFlap ∈ w_all := w_in 736 (by decide +kernel) (by decide +kernel)
theorem mw_737 : Cond.instanceMethod yX0_hasFlap ∈ w_all := w_in 737 (by decide +kernel) (by decide +kernel)
theorem mw_738 : Cond.selects RX0 yX0_hasFlap yX0_hasFlap ∈ w_all := w_in 738 (by decide +kernel) (by decide +kernel)
theorem mw_739 : Cond.code yX0_hasFlap cX0_hasFlap 3 (some .boolean) ∈ w_all := w_in 739 (by decide +kernel) (by decide +kernel)
theorem mw_768 : Cond.methodLink RX6 149 yX0_isMovable ∈ w_all := w_in 768 (by decide +kernel) (by decide +kernel)
theorem mw_769 : Cond.instanceMethod yX0_isMovable ∈ w_all := w_in 769 (by decide +kernel) (by decide +kernel)
theorem mw_770 : Cond.selects RX0 yX0_isMovable yX0_isMovable ∈ w_all := w_in 770 (by decide +kernel) (by decide +kernel)
theorem mw_771 : Cond.code yX0_isMovable cX0_isMovable 3 (some .boolean) ∈ w_all := w_in 771 (by decide +kernel) (by decide +kernel)
theorem mw_772 : Cond.methodLink RX0 108 yX0_flapsOn ∈ w_all := w_in 772 (by decide +kernel) (by decide +kernel)
theorem mw_773 : Cond.instanceMethod yX0_flapsOn ∈ w_all := w_in 773 (by decide +kernel) (by decide +kernel)
theorem mw_774 : Cond.selects RX0 yX0_flapsOn yX0_flapsOn ∈ w_all := w_in 774 (by decide +kernel) (by decide +kernel)
theorem mw_775 : Cond.code yX0_flapsOn cX0_flapsOn 2 (some .int) ∈ w_all := w_in 775 (by decide +kernel) (by decide +kernel)
theorem mw_785 : Cond.methodLink RX6 156 yX6_whyNotProgram ∈ w_all := w_in 785 (by decide +kernel) (by decide +kernel)
theorem mw_787 : Cond.instanceMethod yX6_whyNotProgram ∈ w_all := w_in 787 (by decide +kernel) (by decide +kernel)
theorem mw_788 : Cond.code yX6_whyNotProgram cX6_whyNotProgram 1 (some .int) ∈ w_all := w_in 788 (by decide +kernel) (by decide +kernel)
theorem mw_873 : Cond.methodLink RX6 197 yX3_pop ∈ w_all := w_in 873 (by decide +kernel) (by decide +kernel)
theorem mw_874 : Cond.instanceMethod yX3_pop ∈ w_all := w_in 874 (by decide +kernel) (by decide +kernel)
theorem mw_875 : Cond.selects RX3 yX3_pop yX3_pop ∈ w_all := w_in 875 (by decide +kernel) (by decide +kernel)
theorem mw_876 : Cond.code yX3_pop cX3_pop 3 (some .boolean) ∈ w_all := w_in 876 (by decide +kernel) (by decide +kernel)
theorem mw_881 : Cond.methodLink RX6 201 yX6_isShelf ∈ w_all := w_in 881 (by decide +kernel) (by decide +kernel)
theorem mw_882 : Cond.static yX6_isShelf ∈ w_all := w_in 882 (by decide +kernel) (by decide +kernel)
theorem mw_883 : Cond.code yX6_isShelf cX6_isShelf 1 (some .boolean) ∈ w_all := w_in 883 (by decide +kernel) (by decide +kernel)
theorem mw_885 : Cond.methodLink RX6 207 yX0_cells ∈ w_all := w_in 885 (by decide +kernel) (by decide +kernel)
theorem mw_899 : Cond.constantLong RX6 234 (-1) ∈ w_all := w_in 899 (by decide +kernel) (by decide +kernel)
theorem mw_904 : Cond.methodLink RX6 236 yX0_hasDrum ∈ w_all := w_in 904 (by decide +kernel) (by decide +kernel)
theorem mw_905 : Cond.instanceMethod yX0_hasDrum ∈ w_all := w_in 905 (by decide +kernel) (by decide +kernel)
theorem mw_906 : Cond.selects RX0 yX0_hasDrum yX0_hasDrum ∈ w_all := w_in 906 (by decide +kernel) (by decide +kernel)
theorem mw_907 : Cond.code yX0_hasDrum cX0_hasDrum 2 (some .boolean) ∈ w_all := w_in 907 (by decide +kernel) (by decide +kernel)
theorem mw_934 : Cond.methodLink RX6 254 yX0_signOf ∈ w_all := w_in 934 (by decide +kernel) (by decide +kernel)
theorem mw_1113 : Cond.constantLong RX6 373 17 ∈ w_all := w_in 1113 (by decide +kernel) (by decide +kernel)
theorem mw_1119 : Cond.methodLink RX6 377 yX6_shelvesUsed ∈ w_all := w_in 1119 (by decide +kernel) (by decide +kernel)
theorem mw_1121 : Cond.instanceMethod yX6_shelvesUsed ∈ w_all := w_in 1121 (by decide +kernel) (by decide +kernel)
theorem mw_1122 : Cond.code yX6_shelvesUsed cX6_shelvesUsed 3 (some .int) ∈ w_all := w_in 1122 (by decide +kernel) (by decide +kernel)
theorem wd_J7_fill_53178 : wd_S yJ7_fill_53178 cJ7_fill_53178 4 none 2 := ⟨mw_610, mw_112, mw_611, by decide +kernel, by decide +kernel, by decide +kernel⟩
theorem wd_X0_cells : wd_V yX0_cells cX0_cells 1 (some .int) 0 := ⟨mw_542, mw_543, mw_100, mw_544, by decide +kernel, by decide +kernel, by decide +kernel⟩
theorem wd_X0_flapsOn : wd_V yX0_flapsOn cX0_flapsOn 2 (some .int) 1 := ⟨mw_773, mw_774, mw_100, mw_775, by decide +kernel, by decide +kernel, by decide +kernel⟩
theorem wd_X0_hasCell : wd_V yX0_hasCell cX0_hasCell 2 (some .boolean) 1 := ⟨mw_585, mw_586, mw_100, mw_587, by decide +kernel, by decide +kernel, by decide +kernel⟩
theorem wd_X0_hasDrum : wd_V yX0_hasDrum cX0_hasDrum 2 (some .boolean) 1 := ⟨mw_905, mw_906, mw_100, mw_907, by decide +kernel, by decide +kernel, by decide +kernel⟩
theorem wd_X0_hasFlap : wd_V yX0_hasFlap cX0_hasFlap 3 (some .boolean) 2 := ⟨mw_737, mw_738, mw_100, mw_739, by decide +kernel, by decide +kernel, by decide +kernel⟩
theorem wd_X0_hasRow : wd_V yX0_hasRow cX0_hasRow 2 (some .boolean) 1 := ⟨mw_622, mw_623, mw_100, mw_624, by decide +kernel, by decide +kernel, by decide +kernel⟩
theorem wd_X0_isMovable : wd_V yX0_isMovable cX0_isMovable 3 (some .boolean) 2 := ⟨mw_769, mw_770, mw_100, mw_771, by decide +kernel, by decide +kernel, by decide +kernel⟩
theorem wd_X0_isThere : wd_V yX0_isThere cX0_isThere 1 (some .boolean) 0 := ⟨mw_678, mw_679, mw_100, mw_680, by decide +kernel, by decide +kernel, by decide +kernel⟩
theorem wd_X0_signOf : wd_V yX0_signOf cX0_signOf 3 (some .int) 2 := ⟨mw_669, mw_670, mw_100, mw_671, by decide +kernel, by decide +kernel, by decide +kernel⟩
theorem wd_X2_choose : wd_V yX2_choose cX2_choose 7 none 1 := ⟨mw_690, mw_691, mw_101, mw_692, by decide +kernel, by decide +kernel, by decide +kernel⟩
theorem wd_X2_sortByLeft : wd_V yX2_sortByLeft cX2_sortByLeft 5 (some .int) 1 := ⟨mw_695, mw_8, mw_101, mw_696, by decide +kernel, by decide +kernel, by decide +kernel⟩
theorem wd_X3_pop : wd_V yX3_pop cX3_pop 3 (some .boolean) 1 := ⟨mw_874, mw_875, mw_103, mw_876, by decide +kernel, by decide +kernel, by decide +kernel⟩
theorem wd_X5_addNumber : wd_V yX5_addNumber cX5_addNumber 3 none 1 := ⟨mw_382, mw_383, mw_99, mw_384, by decide +kernel, by decide +kernel, by decide +kernel⟩
theorem wd_X6_isShelf : wd_S yX6_isShelf cX6_isShelf 1 (some .boolean) 1 := ⟨mw_882, mw_98, mw_883, by decide +kernel, by decide +kernel, by decide +kernel⟩
theorem wd_X6_shelvesUsed : wd_V yX6_shelvesUsed cX6_shelvesUsed 3 (some .int) 0 := ⟨mw_1121, mw_22, mw_98, mw_1122, by decide +kernel, by decide +kernel, by decide +kernel⟩
theorem wd_X6_whyNotProgram : wd_V yX6_whyNotProgram cX6_whyNotProgram 1 (some .int) 0 := ⟨mw_787, mw_10, mw_98, mw_788, by decide +kernel, by decide +kernel, by decide +kernel⟩
theorem wd_X6_whyNotRow : wd_V yX6_whyNotRow cX6_whyNotRow 2 (some .int) 1 := ⟨mw_619, mw_4, mw_98, mw_620, by decide +kernel, by decide +kernel, by decide +kernel⟩
def fb_w (a : Nat → Nat) (q : Nat → ClassId) : va_W := [((a 0), .inr (5, [.ref (a 1), .ref (a 3), .ref (a 16), .ref (a 29), .ref (a 33), .ref (a 41), .ref (a 43)])), ((a 1), .inr (4, [.ref (a 2), .int 0, .int 0, .int 0, .int 0, .int 0, .int 0])), ((a 2), .inl (q 0, 400, .inl (fun _ => 0))), ((a 3), .inr (0, [.int 0, .int 0, .int 0, .int 0, .int 0, .int 0, .ref (a 4), .ref (a 5), .ref (a 6), .ref (a 7), .ref (a 8), .ref (a 9), .ref (a 10), .ref (a 11), .ref (a 12), .ref (a 13), .ref (a 14), .ref (a 15)])), ((a 4), .inl (q 0, 4, .inl (fun _ => 0))), ((a 5), .inl (q 0, 4, .inl (fun _ => 0))), ((a 6), .inl (q 0, 160, .inl (fun _ => 0))), ((a 7), .inl (q 0, 40, .inl (fun _ => 0))), ((a 8), .inl (q 0, 40, .inl (fun _ => 0))), ((a 9), .inl (q 0, 40, .inl (fun _ => 0))), ((a 10), .inl (q 0, 40, .inl (fun _ => 0))), ((a 11), .inl (q 0, 40, .inl (fun _ => 0))), ((a 12), .inl (q 0, 40, .inl (fun _ => 0))), ((a 13), .inl (q 0, 40, .inl (fun _ => 0))), ((a 14), .inl (q 1, 40, .inr (.inl (fun _ => 0)))), ((a 15), .inl (q 0, 0, .inl (fun _ => 0))), ((a 16), .inr (0, [.int 0, .int 0, .int 0, .int 0, .int 0, .int 0, .ref (a 17), .ref (a 18), .ref (a 19), .ref (a 20), .ref (a 21), .ref (a 22), .ref (a 23), .ref (a 24), .ref (a 25), .ref (a 26), .ref (a 27), .ref (a 28)])), ((a 17), .inl (q 0, 4, .inl (fun _ => 0))), ((a 18), .inl (q 0, 4, .inl (fun _ => 0))), ((a 19), .inl (q 0, 160, .inl (fun _ => 0))), ((a 20), .inl (q 0, 40, .inl (fun _ => 0))), ((a 21), .inl (q 0, 40, .inl (fun _ => 0))), ((a 22), .inl (q 0, 40, .inl (fun _ => 0))), ((a 23), .inl (q 0, 40, .inl (fun _ => 0))), ((a 24), .inl (q 0, 40, .inl (fun _ => 0))), ((a 25), .inl (q 0, 40, .inl (fun _ => 0))), ((a 26), .inl (q 0, 40, .inl (fun _ => 0))), ((a 27), .inl (q 1, 40, .inr (.inl (fun _ => 0)))), ((a 28), .inl (q 0, 0, .inl (fun _ => 0))), ((a 29), .inr (1, [.ref (a 30), .ref (a 31), .ref (a 32), .int 0, .int 0, .int 0, .int 0, .int 0, .int 0, .int 0, .int 0, .int 0])), ((a 30), .inl (q 0, 40, .inl (fun _ => 0))), ((a 31), .inl (q 0, 40, .inl (fun _ => 0))), ((a 32), .inl (q 0, 40, .inl (fun _ => 0))), ((a 33), .inr (3, [.ref (a 34), .ref (a 35), .ref (a 36), .ref (a 37), .ref (a 38), .ref (a 39), .ref (a 40), .int 0, .int 0, .int 0])), ((a 34), .inl (q 0, 80, .inl (fun _ => 0))), ((a 35), .inl (q 0, 80, .inl (fun _ => 0))), ((a 36), .inl (q 0, 80, .inl (fun _ => 0))), ((a 37), .inl (q 0, 80, .inl (fun _ => 0))), ((a 38), .inl (q 0, 80, .inl (fun _ => 0))), ((a 39), .inl (q 0, 3, .inl (fun _ => 0))), ((a 40), .inl (q 0, 3, .inl (fun _ => 0))), ((a 41), .inr (2, [.ref (a 42), .int 0, .int 0])), ((a 42), .inl (q 4, 10, .inr (.inr (.inr (.inr (fun _ => none)))))), ((a 43), .inl (q 4, 2, .inr (.inr (.inr (.inr (fun _ => none))))))]
def md_w (b : Nat → Nat) (q : Nat → ClassId) : va_W := [((b 0), .inr (6, [.ref (b 1), .ref (b 2), .int 0, .ref (b 3), .ref (b 4), .ref (b 5), .long 0, .int 0, .int 0, .ref (b 6), .int 0, .int 0, .ref (b 7), .int 0, .int 0, .int 0, .int 0, .int 0, .int 0, .int 0, .int 0, .int 0, .int 0])), ((b 1), .inl (q 1, 6896, .inr (.inl (fun _ => 0)))), ((b 2), .inl (q 1, 68960, .inr (.inl (fun _ => 0)))), ((b 3), .inl (q 1, 13792, .inr (.inl (fun _ => 0)))), ((b 4), .inl (q 3, 2, .inl (fun _ => 0))), ((b 5), .inl (q 1, 6896, .inr (.inl (fun _ => 0)))), ((b 6), .inl (q 0, 40, .inl (fun _ => 0))), ((b 7), .inl (q 2, 400, .inl (fun _ => 0)))]
end
section
theorem dX0_isThere_0 : decode cX0_isThere 0 = .ok (.aload_n 0, 1) := by decide +kernel
theorem dX0_isThere_1 : decode cX0_isThere 1 = .ok (.getfield 49, 3) := by decide +kernel
theorem dX0_isThere_4 : decode cX0_isThere 4 = .ok (.ifCond .le 7, 3) := by decide +kernel
theorem dX0_isThere_11 : decode cX0_isThere 11 = .ok (.iconst 0, 1) := by decide +kernel
theorem dX0_isThere_12 : decode cX0_isThere 12 = .ok (.ireturn, 1) := by decide +kernel
theorem dX0_cells_0 : decode cX0_cells 0 = .ok (.aload_n 0, 1) := by decide +kernel
theorem dX0_cells_1 : decode cX0_cells 1 = .ok (.getfield 49, 3) := by decide +kernel
theorem dX0_cells_4 : decode cX0_cells 4 = .ok (.aload_n 0, 1) := by decide +kernel
theorem dX0_cells_5 : decode cX0_cells 5 = .ok (.getfield 53, 3) := by decide +kernel
theorem dX0_cells_8 : decode cX0_cells 8 = .ok (.imul, 1) := by decide +kernel
theorem dX0_cells_9 : decode cX0_cells 9 = .ok (.ireturn, 1) := by decide +kernel
theorem dX0_hasCell_0 : decode cX0_hasCell 0 = .ok (.iload_n 1, 1) := by decide +kernel
theorem dX0_hasCell_1 : decode cX0_hasCell 1 = .ok (.ifCond .lt 15, 3) := by decide +kernel
theorem dX0_hasCell_4 : decode cX0_hasCell 4 = .ok (.iload_n 1, 1) := by decide +kernel
theorem dX0_hasCell_5 : decode cX0_hasCell 5 = .ok (.aload_n 0, 1) := by decide +kernel
theorem dX0_hasCell_6 : decode cX0_hasCell 6 = .ok (.invokevirtual 102, 3) := by decide +kernel
theorem dX0_hasCell_9 : decode cX0_hasCell 9 = .ok (.if_icmp .ge 7, 3) := by decide +kernel
theorem dX0_hasCell_16 : decode cX0_hasCell 16 = .ok (.iconst 0, 1) := by decide +kernel
theorem dX0_hasCell_17 : decode cX0_hasCell 17 = .ok (.ireturn, 1) := by decide +kernel
theorem dX0_hasRow_0 : decode cX0_hasRow 0 = .ok (.iload_n 1, 1) := by decide +kernel
theorem dX0_hasRow_1 : decode cX0_hasRow 1 = .ok (.ifCond .lt 15, 3) := by decide +kernel
theorem dX0_hasRow_4 : decode cX0_hasRow 4 = .ok (.iload_n 1, 1) := by decide +kernel
theorem dX0_hasRow_5 : decode cX0_hasRow 5 = .ok (.aload_n 0, 1) := by decide +kernel
theorem dX0_hasRow_6 : decode cX0_hasRow 6 = .ok (.getfield 49, 3) := by decide +kernel
theorem dX0_hasRow_9 : decode cX0_hasRow 9 = .ok (.if_icmp .ge 7, 3) := by decide +kernel
theorem dX0_hasRow_16 : decode cX0_hasRow 16 = .ok (.iconst 0, 1) := by decide +kernel
theorem dX0_hasRow_17 : decode cX0_hasRow 17 = .ok (.ireturn, 1) := by decide +kernel
theorem dX0_hasDrum_0 : decode cX0_hasDrum 0 = .ok (.iload_n 1, 1) := by decide +kernel
theorem dX0_hasDrum_1 : decode cX0_hasDrum 1 = .ok (.ifCond .lt 15, 3) := by decide +kernel
theorem dX0_hasDrum_4 : decode cX0_hasDrum 4 = .ok (.iload_n 1, 1) := by decide +kernel
theorem dX0_hasDrum_5 : decode cX0_hasDrum 5 = .ok (.aload_n 0, 1) := by decide +kernel
theorem dX0_hasDrum_6 : decode cX0_hasDrum 6 = .ok (.getfield 59, 3) := by decide +kernel
theorem dX0_hasDrum_9 : decode cX0_hasDrum 9 = .ok (.if_icmp .ge 7, 3) := by decide +kernel
theorem dX0_hasDrum_16 : decode cX0_hasDrum 16 = .ok (.iconst 0, 1) := by decide +kernel
theorem dX0_hasDrum_17 : decode cX0_hasDrum 17 = .ok (.ireturn, 1) := by decide +kernel
theorem dX0_hasFlap_0 : decode cX0_hasFlap 0 = .ok (.aload_n 0, 1) := by decide +kernel
theorem dX0_hasFlap_1 : decode cX0_hasFlap 1 = .ok (.iload_n 1, 1) := by decide +kernel
theorem dX0_hasFlap_2 : decode cX0_hasFlap 2 = .ok (.invokevirtual 72, 3) := by decide +kernel
theorem dX0_hasFlap_5 : decode cX0_hasFlap 5 = .ok (.ifCond .eq 20, 3) := by decide +kernel
theorem dX0_hasFlap_25 : decode cX0_hasFlap 25 = .ok (.iconst 0, 1) := by decide +kernel
theorem dX0_hasFlap_26 : decode cX0_hasFlap 26 = .ok (.ireturn, 1) := by decide +kernel
theorem dX0_flapsOn_0 : decode cX0_flapsOn 0 = .ok (.iload_n 1, 1) := by decide +kernel
theorem dX0_flapsOn_1 : decode cX0_flapsOn 1 = .ok (.ifCond .lt 20, 3) := by decide +kernel
theorem dX0_flapsOn_4 : decode cX0_flapsOn 4 = .ok (.iload_n 1, 1) := by decide +kernel
theorem dX0_flapsOn_5 : decode cX0_flapsOn 5 = .ok (.aload_n 0, 1) := by decide +kernel
theorem dX0_flapsOn_6 : decode cX0_flapsOn 6 = .ok (.getfield 59, 3) := by decide +kernel
theorem dX0_flapsOn_9 : decode cX0_flapsOn 9 = .ok (.if_icmp .ge 12, 3) := by decide +kernel
theorem dX0_flapsOn_21 : decode cX0_flapsOn 21 = .ok (.iconst 0, 1) := by decide +kernel
theorem dX0_flapsOn_22 : decode cX0_flapsOn 22 = .ok (.ireturn, 1) := by decide +kernel
theorem dX0_isMovable_0 : decode cX0_isMovable 0 = .ok (.iload_n 2, 1) := by decide +kernel
theorem dX0_isMovable_1 : decode cX0_isMovable 1 = .ok (.ifCond .le 16, 3) := by decide +kernel
theorem dX0_isMovable_4 : decode cX0_isMovable 4 = .ok (.iload_n 2, 1) := by decide +kernel
theorem dX0_isMovable_5 : decode cX0_isMovable 5 = .ok (.aload_n 0, 1) := by decide +kernel
theorem dX0_isMovable_6 : decode cX0_isMovable 6 = .ok (.iload_n 1, 1) := by decide +kernel
theorem dX0_isMovable_7 : decode cX0_isMovable 7 = .ok (.invokevirtual 108, 3) := by decide +kernel
theorem dX0_isMovable_10 : decode cX0_isMovable 10 = .ok (.if_icmp .ge 7, 3) := by decide +kernel
theorem dX0_isMovable_17 : decode cX0_isMovable 17 = .ok (.iconst 0, 1) := by decide +kernel
theorem dX0_isMovable_18 : decode cX0_isMovable 18 = .ok (.ireturn, 1) := by decide +kernel
theorem dX0_signOf_0 : decode cX0_signOf 0 = .ok (.iload_n 1, 1) := by decide +kernel
theorem dX0_signOf_1 : decode cX0_signOf 1 = .ok (.ifCond .lt 25, 3) := by decide +kernel
theorem dX0_signOf_4 : decode cX0_signOf 4 = .ok (.iload_n 1, 1) := by decide +kernel
theorem dX0_signOf_5 : decode cX0_signOf 5 = .ok (.aload_n 0, 1) := by decide +kernel
theorem dX0_signOf_6 : decode cX0_signOf 6 = .ok (.getfield 59, 3) := by decide +kernel
theorem dX0_signOf_9 : decode cX0_signOf 9 = .ok (.if_icmp .ge 17, 3) := by decide +kernel
theorem dX0_signOf_26 : decode cX0_signOf 26 = .ok (.iconst (-1), 1) := by decide +kernel
theorem dX0_signOf_27 : decode cX0_signOf 27 = .ok (.ireturn, 1) := by decide +kernel
theorem dX6_isShelf_0 : decode cX6_isShelf 0 = .ok (.iload_n 0, 1) := by decide +kernel
theorem dX6_isShelf_1 : decode cX6_isShelf 1 = .ok (.ifCond .lt 12, 3) := by decide +kernel
theorem dX6_isShelf_4 : decode cX6_isShelf 4 = .ok (.iload_n 0, 1) := by decide +kernel
theorem dX6_isShelf_5 : decode cX6_isShelf 5 = .ok (.iconst 2, 1) := by decide +kernel
theorem dX6_isShelf_6 : decode cX6_isShelf 6 = .ok (.if_icmp .ge 7, 3) := by decide +kernel
theorem dX6_isShelf_9 : decode cX6_isShelf 9 = .ok (.iconst 1, 1) := by decide +kernel
theorem dX6_isShelf_10 : decode cX6_isShelf 10 = .ok (.goto 4, 3) := by decide +kernel
theorem dX6_isShelf_13 : decode cX6_isShelf 13 = .ok (.iconst 0, 1) := by decide +kernel
theorem dX6_isShelf_14 : decode cX6_isShelf 14 = .ok (.ireturn, 1) := by decide +kernel
theorem dX3_pop_0 : decode cX3_pop 0 = .ok (.aload_n 0, 1) := by decide +kernel
theorem dX3_pop_1 : decode cX3_pop 1 = .ok (.getfield 26, 3) := by decide +kernel
theorem dX3_pop_4 : decode cX3_pop 4 = .ok (.ifCond .ne 5, 3) := by decide +kernel
theorem dX3_pop_7 : decode cX3_pop 7 = .ok (.iconst 0, 1) := by decide +kernel
theorem dX3_pop_8 : decode cX3_pop 8 = .ok (.ireturn, 1) := by decide +kernel
theorem dX5_addNumber_0 : decode cX5_addNumber 0 = .ok (.bipush 24, 2) := by decide +kernel
theorem dX5_addNumber_2 : decode cX5_addNumber 2 = .ok (.istore_n 2, 1) := by decide +kernel
theorem dX5_addNumber_3 : decode cX5_addNumber 3 = .ok (.iload_n 2, 1) := by decide +kernel
theorem dX5_addNumber_4 : decode cX5_addNumber 4 = .ok (.ifCond .lt 45, 3) := by decide +kernel
theorem dX5_addNumber_7 : decode cX5_addNumber 7 = .ok (.aload_n 0, 1) := by decide +kernel
theorem dX5_addNumber_8 : decode cX5_addNumber 8 = .ok (.getfield 15, 3) := by decide +kernel
theorem dX5_addNumber_11 : decode cX5_addNumber 11 = .ok (.sipush 400, 3) := by decide +kernel
theorem dX5_addNumber_14 : decode cX5_addNumber 14 = .ok (.if_icmp .ge 29, 3) := by decide +kernel
theorem dX5_addNumber_17 : decode cX5_addNumber 17 = .ok (.aload_n 0, 1) := by decide +kernel
theorem dX5_addNumber_18 : decode cX5_addNumber 18 = .ok (.getfield 9, 3) := by decide +kernel
theorem dX5_addNumber_21 : decode cX5_addNumber 21 = .ok (.aload_n 0, 1) := by decide +kernel
theorem dX5_addNumber_22 : decode cX5_addNumber 22 = .ok (.getfield 15, 3) := by decide +kernel
theorem dX5_addNumber_25 : decode cX5_addNumber 25 = .ok (.iload_n 1, 1) := by decide +kernel
theorem dX5_addNumber_26 : decode cX5_addNumber 26 = .ok (.iload_n 2, 1) := by decide +kernel
theorem dX5_addNumber_27 : decode cX5_addNumber 27 = .ok (.ishr, 1) := by decide +kernel
theorem dX5_addNumber_28 : decode cX5_addNumber 28 = .ok (.sipush 255, 3) := by decide +kernel
theorem dX5_addNumber_31 : decode cX5_addNumber 31 = .ok (.iand, 1) := by decide +kernel
theorem dX5_addNumber_32 : decode cX5_addNumber 32 = .ok (.iastore, 1) := by decide +kernel
theorem dX5_addNumber_33 : decode cX5_addNumber 33 = .ok (.aload_n 0, 1) := by decide +kernel
theorem dX5_addNumber_34 : decode cX5_addNumber 34 = .ok (.dup, 1) := by decide +kernel
theorem dX5_addNumber_35 : decode cX5_addNumber 35 = .ok (.getfield 15, 3) := by decide +kernel
theorem dX5_addNumber_38 : decode cX5_addNumber 38 = .ok (.iconst 1, 1) := by decide +kernel
theorem dX5_addNumber_39 : decode cX5_addNumber 39 = .ok (.iadd, 1) := by decide +kernel
theorem dX5_addNumber_40 : decode cX5_addNumber 40 = .ok (.putfield 15, 3) := by decide +kernel
theorem dX5_addNumber_43 : decode cX5_addNumber 43 = .ok (.iinc 2 (-8), 3) := by decide +kernel
theorem dX5_addNumber_46 : decode cX5_addNumber 46 = .ok (.goto (-43), 3) := by decide +kernel
theorem dX5_addNumber_49 : decode cX5_addNumber 49 = .ok (.return_, 1) := by decide +kernel
theorem dJ7_fill_53178_0 : decode cJ7_fill_53178 0 = .ok (.iconst 0, 1) := by decide +kernel
theorem dJ7_fill_53178_1 : decode cJ7_fill_53178 1 = .ok (.istore_n 2, 1) := by decide +kernel
theorem dJ7_fill_53178_2 : decode cJ7_fill_53178 2 = .ok (.aload_n 0, 1) := by decide +kernel
theorem dJ7_fill_53178_3 : decode cJ7_fill_53178 3 = .ok (.arraylength, 1) := by decide +kernel
theorem dJ7_fill_53178_4 : decode cJ7_fill_53178 4 = .ok (.istore_n 3, 1) := by decide +kernel
theorem dJ7_fill_53178_5 : decode cJ7_fill_53178 5 = .ok (.iload_n 2, 1) := by decide +kernel
theorem dJ7_fill_53178_6 : decode cJ7_fill_53178 6 = .ok (.iload_n 3, 1) := by decide +kernel
theorem dJ7_fill_53178_7 : decode cJ7_fill_53178 7 = .ok (.if_icmp .ge 13, 3) := by decide +kernel
theorem dJ7_fill_53178_10 : decode cJ7_fill_53178 10 = .ok (.aload_n 0, 1) := by decide +kernel
theorem dJ7_fill_53178_11 : decode cJ7_fill_53178 11 = .ok (.iload_n 2, 1) := by decide +kernel
theorem dJ7_fill_53178_12 : decode cJ7_fill_53178 12 = .ok (.iload_n 1, 1) := by decide +kernel
theorem dJ7_fill_53178_13 : decode cJ7_fill_53178 13 = .ok (.iastore, 1) := by decide +kernel
theorem dJ7_fill_53178_14 : decode cJ7_fill_53178 14 = .ok (.iinc 2 1, 3) := by decide +kernel
theorem dJ7_fill_53178_17 : decode cJ7_fill_53178 17 = .ok (.goto (-12), 3) := by decide +kernel
theorem dJ7_fill_53178_20 : decode cJ7_fill_53178 20 = .ok (.return_, 1) := by decide +kernel
theorem dX2_sortByLeft_0 : decode cX2_sortByLeft 0 = .ok (.aload_n 0, 1) := by decide +kernel
theorem dX2_sortByLeft_1 : decode cX2_sortByLeft 1 = .ok (.getfield 9, 3) := by decide +kernel
theorem dX2_sortByLeft_4 : decode cX2_sortByLeft 4 = .ok (.iconst (-1), 1) := by decide +kernel
theorem dX2_sortByLeft_5 : decode cX2_sortByLeft 5 = .ok (.invokestatic 84, 3) := by decide +kernel
theorem dX2_sortByLeft_8 : decode cX2_sortByLeft 8 = .ok (.iconst 0, 1) := by decide +kernel
theorem dX2_sortByLeft_9 : decode cX2_sortByLeft 9 = .ok (.istore_n 2, 1) := by decide +kernel
theorem dX2_sortByLeft_10 : decode cX2_sortByLeft 10 = .ok (.aload_n 1, 1) := by decide +kernel
theorem dX2_sortByLeft_11 : decode cX2_sortByLeft 11 = .ok (.invokevirtual 90, 3) := by decide +kernel
theorem dX2_sortByLeft_14 : decode cX2_sortByLeft 14 = .ok (.iconst 1, 1) := by decide +kernel
theorem dX2_sortByLeft_15 : decode cX2_sortByLeft 15 = .ok (.isub, 1) := by decide +kernel
theorem dX2_sortByLeft_16 : decode cX2_sortByLeft 16 = .ok (.istore_n 3, 1) := by decide +kernel
theorem dX2_sortByLeft_17 : decode cX2_sortByLeft 17 = .ok (.iload_n 3, 1) := by decide +kernel
theorem dX2_sortByLeft_18 : decode cX2_sortByLeft 18 = .ok (.ifCond .lt 56, 3) := by decide +kernel
theorem dX2_sortByLeft_74 : decode cX2_sortByLeft 74 = .ok (.iload_n 2, 1) := by decide +kernel
theorem dX2_sortByLeft_75 : decode cX2_sortByLeft 75 = .ok (.ireturn, 1) := by decide +kernel
theorem dX2_choose_0 : decode cX2_choose 0 = .ok (.aload_n 0, 1) := by decide +kernel
theorem dX2_choose_1 : decode cX2_choose 1 = .ok (.iconst 0, 1) := by decide +kernel
theorem dX2_choose_2 : decode cX2_choose 2 = .ok (.putfield 28, 3) := by decide +kernel
theorem dX2_choose_5 : decode cX2_choose 5 = .ok (.aload_n 0, 1) := by decide +kernel
theorem dX2_choose_6 : decode cX2_choose 6 = .ok (.iconst 0, 1) := by decide +kernel
theorem dX2_choose_7 : decode cX2_choose 7 = .ok (.putfield 65, 3) := by decide +kernel
theorem dX2_choose_10 : decode cX2_choose 10 = .ok (.aload_n 0, 1) := by decide +kernel
theorem dX2_choose_11 : decode cX2_choose 11 = .ok (.aload_n 1, 1) := by decide +kernel
theorem dX2_choose_12 : decode cX2_choose 12 = .ok (.invokevirtual 74, 3) := by decide +kernel
theorem dX2_choose_15 : decode cX2_choose 15 = .ok (.istore_n 2, 1) := by decide +kernel
theorem dX2_choose_16 : decode cX2_choose 16 = .ok (.iload_n 2, 1) := by decide +kernel
theorem dX2_choose_17 : decode cX2_choose 17 = .ok (.istore_n 3, 1) := by decide +kernel
theorem dX2_choose_18 : decode cX2_choose 18 = .ok (.iload_n 3, 1) := by decide +kernel
theorem dX2_choose_19 : decode cX2_choose 19 = .ok (.ifCond .le 117, 3) := by decide +kernel
theorem dX2_choose_136 : decode cX2_choose 136 = .ok (.return_, 1) := by decide +kernel
theorem dX6_shelvesUsed_0 : decode cX6_shelvesUsed 0 = .ok (.iconst 0, 1) := by decide +kernel
theorem dX6_shelvesUsed_1 : decode cX6_shelvesUsed 1 = .ok (.istore_n 1, 1) := by decide +kernel
theorem dX6_shelvesUsed_2 : decode cX6_shelvesUsed 2 = .ok (.iconst 0, 1) := by decide +kernel
theorem dX6_shelvesUsed_3 : decode cX6_shelvesUsed 3 = .ok (.istore_n 2, 1) := by decide +kernel
theorem dX6_shelvesUsed_4 : decode cX6_shelvesUsed 4 = .ok (.iload_n 2, 1) := by decide +kernel
theorem dX6_shelvesUsed_5 : decode cX6_shelvesUsed 5 = .ok (.iconst 2, 1) := by decide +kernel
theorem dX6_shelvesUsed_6 : decode cX6_shelvesUsed 6 = .ok (.if_icmp .ge 24, 3) := by decide +kernel
theorem dX6_shelvesUsed_9 : decode cX6_shelvesUsed 9 = .ok (.aload_n 0, 1) := by decide +kernel
theorem dX6_shelvesUsed_10 : decode cX6_shelvesUsed 10 = .ok (.getfield 47, 3) := by decide +kernel
theorem dX6_shelvesUsed_13 : decode cX6_shelvesUsed 13 = .ok (.iload_n 2, 1) := by decide +kernel
theorem dX6_shelvesUsed_14 : decode cX6_shelvesUsed 14 = .ok (.aaload, 1) := by decide +kernel
theorem dX6_shelvesUsed_15 : decode cX6_shelvesUsed 15 = .ok (.ifnull 9, 3) := by decide +kernel
theorem dX6_shelvesUsed_24 : decode cX6_shelvesUsed 24 = .ok (.iinc 2 1, 3) := by decide +kernel
theorem dX6_shelvesUsed_27 : decode cX6_shelvesUsed 27 = .ok (.goto (-23), 3) := by decide +kernel
theorem dX6_shelvesUsed_30 : decode cX6_shelvesUsed 30 = .ok (.iload_n 1, 1) := by decide +kernel
theorem dX6_shelvesUsed_31 : decode cX6_shelvesUsed 31 = .ok (.ireturn, 1) := by decide +kernel
theorem dX6_whyNotRow_0 : decode cX6_whyNotRow 0 = .ok (.aload_n 0, 1) := by decide +kernel
theorem dX6_whyNotRow_1 : decode cX6_whyNotRow 1 = .ok (.getfield 19, 3) := by decide +kernel
theorem dX6_whyNotRow_4 : decode cX6_whyNotRow 4 = .ok (.iload_n 1, 1) := by decide +kernel
theorem dX6_whyNotRow_5 : decode cX6_whyNotRow 5 = .ok (.invokevirtual 258, 3) := by decide +kernel
theorem dX6_whyNotRow_8 : decode cX6_whyNotRow 8 = .ok (.ifCond .ne 5, 3) := by decide +kernel
theorem dX6_whyNotRow_11 : decode cX6_whyNotRow 11 = .ok (.iconst (-1), 1) := by decide +kernel
theorem dX6_whyNotRow_12 : decode cX6_whyNotRow 12 = .ok (.ireturn, 1) := by decide +kernel
theorem dX6_tick_0 : decode cX6_tick 0 = .ok (.aload_n 0, 1) := by decide +kernel
theorem dX6_tick_1 : decode cX6_tick 1 = .ok (.getfield 19, 3) := by decide +kernel
theorem dX6_tick_4 : decode cX6_tick 4 = .ok (.invokevirtual 101, 3) := by decide +kernel
theorem dX6_tick_7 : decode cX6_tick 7 = .ok (.ifCond .eq 14, 3) := by decide +kernel
theorem dX6_tick_21 : decode cX6_tick 21 = .ok (.iconst (-1), 1) := by decide +kernel
theorem dX6_tick_22 : decode cX6_tick 22 = .ok (.ireturn, 1) := by decide +kernel
theorem dX6_settle_0 : decode cX6_settle 0 = .ok (.aload_n 0, 1) := by decide +kernel
theorem dX6_settle_1 : decode cX6_settle 1 = .ok (.getfield 19, 3) := by decide +kernel
theorem dX6_settle_4 : decode cX6_settle 4 = .ok (.invokevirtual 101, 3) := by decide +kernel
theorem dX6_settle_7 : decode cX6_settle 7 = .ok (.ifCond .ne 5, 3) := by decide +kernel
theorem dX6_settle_10 : decode cX6_settle 10 = .ok (.iconst (-1), 1) := by decide +kernel
theorem dX6_settle_11 : decode cX6_settle 11 = .ok (.ireturn, 1) := by decide +kernel
theorem dX6_lose_0 : decode cX6_lose 0 = .ok (.aload_n 0, 1) := by decide +kernel
theorem dX6_lose_1 : decode cX6_lose 1 = .ok (.getfield 19, 3) := by decide +kernel
theorem dX6_lose_4 : decode cX6_lose 4 = .ok (.iload_n 1, 1) := by decide +kernel
theorem dX6_lose_5 : decode cX6_lose 5 = .ok (.invokevirtual 118, 3) := by decide +kernel
theorem dX6_lose_8 : decode cX6_lose 8 = .ok (.ifCond .eq 13, 3) := by decide +kernel
theorem dX6_lose_21 : decode cX6_lose 21 = .ok (.iconst (-1), 1) := by decide +kernel
theorem dX6_lose_22 : decode cX6_lose 22 = .ok (.ireturn, 1) := by decide +kernel
theorem dX6_wear_0 : decode cX6_wear 0 = .ok (.aload_n 0, 1) := by decide +kernel
theorem dX6_wear_1 : decode cX6_wear 1 = .ok (.getfield 19, 3) := by decide +kernel
theorem dX6_wear_4 : decode cX6_wear 4 = .ok (.iload_n 1, 1) := by decide +kernel
theorem dX6_wear_5 : decode cX6_wear 5 = .ok (.iload_n 2, 1) := by decide +kernel
theorem dX6_wear_6 : decode cX6_wear 6 = .ok (.invokevirtual 130, 3) := by decide +kernel
theorem dX6_wear_9 : decode cX6_wear 9 = .ok (.ifCond .eq 7, 3) := by decide +kernel
theorem dX6_wear_16 : decode cX6_wear 16 = .ok (.iconst (-1), 1) := by decide +kernel
theorem dX6_wear_17 : decode cX6_wear 17 = .ok (.ireturn, 1) := by decide +kernel
theorem dX6_mend_0 : decode cX6_mend 0 = .ok (.aload_n 0, 1) := by decide +kernel
theorem dX6_mend_1 : decode cX6_mend 1 = .ok (.getfield 19, 3) := by decide +kernel
theorem dX6_mend_4 : decode cX6_mend 4 = .ok (.iload_n 1, 1) := by decide +kernel
theorem dX6_mend_5 : decode cX6_mend 5 = .ok (.iload_n 2, 1) := by decide +kernel
theorem dX6_mend_6 : decode cX6_mend 6 = .ok (.invokevirtual 130, 3) := by decide +kernel
theorem dX6_mend_9 : decode cX6_mend 9 = .ok (.ifCond .ne 5, 3) := by decide +kernel
theorem dX6_mend_12 : decode cX6_mend 12 = .ok (.iconst (-1), 1) := by decide +kernel
theorem dX6_mend_13 : decode cX6_mend 13 = .ok (.ireturn, 1) := by decide +kernel
theorem dX6_limit_0 : decode cX6_limit 0 = .ok (.aload_n 0, 1) := by decide +kernel
theorem dX6_limit_1 : decode cX6_limit 1 = .ok (.getfield 19, 3) := by decide +kernel
theorem dX6_limit_4 : decode cX6_limit 4 = .ok (.invokevirtual 101, 3) := by decide +kernel
theorem dX6_limit_7 : decode cX6_limit 7 = .ok (.ifCond .eq 14, 3) := by decide +kernel
theorem dX6_limit_21 : decode cX6_limit 21 = .ok (.iconst (-1), 1) := by decide +kernel
theorem dX6_limit_22 : decode cX6_limit 22 = .ok (.ireturn, 1) := by decide +kernel
theorem dX6_exchange_0 : decode cX6_exchange 0 = .ok (.aload_n 0, 1) := by decide +kernel
theorem dX6_exchange_1 : decode cX6_exchange 1 = .ok (.getfield 19, 3) := by decide +kernel
theorem dX6_exchange_4 : decode cX6_exchange 4 = .ok (.iload_n 1, 1) := by decide +kernel
theorem dX6_exchange_5 : decode cX6_exchange 5 = .ok (.iload_n 2, 1) := by decide +kernel
theorem dX6_exchange_6 : decode cX6_exchange 6 = .ok (.invokevirtual 149, 3) := by decide +kernel
theorem dX6_exchange_9 : decode cX6_exchange 9 = .ok (.ifCond .eq 20, 3) := by decide +kernel
theorem dX6_exchange_29 : decode cX6_exchange 29 = .ok (.iconst (-1), 1) := by decide +kernel
theorem dX6_exchange_30 : decode cX6_exchange 30 = .ok (.ireturn, 1) := by decide +kernel
theorem dX6_cell_0 : decode cX6_cell 0 = .ok (.aload_n 0, 1) := by decide +kernel
theorem dX6_cell_1 : decode cX6_cell 1 = .ok (.getfield 19, 3) := by decide +kernel
theorem dX6_cell_4 : decode cX6_cell 4 = .ok (.iload_n 1, 1) := by decide +kernel
theorem dX6_cell_5 : decode cX6_cell 5 = .ok (.invokevirtual 118, 3) := by decide +kernel
theorem dX6_cell_8 : decode cX6_cell 8 = .ok (.ifCond .ne 5, 3) := by decide +kernel
theorem dX6_cell_11 : decode cX6_cell 11 = .ok (.iconst (-1), 1) := by decide +kernel
theorem dX6_cell_12 : decode cX6_cell 12 = .ok (.ireturn, 1) := by decide +kernel
theorem dX6_drum_0 : decode cX6_drum 0 = .ok (.aload_n 0, 1) := by decide +kernel
theorem dX6_drum_1 : decode cX6_drum 1 = .ok (.getfield 19, 3) := by decide +kernel
theorem dX6_drum_4 : decode cX6_drum 4 = .ok (.iload_n 1, 1) := by decide +kernel
theorem dX6_drum_5 : decode cX6_drum 5 = .ok (.invokevirtual 236, 3) := by decide +kernel
theorem dX6_drum_8 : decode cX6_drum 8 = .ok (.ifCond .ne 5, 3) := by decide +kernel
theorem dX6_drum_11 : decode cX6_drum 11 = .ok (.iconst (-1), 1) := by decide +kernel
theorem dX6_drum_12 : decode cX6_drum 12 = .ok (.ireturn, 1) := by decide +kernel
theorem dX6_sign_0 : decode cX6_sign 0 = .ok (.aload_n 0, 1) := by decide +kernel
theorem dX6_sign_1 : decode cX6_sign 1 = .ok (.getfield 19, 3) := by decide +kernel
theorem dX6_sign_4 : decode cX6_sign 4 = .ok (.iload_n 1, 1) := by decide +kernel
theorem dX6_sign_5 : decode cX6_sign 5 = .ok (.iload_n 2, 1) := by decide +kernel
theorem dX6_sign_6 : decode cX6_sign 6 = .ok (.invokevirtual 254, 3) := by decide +kernel
theorem dX6_sign_9 : decode cX6_sign 9 = .ok (.ireturn, 1) := by decide +kernel
theorem dX6_at_0 : decode cX6_at 0 = .ok (.aload_n 0, 1) := by decide +kernel
theorem dX6_at_1 : decode cX6_at 1 = .ok (.getfield 19, 3) := by decide +kernel
theorem dX6_at_4 : decode cX6_at 4 = .ok (.iload_n 1, 1) := by decide +kernel
theorem dX6_at_5 : decode cX6_at 5 = .ok (.invokevirtual 258, 3) := by decide +kernel
theorem dX6_at_8 : decode cX6_at 8 = .ok (.ifCond .eq 18, 3) := by decide +kernel
theorem dX6_at_26 : decode cX6_at 26 = .ok (.iconst (-1), 1) := by decide +kernel
theorem dX6_at_27 : decode cX6_at 27 = .ok (.ireturn, 1) := by decide +kernel
theorem dX6_left_0 : decode cX6_left 0 = .ok (.aload_n 0, 1) := by decide +kernel
theorem dX6_left_1 : decode cX6_left 1 = .ok (.getfield 19, 3) := by decide +kernel
theorem dX6_left_4 : decode cX6_left 4 = .ok (.invokevirtual 101, 3) := by decide +kernel
theorem dX6_left_7 : decode cX6_left 7 = .ok (.ifCond .ne 5, 3) := by decide +kernel
theorem dX6_left_10 : decode cX6_left 10 = .ok (.iconst (-1), 1) := by decide +kernel
theorem dX6_left_11 : decode cX6_left 11 = .ok (.ireturn, 1) := by decide +kernel
theorem dX6_when_0 : decode cX6_when 0 = .ok (.aload_n 0, 1) := by decide +kernel
theorem dX6_when_1 : decode cX6_when 1 = .ok (.getfield 19, 3) := by decide +kernel
theorem dX6_when_4 : decode cX6_when 4 = .ok (.invokevirtual 101, 3) := by decide +kernel
theorem dX6_when_7 : decode cX6_when 7 = .ok (.ifCond .eq 12, 3) := by decide +kernel
theorem dX6_when_19 : decode cX6_when 19 = .ok (.iconst (-1), 1) := by decide +kernel
theorem dX6_when_20 : decode cX6_when 20 = .ok (.ireturn, 1) := by decide +kernel
theorem dX6_loudest_0 : decode cX6_loudest 0 = .ok (.aload_n 0, 1) := by decide +kernel
theorem dX6_loudest_1 : decode cX6_loudest 1 = .ok (.getfield 19, 3) := by decide +kernel
theorem dX6_loudest_4 : decode cX6_loudest 4 = .ok (.invokevirtual 101, 3) := by decide +kernel
theorem dX6_loudest_7 : decode cX6_loudest 7 = .ok (.ifCond .eq 12, 3) := by decide +kernel
theorem dX6_loudest_19 : decode cX6_loudest 19 = .ok (.iconst (-1), 1) := by decide +kernel
theorem dX6_loudest_20 : decode cX6_loudest 20 = .ok (.ireturn, 1) := by decide +kernel
theorem dX6_total_0 : decode cX6_total 0 = .ok (.aload_n 0, 1) := by decide +kernel
theorem dX6_total_1 : decode cX6_total 1 = .ok (.getfield 19, 3) := by decide +kernel
theorem dX6_total_4 : decode cX6_total 4 = .ok (.invokevirtual 101, 3) := by decide +kernel
theorem dX6_total_7 : decode cX6_total 7 = .ok (.ifCond .ne 5, 3) := by decide +kernel
theorem dX6_total_10 : decode cX6_total 10 = .ok (.iconst (-1), 1) := by decide +kernel
theorem dX6_total_11 : decode cX6_total 11 = .ok (.ireturn, 1) := by decide +kernel
theorem dX6_rests_0 : decode cX6_rests 0 = .ok (.aload_n 0, 1) := by decide +kernel
theorem dX6_rests_1 : decode cX6_rests 1 = .ok (.getfield 19, 3) := by decide +kernel
theorem dX6_rests_4 : decode cX6_rests 4 = .ok (.iload_n 1, 1) := by decide +kernel
theorem dX6_rests_5 : decode cX6_rests 5 = .ok (.invokevirtual 118, 3) := by decide +kernel
theorem dX6_rests_8 : decode cX6_rests 8 = .ok (.ifCond .ne 5, 3) := by decide +kernel
theorem dX6_rests_11 : decode cX6_rests 11 = .ok (.iconst (-1), 1) := by decide +kernel
theorem dX6_rests_12 : decode cX6_rests 12 = .ok (.ireturn, 1) := by decide +kernel
theorem dX6_cost_0 : decode cX6_cost 0 = .ok (.aload_n 0, 1) := by decide +kernel
theorem dX6_cost_1 : decode cX6_cost 1 = .ok (.iload_n 1, 1) := by decide +kernel
theorem dX6_cost_2 : decode cX6_cost 2 = .ok (.invokevirtual 83, 3) := by decide +kernel
theorem dX6_cost_5 : decode cX6_cost 5 = .ok (.istore_n 2, 1) := by decide +kernel
theorem dX6_cost_6 : decode cX6_cost 6 = .ok (.iload_n 2, 1) := by decide +kernel
theorem dX6_cost_7 : decode cX6_cost 7 = .ok (.ifCond .ne 27, 3) := by decide +kernel
theorem dX6_cost_34 : decode cX6_cost 34 = .ok (.iload_n 2, 1) := by decide +kernel
theorem dX6_cost_35 : decode cX6_cost 35 = .ok (.ireturn, 1) := by decide +kernel
theorem dX6_best_0 : decode cX6_best 0 = .ok (.aload_n 0, 1) := by decide +kernel
theorem dX6_best_1 : decode cX6_best 1 = .ok (.getfield 19, 3) := by decide +kernel
theorem dX6_best_4 : decode cX6_best 4 = .ok (.iload_n 1, 1) := by decide +kernel
theorem dX6_best_5 : decode cX6_best 5 = .ok (.invokevirtual 258, 3) := by decide +kernel
theorem dX6_best_8 : decode cX6_best 8 = .ok (.ifCond .eq 12, 3) := by decide +kernel
theorem dX6_best_20 : decode cX6_best 20 = .ok (.iconst (-1), 1) := by decide +kernel
theorem dX6_best_21 : decode cX6_best 21 = .ok (.ireturn, 1) := by decide +kernel
theorem dX6_place_0 : decode cX6_place 0 = .ok (.aload_n 0, 1) := by decide +kernel
theorem dX6_place_1 : decode cX6_place 1 = .ok (.getfield 19, 3) := by decide +kernel
theorem dX6_place_4 : decode cX6_place 4 = .ok (.iload_n 1, 1) := by decide +kernel
theorem dX6_place_5 : decode cX6_place 5 = .ok (.invokevirtual 258, 3) := by decide +kernel
theorem dX6_place_8 : decode cX6_place 8 = .ok (.ifCond .eq 12, 3) := by decide +kernel
theorem dX6_place_20 : decode cX6_place 20 = .ok (.iconst (-1), 1) := by decide +kernel
theorem dX6_place_21 : decode cX6_place 21 = .ok (.ireturn, 1) := by decide +kernel
theorem dX6_log_0 : decode cX6_log 0 = .ok (.aload_n 0, 1) := by decide +kernel
theorem dX6_log_1 : decode cX6_log 1 = .ok (.getfield 19, 3) := by decide +kernel
theorem dX6_log_4 : decode cX6_log 4 = .ok (.iload_n 1, 1) := by decide +kernel
theorem dX6_log_5 : decode cX6_log 5 = .ok (.invokevirtual 236, 3) := by decide +kernel
theorem dX6_log_8 : decode cX6_log 8 = .ok (.ifCond .ne 5, 3) := by decide +kernel
theorem dX6_log_11 : decode cX6_log 11 = .ok (.iconst (-1), 1) := by decide +kernel
theorem dX6_log_12 : decode cX6_log 12 = .ok (.ireturn, 1) := by decide +kernel
theorem dX6_usual_0 : decode cX6_usual 0 = .ok (.aload_n 0, 1) := by decide +kernel
theorem dX6_usual_1 : decode cX6_usual 1 = .ok (.getfield 19, 3) := by decide +kernel
theorem dX6_usual_4 : decode cX6_usual 4 = .ok (.iload_n 1, 1) := by decide +kernel
theorem dX6_usual_5 : decode cX6_usual 5 = .ok (.invokevirtual 236, 3) := by decide +kernel
theorem dX6_usual_8 : decode cX6_usual 8 = .ok (.ifCond .eq 12, 3) := by decide +kernel
theorem dX6_usual_20 : decode cX6_usual 20 = .ok (.iconst (-1), 1) := by decide +kernel
theorem dX6_usual_21 : decode cX6_usual 21 = .ok (.ireturn, 1) := by decide +kernel
theorem dX6_better_0 : decode cX6_better 0 = .ok (.aload_n 0, 1) := by decide +kernel
theorem dX6_better_1 : decode cX6_better 1 = .ok (.getfield 19, 3) := by decide +kernel
theorem dX6_better_4 : decode cX6_better 4 = .ok (.iload_n 1, 1) := by decide +kernel
theorem dX6_better_5 : decode cX6_better 5 = .ok (.invokevirtual 236, 3) := by decide +kernel
theorem dX6_better_8 : decode cX6_better 8 = .ok (.ifCond .eq 12, 3) := by decide +kernel
theorem dX6_better_20 : decode cX6_better 20 = .ok (.iconst (-1), 1) := by decide +kernel
theorem dX6_better_21 : decode cX6_better 21 = .ok (.ireturn, 1) := by decide +kernel
theorem dX6_farthest_0 : decode cX6_farthest 0 = .ok (.aload_n 0, 1) := by decide +kernel
theorem dX6_farthest_1 : decode cX6_farthest 1 = .ok (.getfield 19, 3) := by decide +kernel
theorem dX6_farthest_4 : decode cX6_farthest 4 = .ok (.iload_n 1, 1) := by decide +kernel
theorem dX6_farthest_5 : decode cX6_farthest 5 = .ok (.invokevirtual 118, 3) := by decide +kernel
theorem dX6_farthest_8 : decode cX6_farthest 8 = .ok (.ifCond .eq 12, 3) := by decide +kernel
theorem dX6_farthest_20 : decode cX6_farthest 20 = .ok (.iconst (-1), 1) := by decide +kernel
theorem dX6_farthest_21 : decode cX6_farthest 21 = .ok (.ireturn, 1) := by decide +kernel
theorem dX6_lacks_0 : decode cX6_lacks 0 = .ok (.aload_n 0, 1) := by decide +kernel
theorem dX6_lacks_1 : decode cX6_lacks 1 = .ok (.getfield 19, 3) := by decide +kernel
theorem dX6_lacks_4 : decode cX6_lacks 4 = .ok (.iload_n 1, 1) := by decide +kernel
theorem dX6_lacks_5 : decode cX6_lacks 5 = .ok (.invokevirtual 118, 3) := by decide +kernel
theorem dX6_lacks_8 : decode cX6_lacks 8 = .ok (.ifCond .eq 12, 3) := by decide +kernel
theorem dX6_lacks_20 : decode cX6_lacks 20 = .ok (.iconst (-1), 1) := by decide +kernel
theorem dX6_lacks_21 : decode cX6_lacks 21 = .ok (.ireturn, 1) := by decide +kernel
theorem dX6_unlike_0 : decode cX6_unlike 0 = .ok (.aload_n 0, 1) := by decide +kernel
theorem dX6_unlike_1 : decode cX6_unlike 1 = .ok (.getfield 19, 3) := by decide +kernel
theorem dX6_unlike_4 : decode cX6_unlike 4 = .ok (.iload_n 1, 1) := by decide +kernel
theorem dX6_unlike_5 : decode cX6_unlike 5 = .ok (.invokevirtual 258, 3) := by decide +kernel
theorem dX6_unlike_8 : decode cX6_unlike 8 = .ok (.ifCond .eq 19, 3) := by decide +kernel
theorem dX6_unlike_27 : decode cX6_unlike 27 = .ok (.iconst (-1), 1) := by decide +kernel
theorem dX6_unlike_28 : decode cX6_unlike 28 = .ok (.ireturn, 1) := by decide +kernel
theorem dX6_worn_0 : decode cX6_worn 0 = .ok (.aload_n 0, 1) := by decide +kernel
theorem dX6_worn_1 : decode cX6_worn 1 = .ok (.getfield 19, 3) := by decide +kernel
theorem dX6_worn_4 : decode cX6_worn 4 = .ok (.iload_n 1, 1) := by decide +kernel
theorem dX6_worn_5 : decode cX6_worn 5 = .ok (.invokevirtual 118, 3) := by decide +kernel
theorem dX6_worn_8 : decode cX6_worn 8 = .ok (.ifCond .eq 15, 3) := by decide +kernel
theorem dX6_worn_23 : decode cX6_worn 23 = .ok (.ldc2_w 234, 3) := by decide +kernel
theorem dX6_worn_26 : decode cX6_worn 26 = .ok (.lreturn, 1) := by decide +kernel
theorem dX6_which_0 : decode cX6_which 0 = .ok (.aload_n 0, 1) := by decide +kernel
theorem dX6_which_1 : decode cX6_which 1 = .ok (.getfield 19, 3) := by decide +kernel
theorem dX6_which_4 : decode cX6_which 4 = .ok (.invokevirtual 101, 3) := by decide +kernel
theorem dX6_which_7 : decode cX6_which 7 = .ok (.ifCond .eq 12, 3) := by decide +kernel
theorem dX6_which_19 : decode cX6_which 19 = .ok (.ldc2_w 234, 3) := by decide +kernel
theorem dX6_which_22 : decode cX6_which 22 = .ok (.lreturn, 1) := by decide +kernel
theorem dX6_often_0 : decode cX6_often 0 = .ok (.aload_n 0, 1) := by decide +kernel
theorem dX6_often_1 : decode cX6_often 1 = .ok (.getfield 19, 3) := by decide +kernel
theorem dX6_often_4 : decode cX6_often 4 = .ok (.iload_n 1, 1) := by decide +kernel
theorem dX6_often_5 : decode cX6_often 5 = .ok (.invokevirtual 236, 3) := by decide +kernel
theorem dX6_often_8 : decode cX6_often 8 = .ok (.ifCond .eq 19, 3) := by decide +kernel
theorem dX6_often_27 : decode cX6_often 27 = .ok (.iconst (-1), 1) := by decide +kernel
theorem dX6_often_28 : decode cX6_often 28 = .ok (.ireturn, 1) := by decide +kernel
theorem dX6_undo_0 : decode cX6_undo 0 = .ok (.aload_n 0, 1) := by decide +kernel
theorem dX6_undo_1 : decode cX6_undo 1 = .ok (.getfield 43, 3) := by decide +kernel
theorem dX6_undo_4 : decode cX6_undo 4 = .ok (.aload_n 0, 1) := by decide +kernel
theorem dX6_undo_5 : decode cX6_undo 5 = .ok (.getfield 19, 3) := by decide +kernel
theorem dX6_undo_8 : decode cX6_undo 8 = .ok (.invokevirtual 197, 3) := by decide +kernel
theorem dX6_undo_11 : decode cX6_undo 11 = .ok (.ifCond .eq 13, 3) := by decide +kernel
theorem dX6_undo_24 : decode cX6_undo 24 = .ok (.iconst (-1), 1) := by decide +kernel
theorem dX6_undo_25 : decode cX6_undo 25 = .ok (.ireturn, 1) := by decide +kernel
theorem dX6_digest_0 : decode cX6_digest 0 = .ok (.ldc2_w 373, 3) := by decide +kernel
theorem dX6_digest_3 : decode cX6_digest 3 = .ok (.lstore_n 1, 1) := by decide +kernel
theorem dX6_digest_4 : decode cX6_digest 4 = .ok (.iconst 0, 1) := by decide +kernel
theorem dX6_digest_5 : decode cX6_digest 5 = .ok (.istore_n 3, 1) := by decide +kernel
theorem dX6_digest_6 : decode cX6_digest 6 = .ok (.iload_n 3, 1) := by decide +kernel
theorem dX6_digest_7 : decode cX6_digest 7 = .ok (.aload_n 0, 1) := by decide +kernel
theorem dX6_digest_8 : decode cX6_digest 8 = .ok (.getfield 19, 3) := by decide +kernel
theorem dX6_digest_11 : decode cX6_digest 11 = .ok (.invokevirtual 207, 3) := by decide +kernel
theorem dX6_digest_14 : decode cX6_digest 14 = .ok (.if_icmp .ge 110, 3) := by decide +kernel
theorem dX6_digest_124 : decode cX6_digest 124 = .ok (.lload_n 1, 1) := by decide +kernel
theorem dX6_digest_125 : decode cX6_digest 125 = .ok (.lreturn, 1) := by decide +kernel
theorem dX6_end_0 : decode cX6_end 0 = .ok (.iload_n 1, 1) := by decide +kernel
theorem dX6_end_1 : decode cX6_end 1 = .ok (.ifCond .lt 14, 3) := by decide +kernel
theorem dX6_end_4 : decode cX6_end 4 = .ok (.iload_n 1, 1) := by decide +kernel
theorem dX6_end_5 : decode cX6_end 5 = .ok (.aload_n 0, 1) := by decide +kernel
theorem dX6_end_6 : decode cX6_end 6 = .ok (.getfield 10, 3) := by decide +kernel
theorem dX6_end_9 : decode cX6_end 9 = .ok (.getfield 51, 3) := by decide +kernel
theorem dX6_end_12 : decode cX6_end 12 = .ok (.if_icmp .le 5, 3) := by decide +kernel
theorem dX6_end_15 : decode cX6_end 15 = .ok (.iconst (-1), 1) := by decide +kernel
theorem dX6_end_16 : decode cX6_end 16 = .ok (.ireturn, 1) := by decide +kernel
theorem dX6_end_17 : decode cX6_end 17 = .ok (.aload_n 0, 1) := by decide +kernel
theorem dX6_end_18 : decode cX6_end 18 = .ok (.getfield 10, 3) := by decide +kernel
theorem dX6_end_21 : decode cX6_end 21 = .ok (.iload_n 1, 1) := by decide +kernel
theorem dX6_end_22 : decode cX6_end 22 = .ok (.putfield 51, 3) := by decide +kernel
theorem dX6_end_25 : decode cX6_end 25 = .ok (.iload_n 1, 1) := by decide +kernel
theorem dX6_end_26 : decode cX6_end 26 = .ok (.ireturn, 1) := by decide +kernel
theorem dX6_row_0 : decode cX6_row 0 = .ok (.aload_n 0, 1) := by decide +kernel
theorem dX6_row_1 : decode cX6_row 1 = .ok (.iload_n 1, 1) := by decide +kernel
theorem dX6_row_2 : decode cX6_row 2 = .ok (.invokevirtual 83, 3) := by decide +kernel
theorem dX6_row_5 : decode cX6_row 5 = .ok (.istore_n 2, 1) := by decide +kernel
theorem dX6_row_6 : decode cX6_row 6 = .ok (.iload_n 2, 1) := by decide +kernel
theorem dX6_row_7 : decode cX6_row 7 = .ok (.ifCond .ne 35, 3) := by decide +kernel
theorem dX6_row_42 : decode cX6_row 42 = .ok (.aload_n 0, 1) := by decide +kernel
theorem dX6_row_43 : decode cX6_row 43 = .ok (.getfield 10, 3) := by decide +kernel
theorem dX6_row_46 : decode cX6_row 46 = .ok (.iconst 0, 1) := by decide +kernel
theorem dX6_row_47 : decode cX6_row 47 = .ok (.putfield 51, 3) := by decide +kernel
theorem dX6_row_50 : decode cX6_row 50 = .ok (.iload_n 2, 1) := by decide +kernel
theorem dX6_row_51 : decode cX6_row 51 = .ok (.ireturn, 1) := by decide +kernel
theorem dX6_scroll_0 : decode cX6_scroll 0 = .ok (.aload_n 0, 1) := by decide +kernel
theorem dX6_scroll_1 : decode cX6_scroll 1 = .ok (.aload_n 0, 1) := by decide +kernel
theorem dX6_scroll_2 : decode cX6_scroll 2 = .ok (.getfield 19, 3) := by decide +kernel
theorem dX6_scroll_5 : decode cX6_scroll 5 = .ok (.getfield 94, 3) := by decide +kernel
theorem dX6_scroll_8 : decode cX6_scroll 8 = .ok (.iconst 1, 1) := by decide +kernel
theorem dX6_scroll_9 : decode cX6_scroll 9 = .ok (.isub, 1) := by decide +kernel
theorem dX6_scroll_10 : decode cX6_scroll 10 = .ok (.invokevirtual 83, 3) := by decide +kernel
theorem dX6_scroll_13 : decode cX6_scroll 13 = .ok (.istore_n 1, 1) := by decide +kernel
theorem dX6_scroll_14 : decode cX6_scroll 14 = .ok (.iload_n 1, 1) := by decide +kernel
theorem dX6_scroll_15 : decode cX6_scroll 15 = .ok (.ifCond .ne 34, 3) := by decide +kernel
theorem dX6_scroll_49 : decode cX6_scroll 49 = .ok (.aload_n 0, 1) := by decide +kernel
theorem dX6_scroll_50 : decode cX6_scroll 50 = .ok (.getfield 10, 3) := by decide +kernel
theorem dX6_scroll_53 : decode cX6_scroll 53 = .ok (.iconst 0, 1) := by decide +kernel
theorem dX6_scroll_54 : decode cX6_scroll 54 = .ok (.putfield 51, 3) := by decide +kernel
theorem dX6_scroll_57 : decode cX6_scroll 57 = .ok (.iload_n 1, 1) := by decide +kernel
theorem dX6_scroll_58 : decode cX6_scroll 58 = .ok (.ireturn, 1) := by decide +kernel
theorem dX6_whyNotProgram_0 : decode cX6_whyNotProgram 0 = .ok (.aload_n 0, 1) := by decide +kernel
theorem dX6_whyNotProgram_1 : decode cX6_whyNotProgram 1 = .ok (.getfield 19, 3) := by decide +kernel
theorem dX6_whyNotProgram_4 : decode cX6_whyNotProgram 4 = .ok (.invokevirtual 101, 3) := by decide +kernel
theorem dX6_whyNotProgram_7 : decode cX6_whyNotProgram 7 = .ok (.ifCond .ne 5, 3) := by decide +kernel
theorem dX6_whyNotProgram_10 : decode cX6_whyNotProgram 10 = .ok (.iconst (-1), 1) := by decide +kernel
theorem dX6_whyNotProgram_11 : decode cX6_whyNotProgram 11 = .ok (.ireturn, 1) := by decide +kernel
theorem dX6_run_0 : decode cX6_run 0 = .ok (.aload_n 0, 1) := by decide +kernel
theorem dX6_run_1 : decode cX6_run 1 = .ok (.invokevirtual 156, 3) := by decide +kernel
theorem dX6_run_4 : decode cX6_run 4 = .ok (.istore_n 1, 1) := by decide +kernel
theorem dX6_run_5 : decode cX6_run 5 = .ok (.iload_n 1, 1) := by decide +kernel
theorem dX6_run_6 : decode cX6_run 6 = .ok (.ifCond .ne 19, 3) := by decide +kernel
theorem dX6_run_25 : decode cX6_run 25 = .ok (.aload_n 0, 1) := by decide +kernel
theorem dX6_run_26 : decode cX6_run 26 = .ok (.getfield 10, 3) := by decide +kernel
theorem dX6_run_29 : decode cX6_run 29 = .ok (.iconst 0, 1) := by decide +kernel
theorem dX6_run_30 : decode cX6_run 30 = .ok (.putfield 51, 3) := by decide +kernel
theorem dX6_run_33 : decode cX6_run 33 = .ok (.iload_n 1, 1) := by decide +kernel
theorem dX6_run_34 : decode cX6_run 34 = .ok (.ireturn, 1) := by decide +kernel
theorem dX6_back_0 : decode cX6_back 0 = .ok (.iload_n 1, 1) := by decide +kernel
theorem dX6_back_1 : decode cX6_back 1 = .ok (.invokestatic 201, 3) := by decide +kernel
theorem dX6_back_4 : decode cX6_back 4 = .ok (.ifCond .ne 5, 3) := by decide +kernel
theorem dX6_back_7 : decode cX6_back 7 = .ok (.iconst (-1), 1) := by decide +kernel
theorem dX6_back_8 : decode cX6_back 8 = .ok (.ireturn, 1) := by decide +kernel
theorem dX6_back_9 : decode cX6_back 9 = .ok (.aload_n 0, 1) := by decide +kernel
theorem dX6_back_10 : decode cX6_back 10 = .ok (.getfield 47, 3) := by decide +kernel
theorem dX6_back_13 : decode cX6_back 13 = .ok (.iload_n 1, 1) := by decide +kernel
theorem dX6_back_14 : decode cX6_back 14 = .ok (.aaload, 1) := by decide +kernel
theorem dX6_back_15 : decode cX6_back 15 = .ok (.astore_n 2, 1) := by decide +kernel
theorem dX6_back_16 : decode cX6_back 16 = .ok (.aload_n 2, 1) := by decide +kernel
theorem dX6_back_17 : decode cX6_back 17 = .ok (.ifnonnull 6, 3) := by decide +kernel
theorem dX6_back_20 : decode cX6_back 20 = .ok (.bipush (-2), 2) := by decide +kernel
theorem dX6_back_22 : decode cX6_back 22 = .ok (.ireturn, 1) := by decide +kernel
theorem dX6_letter_0 : decode cX6_letter 0 = .ok (.iload_n 1, 1) := by decide +kernel
theorem dX6_letter_1 : decode cX6_letter 1 = .ok (.ifCond .lt 13, 3) := by decide +kernel
theorem dX6_letter_4 : decode cX6_letter 4 = .ok (.iload_n 1, 1) := by decide +kernel
theorem dX6_letter_5 : decode cX6_letter 5 = .ok (.iconst 1, 1) := by decide +kernel
theorem dX6_letter_6 : decode cX6_letter 6 = .ok (.if_icmp .gt 8, 3) := by decide +kernel
theorem dX6_letter_9 : decode cX6_letter 9 = .ok (.iload_n 2, 1) := by decide +kernel
theorem dX6_letter_10 : decode cX6_letter 10 = .ok (.iconst (-1), 1) := by decide +kernel
theorem dX6_letter_11 : decode cX6_letter 11 = .ok (.if_icmp .ge 5, 3) := by decide +kernel
theorem dX6_letter_14 : decode cX6_letter 14 = .ok (.iconst (-1), 1) := by decide +kernel
theorem dX6_letter_15 : decode cX6_letter 15 = .ok (.ireturn, 1) := by decide +kernel
theorem dX6_letter_16 : decode cX6_letter 16 = .ok (.aload_n 0, 1) := by decide +kernel
theorem dX6_letter_17 : decode cX6_letter 17 = .ok (.getfield 19, 3) := by decide +kernel
theorem dX6_letter_20 : decode cX6_letter 20 = .ok (.invokevirtual 101, 3) := by decide +kernel
theorem dX6_letter_23 : decode cX6_letter 23 = .ok (.ifCond .eq 23, 3) := by decide +kernel
theorem dX6_letter_46 : decode cX6_letter 46 = .ok (.iconst 0, 1) := by decide +kernel
theorem dX6_letter_47 : decode cX6_letter 47 = .ok (.istore_n 3, 1) := by decide +kernel
theorem dX6_letter_48 : decode cX6_letter 48 = .ok (.iload_n 2, 1) := by decide +kernel
theorem dX6_letter_49 : decode cX6_letter 49 = .ok (.iconst (-1), 1) := by decide +kernel
theorem dX6_letter_50 : decode cX6_letter 50 = .ok (.if_icmp .ne 5, 3) := by decide +kernel
theorem dX6_letter_53 : decode cX6_letter 53 = .ok (.iload_n 3, 1) := by decide +kernel
theorem dX6_letter_54 : decode cX6_letter 54 = .ok (.ireturn, 1) := by decide +kernel
theorem dX6_letter_55 : decode cX6_letter 55 = .ok (.iload_n 2, 1) := by decide +kernel
theorem dX6_letter_56 : decode cX6_letter 56 = .ok (.iload_n 3, 1) := by decide +kernel
theorem dX6_letter_57 : decode cX6_letter 57 = .ok (.if_icmp .lt 6, 3) := by decide +kernel
theorem dX6_letter_60 : decode cX6_letter 60 = .ok (.bipush (-2), 2) := by decide +kernel
theorem dX6_letter_62 : decode cX6_letter 62 = .ok (.ireturn, 1) := by decide +kernel
theorem dX6_feed_0 : decode cX6_feed 0 = .ok (.aload_n 0, 1) := by decide +kernel
theorem dX6_feed_1 : decode cX6_feed 1 = .ok (.getfield 10, 3) := by decide +kernel
theorem dX6_feed_4 : decode cX6_feed 4 = .ok (.getfield 51, 3) := by decide +kernel
theorem dX6_feed_7 : decode cX6_feed 7 = .ok (.bipush 20, 2) := by decide +kernel
theorem dX6_feed_9 : decode cX6_feed 9 = .ok (.iadd, 1) := by decide +kernel
theorem dX6_feed_10 : decode cX6_feed 10 = .ok (.sipush 400, 3) := by decide +kernel
theorem dX6_feed_13 : decode cX6_feed 13 = .ok (.if_icmp .le 5, 3) := by decide +kernel
theorem dX6_feed_18 : decode cX6_feed 18 = .ok (.aload_n 0, 1) := by decide +kernel
theorem dX6_feed_19 : decode cX6_feed 19 = .ok (.getfield 10, 3) := by decide +kernel
theorem dX6_feed_22 : decode cX6_feed 22 = .ok (.iload_n 1, 1) := by decide +kernel
theorem dX6_feed_23 : decode cX6_feed 23 = .ok (.invokevirtual 55, 3) := by decide +kernel
theorem dX6_feed_26 : decode cX6_feed 26 = .ok (.aload_n 0, 1) := by decide +kernel
theorem dX6_feed_27 : decode cX6_feed 27 = .ok (.getfield 10, 3) := by decide +kernel
theorem dX6_feed_30 : decode cX6_feed 30 = .ok (.iload_n 2, 1) := by decide +kernel
theorem dX6_feed_31 : decode cX6_feed 31 = .ok (.invokevirtual 55, 3) := by decide +kernel
theorem dX6_feed_34 : decode cX6_feed 34 = .ok (.aload_n 0, 1) := by decide +kernel
theorem dX6_feed_35 : decode cX6_feed 35 = .ok (.getfield 10, 3) := by decide +kernel
theorem dX6_feed_38 : decode cX6_feed 38 = .ok (.iload_n 3, 1) := by decide +kernel
theorem dX6_feed_39 : decode cX6_feed 39 = .ok (.invokevirtual 55, 3) := by decide +kernel
theorem dX6_feed_42 : decode cX6_feed 42 = .ok (.aload_n 0, 1) := by decide +kernel
theorem dX6_feed_43 : decode cX6_feed 43 = .ok (.getfield 10, 3) := by decide +kernel
theorem dX6_feed_46 : decode cX6_feed 46 = .ok (.iload 4, 2) := by decide +kernel
theorem dX6_feed_48 : decode cX6_feed 48 = .ok (.invokevirtual 55, 3) := by decide +kernel
theorem dX6_feed_51 : decode cX6_feed 51 = .ok (.aload_n 0, 1) := by decide +kernel
theorem dX6_feed_52 : decode cX6_feed 52 = .ok (.getfield 10, 3) := by decide +kernel
theorem dX6_feed_55 : decode cX6_feed 55 = .ok (.iload 5, 2) := by decide +kernel
theorem dX6_feed_57 : decode cX6_feed 57 = .ok (.invokevirtual 55, 3) := by decide +kernel
theorem dX6_feed_60 : decode cX6_feed 60 = .ok (.aload_n 0, 1) := by decide +kernel
theorem dX6_feed_61 : decode cX6_feed 61 = .ok (.getfield 10, 3) := by decide +kernel
theorem dX6_feed_64 : decode cX6_feed 64 = .ok (.getfield 51, 3) := by decide +kernel
theorem dX6_feed_67 : decode cX6_feed 67 = .ok (.ireturn, 1) := by decide +kernel
theorem dX6_count_0 : decode cX6_count 0 = .ok (.iload_n 1, 1) := by decide +kernel
theorem dX6_count_1 : decode cX6_count 1 = .ok (.tableswitch 131 0 8 #[51, 59, 67, 75, 83, 91, 99, 107, 112], 51) := by decide +kernel
theorem dX6_count_52 : decode cX6_count 52 = .ok (.aload_n 0, 1) := by decide +kernel
theorem dX6_count_53 : decode cX6_count 53 = .ok (.getfield 19, 3) := by decide +kernel
theorem dX6_count_56 : decode cX6_count 56 = .ok (.getfield 94, 3) := by decide +kernel
theorem dX6_count_59 : decode cX6_count 59 = .ok (.ireturn, 1) := by decide +kernel
theorem dX6_count_60 : decode cX6_count 60 = .ok (.aload_n 0, 1) := by decide +kernel
theorem dX6_count_61 : decode cX6_count 61 = .ok (.getfield 19, 3) := by decide +kernel
theorem dX6_count_64 : decode cX6_count 64 = .ok (.getfield 261, 3) := by decide +kernel
theorem dX6_count_67 : decode cX6_count 67 = .ok (.ireturn, 1) := by decide +kernel
theorem dX6_count_68 : decode cX6_count 68 = .ok (.aload_n 0, 1) := by decide +kernel
theorem dX6_count_69 : decode cX6_count 69 = .ok (.getfield 19, 3) := by decide +kernel
theorem dX6_count_72 : decode cX6_count 72 = .ok (.invokevirtual 207, 3) := by decide +kernel
theorem dX6_count_75 : decode cX6_count 75 = .ok (.ireturn, 1) := by decide +kernel
theorem dX6_count_76 : decode cX6_count 76 = .ok (.aload_n 0, 1) := by decide +kernel
theorem dX6_count_77 : decode cX6_count 77 = .ok (.getfield 19, 3) := by decide +kernel
theorem dX6_count_80 : decode cX6_count 80 = .ok (.getfield 146, 3) := by decide +kernel
theorem dX6_count_83 : decode cX6_count 83 = .ok (.ireturn, 1) := by decide +kernel
theorem dX6_count_84 : decode cX6_count 84 = .ok (.aload_n 0, 1) := by decide +kernel
theorem dX6_count_85 : decode cX6_count 85 = .ok (.getfield 19, 3) := by decide +kernel
theorem dX6_count_88 : decode cX6_count 88 = .ok (.getfield 80, 3) := by decide +kernel
theorem dX6_count_91 : decode cX6_count 91 = .ok (.ireturn, 1) := by decide +kernel
theorem dX6_count_92 : decode cX6_count 92 = .ok (.aload_n 0, 1) := by decide +kernel
theorem dX6_count_93 : decode cX6_count 93 = .ok (.getfield 43, 3) := by decide +kernel
theorem dX6_count_96 : decode cX6_count 96 = .ok (.getfield 79, 3) := by decide +kernel
theorem dX6_count_99 : decode cX6_count 99 = .ok (.ireturn, 1) := by decide +kernel
theorem dX6_count_100 : decode cX6_count 100 = .ok (.aload_n 0, 1) := by decide +kernel
theorem dX6_count_101 : decode cX6_count 101 = .ok (.getfield 10, 3) := by decide +kernel
theorem dX6_count_104 : decode cX6_count 104 = .ok (.getfield 51, 3) := by decide +kernel
theorem dX6_count_107 : decode cX6_count 107 = .ok (.ireturn, 1) := by decide +kernel
theorem dX6_count_108 : decode cX6_count 108 = .ok (.aload_n 0, 1) := by decide +kernel
theorem dX6_count_109 : decode cX6_count 109 = .ok (.invokevirtual 377, 3) := by decide +kernel
theorem dX6_count_112 : decode cX6_count 112 = .ok (.ireturn, 1) := by decide +kernel
theorem dX6_count_113 : decode cX6_count 113 = .ok (.aload_n 0, 1) := by decide +kernel
theorem dX6_count_114 : decode cX6_count 114 = .ok (.getfield 29, 3) := by decide +kernel
theorem dX6_count_117 : decode cX6_count 117 = .ok (.aload_n 0, 1) := by decide +kernel
theorem dX6_count_118 : decode cX6_count 118 = .ok (.getfield 19, 3) := by decide +kernel
theorem dX6_count_121 : decode cX6_count 121 = .ok (.invokevirtual 111, 3) := by decide +kernel
theorem dX6_count_124 : decode cX6_count 124 = .ok (.aload_n 0, 1) := by decide +kernel
theorem dX6_count_125 : decode cX6_count 125 = .ok (.getfield 29, 3) := by decide +kernel
theorem dX6_count_128 : decode cX6_count 128 = .ok (.getfield 114, 3) := by decide +kernel
theorem dX6_count_131 : decode cX6_count 131 = .ok (.ireturn, 1) := by decide +kernel
theorem dX6_count_132 : decode cX6_count 132 = .ok (.iconst (-1), 1) := by decide +kernel
theorem dX6_count_133 : decode cX6_count 133 = .ok (.ireturn, 1) := by decide +kernel
end
section
set_option maxHeartbeats 4000000 in
set_option maxRecDepth 100000 in
theorem ct_Board_isThere {l : Launch} {D : va_G} {q : Nat → ClassId} {h0 g0 g1 g2 g3 g4 g5 g6 g7 g8 g9 g10 g11 : Nat} : Met l yX0_isThere (Cond.code yX0_isThere cX0_isThere 1 (some .boolean) :: w_all) ({ frames := 0, cells := 0, slots := 0, locals := 0 }) (rd_P D q [.ref h0] [(h0, .inr (0, [.int 0, .int 0, .int 0, .int 0, .int 0, .int 0, .ref g0, .ref g1, .ref g2, .ref g3, .ref g4, .ref g5, .ref g6, .ref g7, .ref g8, .ref g9, .ref g10, .ref g11]))]) (vp_Si (fun r => r = 0)) 0 0 (fun _ => False) := by
  refine rd_start (by decide) (Nat.le_of_ble_eq_true rfl) ?_
  intro p e s m below meth c ls hx hb hr hml hown ht hk hP hQ hl
  have hK := hQ.1
  have hown : s.vm.findClass RX0 = some m.cls := hown
  have hl : lv_has ls 1 [(0, .ref h0)] := hl
  refine lv_aload_n hx hb dX0_isThere_0 rfl (lv_at hl 0 rfl) ?_
  refine fl_get (C := RX0) (T := TX0) (N := 18) (ci := 0) (v := .int 0) hx hb ht in_X0 hown hK hP 0 rfl rfl 0 (by decide) mw_167 rfl dX0_isThere_1 ?_
  refine lv_if_le (tgt := 11) hx hb dX0_isThere_4 (by decide) (fun c_1 => ?_) (fun c9 => absurd (by decide) c9)
  refine lv_iconst (v := 0) hx hb dX0_isThere_11 (by decide) ?_
  exact rd_zret hx hb hr hk rfl (rfl) dX0_isThere_12

set_option maxHeartbeats 4000000 in
set_option maxRecDepth 100000 in
theorem ct_Board_cells {l : Launch} {D : va_G} {q : Nat → ClassId} {h0 g0 g1 g2 g3 g4 g5 g6 g7 g8 g9 g10 g11 : Nat} : Met l yX0_cells (Cond.code yX0_cells cX0_cells 1 (some .int) :: w_all) ({ frames := 0, cells := 0, slots := 0, locals := 0 }) (rd_P D q [.ref h0] [(h0, .inr (0, [.int 0, .int 0, .int 0, .int 0, .int 0, .int 0, .ref g0, .ref g1, .ref g2, .ref g3, .ref g4, .ref g5, .ref g6, .ref g7, .ref g8, .ref g9, .ref g10, .ref g11]))]) (vp_Si (fun r => r = 0)) 0 0 (fun _ => False) := by
  refine rd_start (by decide) (Nat.le_of_ble_eq_true rfl) ?_
  intro p e s m below meth c ls hx hb hr hml hown ht hk hP hQ hl
  have hK := hQ.1
  have hown : s.vm.findClass RX0 = some m.cls := hown
  have hl : lv_has ls 1 [(0, .ref h0)] := hl
  refine lv_aload_n hx hb dX0_cells_0 rfl (lv_at hl 0 rfl) ?_
  refine fl_get (C := RX0) (T := TX0) (N := 18) (ci := 0) (v := .int 0) hx hb ht in_X0 hown hK hP 0 rfl rfl 0 (by decide) mw_167 rfl dX0_cells_1 ?_
  refine lv_aload_n hx hb dX0_cells_4 rfl (lv_at hl 0 rfl) ?_
  refine fl_get (C := RX0) (T := TX0) (N := 18) (ci := 0) (v := .int 0) hx hb ht in_X0 hown hK hP 0 rfl rfl 1 (by decide) mw_171 rfl dX0_cells_5 ?_
  refine lv_imul hx hb dX0_cells_8 ?_
  refine ab_i (v := 0) (by decide) ?_
  exact rd_iret hx hb hr hk (rfl) dX0_cells_9

set_option maxHeartbeats 4000000 in
set_option maxRecDepth 100000 in
theorem ct_Board_hasCell {l : Launch} {D : va_G} {q : Nat → ClassId} {h0 g0 g1 g2 g3 g4 g5 g6 g7 g8 g9 g10 g11 : Nat} {x : Int32} : Met l yX0_hasCell (Cond.code yX0_hasCell cX0_hasCell 2 (some .boolean) :: w_all) ({ frames := 1, cells := 0, slots := 0, locals := 20 }) (rd_P D q [.ref h0, .int x] [(h0, .inr (0, [.int 0, .int 0, .int 0, .int 0, .int 0, .int 0, .ref g0, .ref g1, .ref g2, .ref g3, .ref g4, .ref g5, .ref g6, .ref g7, .ref g8, .ref g9, .ref g10, .ref g11]))]) (vp_Si (fun r => r = 0)) 0 0 (fun _ => False) := by
  refine rd_start (by decide) (Nat.le_of_ble_eq_true rfl) ?_
  intro p e s m below meth c ls hx hb hr hml hown ht hk hP hQ hl
  have hK := hQ.1
  have hown : s.vm.findClass RX0 = some m.cls := hown
  have hl : lv_has ls 2 [(0, .ref h0), (1, .int x)] := hl
  refine lv_iload_n hx hb dX0_hasCell_0 rfl (lv_at hl 1 rfl) ?_
  refine lv_if_lt (tgt := 16) hx hb dX0_hasCell_1 (by decide) (fun c_1 => ?_) (fun c_1 => ?_)
  · refine lv_iconst (v := 0) hx hb dX0_hasCell_16 (by decide) ?_
    exact rd_zret hx hb hr hk rfl (rfl) dX0_hasCell_17
  · refine lv_iload_n hx hb dX0_hasCell_4 rfl (lv_at hl 1 rfl) ?_
    refine lv_aload_n hx hb dX0_hasCell_5 rfl (lv_at hl 0 rfl) ?_
    refine vp_callSi (rd_wV (wc := [(h0, .inr (0, [.int 0, .int 0, .int 0, .int 0, .int 0, .int 0, .ref g0, .ref g1, .ref g2, .ref g3, .ref g4, .ref g5, .ref g6, .ref g7, .ref g8, .ref g9, .ref g10, .ref g11]))]) (As := []) (rest := [.int x]) hx hb hml hown ht (ct_Board_cells) wd_X0_cells mw_588 hQ (hP.sub [0] rfl) rfl rfl rfl hl.1 rfl (Nat.le_of_ble_eq_true rfl) dX0_hasCell_6 ⟨Nat.le_of_ble_eq_true rfl, Nat.le_of_ble_eq_true rfl, rfl, rfl⟩ ⟨Nat.le_of_ble_eq_true rfl, Nat.le_of_ble_eq_true rfl⟩) (fun r_2 er_2 => ?_)
    obtain rfl : r_2 = 0 := er_2
    refine lv_icmp_ge (tgt := 16) hx hb dX0_hasCell_9 (by decide) (fun c_3 => ?_) (fun c9 => by have g0 := c_1; have g1 := c9; (try simp only [lg_cmp_ge, lg_cmp_le, lg_cmp_gt, lg_cmp_lt, lg_cmp_eq] at g0 g1); (try simp only [Int32.lt_iff_toInt_lt, Int32.le_iff_toInt_le, ← Int32.toInt_inj, Int32.reduceToInt, Int64.lt_iff_toInt_lt, Int64.le_iff_toInt_le, ← Int64.toInt_inj, Int64.reduceToInt, Int32.toInt_toInt64] at g0 g1); omega)
    refine lv_iconst (v := 0) hx hb dX0_hasCell_16 (by decide) ?_
    exact rd_zret hx hb hr hk rfl (rfl) dX0_hasCell_17

set_option maxHeartbeats 4000000 in
set_option maxRecDepth 100000 in
theorem ct_Board_hasRow {l : Launch} {D : va_G} {q : Nat → ClassId} {h0 g0 g1 g2 g3 g4 g5 g6 g7 g8 g9 g10 g11 : Nat} {x : Int32} : Met l yX0_hasRow (Cond.code yX0_hasRow cX0_hasRow 2 (some .boolean) :: w_all) ({ frames := 0, cells := 0, slots := 0, locals := 0 }) (rd_P D q [.ref h0, .int x] [(h0, .inr (0, [.int 0, .int 0, .int 0, .int 0, .int 0, .int 0, .ref g0, .ref g1, .ref g2, .ref g3, .ref g4, .ref g5, .ref g6, .ref g7, .ref g8, .ref g9, .ref g10, .ref g11]))]) (vp_Si (fun r => r = 0)) 0 0 (fun _ => False) := by
  refine rd_start (by decide) (Nat.le_of_ble_eq_true rfl) ?_
  intro p e s m below meth c ls hx hb hr hml hown ht hk hP hQ hl
  have hK := hQ.1
  have hown : s.vm.findClass RX0 = some m.cls := hown
  have hl : lv_has ls 2 [(0, .ref h0), (1, .int x)] := hl
  refine lv_iload_n hx hb dX0_hasRow_0 rfl (lv_at hl 1 rfl) ?_
  refine lv_if_lt (tgt := 16) hx hb dX0_hasRow_1 (by decide) (fun c_1 => ?_) (fun c_1 => ?_)
  · refine lv_iconst (v := 0) hx hb dX0_hasRow_16 (by decide) ?_
    exact rd_zret hx hb hr hk rfl (rfl) dX0_hasRow_17
  · refine lv_iload_n hx hb dX0_hasRow_4 rfl (lv_at hl 1 rfl) ?_
    refine lv_aload_n hx hb dX0_hasRow_5 rfl (lv_at hl 0 rfl) ?_
    refine fl_get (C := RX0) (T := TX0) (N := 18) (ci := 0) (v := .int 0) hx hb ht in_X0 hown hK hP 0 rfl rfl 0 (by decide) mw_167 rfl dX0_hasRow_6 ?_
    refine lv_icmp_ge (tgt := 16) hx hb dX0_hasRow_9 (by decide) (fun c_2 => ?_) (fun c9 => by have g0 := c_1; have g1 := c9; (try simp only [lg_cmp_ge, lg_cmp_le, lg_cmp_gt, lg_cmp_lt, lg_cmp_eq] at g0 g1); (try simp only [Int32.lt_iff_toInt_lt, Int32.le_iff_toInt_le, ← Int32.toInt_inj, Int32.reduceToInt, Int64.lt_iff_toInt_lt, Int64.le_iff_toInt_le, ← Int64.toInt_inj, Int64.reduceToInt, Int32.toInt_toInt64] at g0 g1); omega)
    refine lv_iconst (v := 0) hx hb dX0_hasRow_16 (by decide) ?_
    exact rd_zret hx hb hr hk rfl (rfl) dX0_hasRow_17

set_option maxHeartbeats 4000000 in
set_option maxRecDepth 100000 in
theorem ct_Board_hasDrum {l : Launch} {D : va_G} {q : Nat → ClassId} {h0 g0 g1 g2 g3 g4 g5 g6 g7 g8 g9 g10 g11 : Nat} {x : Int32} : Met l yX0_hasDrum (Cond.code yX0_hasDrum cX0_hasDrum 2 (some .boolean) :: w_all) ({ frames := 0, cells := 0, slots := 0, locals := 0 }) (rd_P D q [.ref h0, .int x] [(h0, .inr (0, [.int 0, .int 0, .int 0, .int 0, .int 0, .int 0, .ref g0, .ref g1, .ref g2, .ref g3, .ref g4, .ref g5, .ref g6, .ref g7, .ref g8, .ref g9, .ref g10, .ref g11]))]) (vp_Si (fun r => r = 0)) 0 0 (fun _ => False) := by
  refine rd_start (by decide) (Nat.le_of_ble_eq_true rfl) ?_
  intro p e s m below meth c ls hx hb hr hml hown ht hk hP hQ hl
  have hK := hQ.1
  have hown : s.vm.findClass RX0 = some m.cls := hown
  have hl : lv_has ls 2 [(0, .ref h0), (1, .int x)] := hl
  refine lv_iload_n hx hb dX0_hasDrum_0 rfl (lv_at hl 1 rfl) ?_
  refine lv_if_lt (tgt := 16) hx hb dX0_hasDrum_1 (by decide) (fun c_1 => ?_) (fun c_1 => ?_)
  · refine lv_iconst (v := 0) hx hb dX0_hasDrum_16 (by decide) ?_
    exact rd_zret hx hb hr hk rfl (rfl) dX0_hasDrum_17
  · refine lv_iload_n hx hb dX0_hasDrum_4 rfl (lv_at hl 1 rfl) ?_
    refine lv_aload_n hx hb dX0_hasDrum_5 rfl (lv_at hl 0 rfl) ?_
    refine fl_get (C := RX0) (T := TX0) (N := 18) (ci := 0) (v := .int 0) hx hb ht in_X0 hown hK hP 0 rfl rfl 3 (by decide) mw_179 rfl dX0_hasDrum_6 ?_
    refine lv_icmp_ge (tgt := 16) hx hb dX0_hasDrum_9 (by decide) (fun c_2 => ?_) (fun c9 => by have g0 := c_1; have g1 := c9; (try simp only [lg_cmp_ge, lg_cmp_le, lg_cmp_gt, lg_cmp_lt, lg_cmp_eq] at g0 g1); (try simp only [Int32.lt_iff_toInt_lt, Int32.le_iff_toInt_le, ← Int32.toInt_inj, Int32.reduceToInt, Int64.lt_iff_toInt_lt, Int64.le_iff_toInt_le, ← Int64.toInt_inj, Int64.reduceToInt, Int32.toInt_toInt64] at g0 g1); omega)
    refine lv_iconst (v := 0) hx hb dX0_hasDrum_16 (by decide) ?_
    exact rd_zret hx hb hr hk rfl (rfl) dX0_hasDrum_17

set_option maxHeartbeats 4000000 in
set_option maxRecDepth 100000 in
theorem ct_Board_hasFlap {l : Launch} {D : va_G} {q : Nat → ClassId} {h0 g0 g1 g2 g3 g4 g5 g6 g7 g8 g9 g10 g11 : Nat} {x y : Int32} : Met l yX0_hasFlap (Cond.code yX0_hasFlap cX0_hasFlap 3 (some .boolean) :: w_all) ({ frames := 2, cells := 0, slots := 0, locals := 41 }) (rd_P D q [.ref h0, .int x, .int y] [(h0, .inr (0, [.int 0, .int 0, .int 0, .int 0, .int 0, .int 0, .ref g0, .ref g1, .ref g2, .ref g3, .ref g4, .ref g5, .ref g6, .ref g7, .ref g8, .ref g9, .ref g10, .ref g11]))]) (vp_Si (fun r => r = 0)) 0 0 (fun _ => False) := by
  refine rd_start (by decide) (Nat.le_of_ble_eq_true rfl) ?_
  intro p e s m below meth c ls hx hb hr hml hown ht hk hP hQ hl
  have hK := hQ.1
  have hown : s.vm.findClass RX0 = some m.cls := hown
  have hl : lv_has ls 3 [(0, .ref h0), (1, .int x), (2, .int y)] := hl
  refine lv_aload_n hx hb dX0_hasFlap_0 rfl (lv_at hl 0 rfl) ?_
  refine lv_iload_n hx hb dX0_hasFlap_1 rfl (lv_at hl 1 rfl) ?_
  refine vp_callSi (rd_wV (wc := [(h0, .inr (0, [.int 0, .int 0, .int 0, .int 0, .int 0, .int 0, .ref g0, .ref g1, .ref g2, .ref g3, .ref g4, .ref g5, .ref g6, .ref g7, .ref g8, .ref g9, .ref g10, .ref g11]))]) (As := [.int x]) (rest := []) hx hb hml hown ht (ct_Board_hasCell) wd_X0_hasCell mw_584 hQ (hP.sub [0] rfl) rfl rfl rfl hl.1 rfl (Nat.le_of_ble_eq_true rfl) dX0_hasFlap_2 ⟨Nat.le_of_ble_eq_true rfl, Nat.le_of_ble_eq_true rfl, rfl, rfl⟩ ⟨Nat.le_of_ble_eq_true rfl, Nat.le_of_ble_eq_true rfl⟩) (fun r_1 er_1 => ?_)
  obtain rfl : r_1 = 0 := er_1
  refine lv_if_eq (tgt := 25) hx hb dX0_hasFlap_5 (by decide) (fun c_2 => ?_) (fun c9 => absurd (by decide) c9)
  refine lv_iconst (v := 0) hx hb dX0_hasFlap_25 (by decide) ?_
  exact rd_zret hx hb hr hk rfl (rfl) dX0_hasFlap_26

set_option maxHeartbeats 4000000 in
set_option maxRecDepth 100000 in
theorem ct_Board_flapsOn {l : Launch} {D : va_G} {q : Nat → ClassId} {h0 g0 g1 g2 g3 g4 g5 g6 g7 g8 g9 g10 g11 : Nat} {x : Int32} : Met l yX0_flapsOn (Cond.code yX0_flapsOn cX0_flapsOn 2 (some .int) :: w_all) ({ frames := 0, cells := 0, slots := 0, locals := 0 }) (rd_P D q [.ref h0, .int x] [(h0, .inr (0, [.int 0, .int 0, .int 0, .int 0, .int 0, .int 0, .ref g0, .ref g1, .ref g2, .ref g3, .ref g4, .ref g5, .ref g6, .ref g7, .ref g8, .ref g9, .ref g10, .ref g11]))]) (vp_Si (fun r => r = 0)) 0 0 (fun _ => False) := by
  refine rd_start (by decide) (Nat.le_of_ble_eq_true rfl) ?_
  intro p e s m below meth c ls hx hb hr hml hown ht hk hP hQ hl
  have hK := hQ.1
  have hown : s.vm.findClass RX0 = some m.cls := hown
  have hl : lv_has ls 2 [(0, .ref h0), (1, .int x)] := hl
  refine lv_iload_n hx hb dX0_flapsOn_0 rfl (lv_at hl 1 rfl) ?_
  refine lv_if_lt (tgt := 21) hx hb dX0_flapsOn_1 (by decide) (fun c_1 => ?_) (fun c_1 => ?_)
  · refine lv_iconst (v := 0) hx hb dX0_flapsOn_21 (by decide) ?_
    exact rd_iret hx hb hr hk (rfl) dX0_flapsOn_22
  · refine lv_iload_n hx hb dX0_flapsOn_4 rfl (lv_at hl 1 rfl) ?_
    refine lv_aload_n hx hb dX0_flapsOn_5 rfl (lv_at hl 0 rfl) ?_
    refine fl_get (C := RX0) (T := TX0) (N := 18) (ci := 0) (v := .int 0) hx hb ht in_X0 hown hK hP 0 rfl rfl 3 (by decide) mw_179 rfl dX0_flapsOn_6 ?_
    refine lv_icmp_ge (tgt := 21) hx hb dX0_flapsOn_9 (by decide) (fun c_2 => ?_) (fun c9 => by have g0 := c_1; have g1 := c9; (try simp only [lg_cmp_ge, lg_cmp_le, lg_cmp_gt, lg_cmp_lt, lg_cmp_eq] at g0 g1); (try simp only [Int32.lt_iff_toInt_lt, Int32.le_iff_toInt_le, ← Int32.toInt_inj, Int32.reduceToInt, Int64.lt_iff_toInt_lt, Int64.le_iff_toInt_le, ← Int64.toInt_inj, Int64.reduceToInt, Int32.toInt_toInt64] at g0 g1); omega)
    refine lv_iconst (v := 0) hx hb dX0_flapsOn_21 (by decide) ?_
    exact rd_iret hx hb hr hk (rfl) dX0_flapsOn_22

set_option maxHeartbeats 4000000 in
set_option maxRecDepth 100000 in
theorem ct_Board_isMovable {l : Launch} {D : va_G} {q : Nat → ClassId} {h0 g0 g1 g2 g3 g4 g5 g6 g7 g8 g9 g10 g11 : Nat} {x y : Int32} : Met l yX0_isMovable (Cond.code yX0_isMovable cX0_isMovable 3 (some .boolean) :: w_all) ({ frames := 1, cells := 0, slots := 0, locals := 21 }) (rd_P D q [.ref h0, .int x, .int y] [(h0, .inr (0, [.int 0, .int 0, .int 0, .int 0, .int 0, .int 0, .ref g0, .ref g1, .ref g2, .ref g3, .ref g4, .ref g5, .ref g6, .ref g7, .ref g8, .ref g9, .ref g10, .ref g11]))]) (vp_Si (fun r => r = 0)) 0 0 (fun _ => False) := by
  refine rd_start (by decide) (Nat.le_of_ble_eq_true rfl) ?_
  intro p e s m below meth c ls hx hb hr hml hown ht hk hP hQ hl
  have hK := hQ.1
  have hown : s.vm.findClass RX0 = some m.cls := hown
  have hl : lv_has ls 3 [(0, .ref h0), (1, .int x), (2, .int y)] := hl
  refine lv_iload_n hx hb dX0_isMovable_0 rfl (lv_at hl 2 rfl) ?_
  refine lv_if_le (tgt := 17) hx hb dX0_isMovable_1 (by decide) (fun c_1 => ?_) (fun c_1 => ?_)
  · refine lv_iconst (v := 0) hx hb dX0_isMovable_17 (by decide) ?_
    exact rd_zret hx hb hr hk rfl (rfl) dX0_isMovable_18
  · refine lv_iload_n hx hb dX0_isMovable_4 rfl (lv_at hl 2 rfl) ?_
    refine lv_aload_n hx hb dX0_isMovable_5 rfl (lv_at hl 0 rfl) ?_
    refine lv_iload_n hx hb dX0_isMovable_6 rfl (lv_at hl 1 rfl) ?_
    refine vp_callSi (rd_wV (wc := [(h0, .inr (0, [.int 0, .int 0, .int 0, .int 0, .int 0, .int 0, .ref g0, .ref g1, .ref g2, .ref g3, .ref g4, .ref g5, .ref g6, .ref g7, .ref g8, .ref g9, .ref g10, .ref g11]))]) (As := [.int x]) (rest := [.int y]) hx hb hml hown ht (ct_Board_flapsOn) wd_X0_flapsOn mw_772 hQ (hP.sub [0] rfl) rfl rfl rfl hl.1 rfl (Nat.le_of_ble_eq_true rfl) dX0_isMovable_7 ⟨Nat.le_of_ble_eq_true rfl, Nat.le_of_ble_eq_true rfl, rfl, rfl⟩ ⟨Nat.le_of_ble_eq_true rfl, Nat.le_of_ble_eq_true rfl⟩) (fun r_2 er_2 => ?_)
    obtain rfl : r_2 = 0 := er_2
    refine lv_icmp_ge (tgt := 17) hx hb dX0_isMovable_10 (by decide) (fun c_3 => ?_) (fun c9 => by have g0 := c_1; have g1 := c9; (try simp only [lg_cmp_ge, lg_cmp_le, lg_cmp_gt, lg_cmp_lt, lg_cmp_eq] at g0 g1); (try simp only [Int32.lt_iff_toInt_lt, Int32.le_iff_toInt_le, ← Int32.toInt_inj, Int32.reduceToInt, Int64.lt_iff_toInt_lt, Int64.le_iff_toInt_le, ← Int64.toInt_inj, Int64.reduceToInt, Int32.toInt_toInt64] at g0 g1); omega)
    refine lv_iconst (v := 0) hx hb dX0_isMovable_17 (by decide) ?_
    exact rd_zret hx hb hr hk rfl (rfl) dX0_isMovable_18

set_option maxHeartbeats 4000000 in
set_option maxRecDepth 100000 in
theorem ct_Board_signOf {l : Launch} {D : va_G} {q : Nat → ClassId} {h0 g0 g1 g2 g3 g4 g5 g6 g7 g8 g9 g10 g11 : Nat} {x y : Int32} : Met l yX0_signOf (Cond.code yX0_signOf cX0_signOf 3 (some .int) :: w_all) ({ frames := 0, cells := 0, slots := 0, locals := 0 }) (rd_P D q [.ref h0, .int x, .int y] [(h0, .inr (0, [.int 0, .int 0, .int 0, .int 0, .int 0, .int 0, .ref g0, .ref g1, .ref g2, .ref g3, .ref g4, .ref g5, .ref g6, .ref g7, .ref g8, .ref g9, .ref g10, .ref g11]))]) (vp_Si (fun r => r = (-1))) 0 0 (fun _ => False) := by
  refine rd_start (by decide) (Nat.le_of_ble_eq_true rfl) ?_
  intro p e s m below meth c ls hx hb hr hml hown ht hk hP hQ hl
  have hK := hQ.1
  have hown : s.vm.findClass RX0 = some m.cls := hown
  have hl : lv_has ls 3 [(0, .ref h0), (1, .int x), (2, .int y)] := hl
  refine lv_iload_n hx hb dX0_signOf_0 rfl (lv_at hl 1 rfl) ?_
  refine lv_if_lt (tgt := 26) hx hb dX0_signOf_1 (by decide) (fun c_1 => ?_) (fun c_1 => ?_)
  · refine lv_iconst (v := (-1)) hx hb dX0_signOf_26 (by decide) ?_
    exact rd_iret hx hb hr hk (rfl) dX0_signOf_27
  · refine lv_iload_n hx hb dX0_signOf_4 rfl (lv_at hl 1 rfl) ?_
    refine lv_aload_n hx hb dX0_signOf_5 rfl (lv_at hl 0 rfl) ?_
    refine fl_get (C := RX0) (T := TX0) (N := 18) (ci := 0) (v := .int 0) hx hb ht in_X0 hown hK hP 0 rfl rfl 3 (by decide) mw_179 rfl dX0_signOf_6 ?_
    refine lv_icmp_ge (tgt := 26) hx hb dX0_signOf_9 (by decide) (fun c_2 => ?_) (fun c9 => by have g0 := c_1; have g1 := c9; (try simp only [lg_cmp_ge, lg_cmp_le, lg_cmp_gt, lg_cmp_lt, lg_cmp_eq] at g0 g1); (try simp only [Int32.lt_iff_toInt_lt, Int32.le_iff_toInt_le, ← Int32.toInt_inj, Int32.reduceToInt, Int64.lt_iff_toInt_lt, Int64.le_iff_toInt_le, ← Int64.toInt_inj, Int64.reduceToInt, Int32.toInt_toInt64] at g0 g1); omega)
    refine lv_iconst (v := (-1)) hx hb dX0_signOf_26 (by decide) ?_
    exact rd_iret hx hb hr hk (rfl) dX0_signOf_27

set_option maxHeartbeats 4000000 in
set_option maxRecDepth 100000 in
theorem ct_isShelf_T {l : Launch} {D : va_G} {q : Nat → ClassId} {x : Int32} (h : 0 ≤ x ∧ x ≤ 1) : Met l yX6_isShelf (Cond.code yX6_isShelf cX6_isShelf 1 (some .boolean) :: w_all) ({ frames := 0, cells := 0, slots := 0, locals := 0 }) (rd_P D q [.int x] []) (vp_Si (fun r => r = 1)) 0 0 (fun _ => False) := by
  refine rd_start (by decide) (Nat.le_of_ble_eq_true rfl) ?_
  intro p e s m below meth c ls hx hb hr hml hown ht hk hP hQ hl
  have hK := hQ.1
  have hown : s.vm.findClass RX6 = some m.cls := hown
  have hl : lv_has ls 1 [(0, .int x)] := hl
  refine lv_iload_n hx hb dX6_isShelf_0 rfl (lv_at hl 0 rfl) ?_
  refine lv_if_lt (tgt := 13) hx hb dX6_isShelf_1 (by decide) (fun c9 => by have g0 := h; have g1 := c9; simp only [Int32.lt_iff_toInt_lt, Int32.le_iff_toInt_le, ← Int32.toInt_inj, Int32.reduceToInt, Int64.lt_iff_toInt_lt, Int64.le_iff_toInt_le, ← Int64.toInt_inj, Int64.reduceToInt, Int32.toInt_toInt64] at g0 g1; omega) (fun c_1 => ?_)
  refine lv_iload_n hx hb dX6_isShelf_4 rfl (lv_at hl 0 rfl) ?_
  refine lv_iconst (v := 2) hx hb dX6_isShelf_5 (by decide) ?_
  refine lv_icmp_ge (tgt := 13) hx hb dX6_isShelf_6 (by decide) (fun c9 => by have g0 := h; have g1 := c9; simp only [Int32.lt_iff_toInt_lt, Int32.le_iff_toInt_le, ← Int32.toInt_inj, Int32.reduceToInt, Int64.lt_iff_toInt_lt, Int64.le_iff_toInt_le, ← Int64.toInt_inj, Int64.reduceToInt, Int32.toInt_toInt64] at g0 g1; omega) (fun c_2 => ?_)
  refine lv_iconst (v := 1) hx hb dX6_isShelf_9 (by decide) ?_
  refine lv_goto (tgt := 14) hx hb dX6_isShelf_10 (by decide) ?_
  exact rd_zret hx hb hr hk rfl (rfl) dX6_isShelf_14

set_option maxHeartbeats 4000000 in
set_option maxRecDepth 100000 in
theorem ct_isShelf_F {l : Launch} {D : va_G} {q : Nat → ClassId} {x : Int32} (h : ¬ (0 ≤ x ∧ x ≤ 1)) : Met l yX6_isShelf (Cond.code yX6_isShelf cX6_isShelf 1 (some .boolean) :: w_all) ({ frames := 0, cells := 0, slots := 0, locals := 0 }) (rd_P D q [.int x] []) (vp_Si (fun r => r = 0)) 0 0 (fun _ => False) := by
  refine rd_start (by decide) (Nat.le_of_ble_eq_true rfl) ?_
  intro p e s m below meth c ls hx hb hr hml hown ht hk hP hQ hl
  have hK := hQ.1
  have hown : s.vm.findClass RX6 = some m.cls := hown
  have hl : lv_has ls 1 [(0, .int x)] := hl
  refine lv_iload_n hx hb dX6_isShelf_0 rfl (lv_at hl 0 rfl) ?_
  refine lv_if_lt (tgt := 13) hx hb dX6_isShelf_1 (by decide) (fun c_1 => ?_) (fun c_1 => ?_)
  · refine lv_iconst (v := 0) hx hb dX6_isShelf_13 (by decide) ?_
    exact rd_zret hx hb hr hk rfl (rfl) dX6_isShelf_14
  · refine lv_iload_n hx hb dX6_isShelf_4 rfl (lv_at hl 0 rfl) ?_
    refine lv_iconst (v := 2) hx hb dX6_isShelf_5 (by decide) ?_
    refine lv_icmp_ge (tgt := 13) hx hb dX6_isShelf_6 (by decide) (fun c_2 => ?_) (fun c9 => by have g0 := h; have g1 := c9; have g2 := c_1; simp only [Int32.lt_iff_toInt_lt, Int32.le_iff_toInt_le, ← Int32.toInt_inj, Int32.reduceToInt, Int64.lt_iff_toInt_lt, Int64.le_iff_toInt_le, ← Int64.toInt_inj, Int64.reduceToInt, Int32.toInt_toInt64] at g0 g1 g2; omega)
    refine lv_iconst (v := 0) hx hb dX6_isShelf_13 (by decide) ?_
    exact rd_zret hx hb hr hk rfl (rfl) dX6_isShelf_14

set_option maxHeartbeats 4000000 in
set_option maxRecDepth 100000 in
theorem ct_Past_pop {l : Launch} {D : va_G} {q : Nat → ClassId} {h0 g0 : Nat} {x : Nat} : Met l yX3_pop (Cond.code yX3_pop cX3_pop 3 (some .boolean) :: w_all) ({ frames := 0, cells := 0, slots := 0, locals := 0 }) (rd_P D q [.ref h0, .ref x] [(h0, .inr (2, [.ref g0, .int 0, .int 0]))]) (vp_Si (fun r => r = 0)) 0 0 (fun _ => False) := by
  refine rd_start (by decide) (Nat.le_of_ble_eq_true rfl) ?_
  intro p e s m below meth c ls hx hb hr hml hown ht hk hP hQ hl
  have hK := hQ.1
  have hown : s.vm.findClass RX3 = some m.cls := hown
  have hl : lv_has ls 3 [(0, .ref h0), (1, .ref x)] := hl
  refine lv_aload_n hx hb dX3_pop_0 rfl (lv_at hl 0 rfl) ?_
  refine fl_get (C := RX3) (T := TX3) (N := 3) (ci := 2) (v := .int 0) hx hb ht in_X3 hown hK hP 0 rfl rfl 1 (by decide) mw_345 rfl dX3_pop_1 ?_
  refine lv_if_ne (tgt := 9) hx hb dX3_pop_4 (by decide) (fun c9 => absurd c9 (by decide)) (fun c_1 => ?_)
  refine lv_iconst (v := 0) hx hb dX3_pop_7 (by decide) ?_
  exact rd_zret hx hb hr hk rfl (rfl) dX3_pop_8
end
section
set_option maxHeartbeats 4000000 in
set_option maxRecDepth 100000 in
theorem ct_addNumber_0 {l : Launch} {D : va_G} {q : Nat → ClassId} {sz : Nat} {h0 g0 : Nat} {x : Int32} {f : Nat → Int32} : Met l yX5_addNumber (Cond.code yX5_addNumber cX5_addNumber 3 none :: w_all) ({ frames := 0, cells := 0, slots := 0, locals := 0 }) (mt_P D q [.ref h0, .int x] [(h0, .inr (4, [.ref g0, .int 0, .int 0, .int 0, .int 0, .int 0, .int 0])), (g0, .inl (q 0, 400, .inl f))] sz) (va_Qv (fun u : (Nat → Int32) => True) (mt_B D [(h0, .inr (4, [.ref g0, .int 0, .int 0, .int 0, .int 0, .int 0, .int 0])), (g0, .inl (q 0, 400, .inl f))] sz (fun u => [(h0, .inr (4, [.ref g0, .int 4, .int 0, .int 0, .int 0, .int 0, .int 0])), (g0, .inl (q 0, 400, .inl u))])) (va_A [(h0, .inr (4, [.ref g0, .int 0, .int 0, .int 0, .int 0, .int 0, .int 0])), (g0, .inl (q 0, 400, .inl f))] sz)) 0 0 (va_A [(h0, .inr (4, [.ref g0, .int 0, .int 0, .int 0, .int 0, .int 0, .int 0])), (g0, .inl (q 0, 400, .inl f))] sz) := by
  refine mt_start (by decide) (Nat.le_of_ble_eq_true rfl) ?_
  intro p e s m below meth c ls hx hb hr hml hown ht hk hin hP hQ hD hA hS hl
  have hK := hQ.1
  have hown : s.vm.findClass RX5 = some m.cls := hown
  have hl : lv_has ls 3 [(0, .ref h0), (1, .int x)] := hl
  refine lv_bipush (v := 24) hx hb dX5_addNumber_0 (by decide) ?_
  refine lv_istore_n (lv' := [(2, .int 24), (0, .ref h0), (1, .int x)]) hx hb dX5_addNumber_2 rfl hl (by decide) rfl (fun ls hl => ?_)
  refine lv_iload_n hx hb dX5_addNumber_3 rfl (lv_at hl 0 rfl) ?_
  refine lv_if_lt (tgt := 49) hx hb dX5_addNumber_4 (by decide) (fun c9 => absurd c9 (by decide)) (fun c_1 => ?_)
  refine lv_aload_n hx hb dX5_addNumber_7 rfl (lv_at hl 1 rfl) ?_
  refine fl_get (C := RX5) (T := TX5) (N := 7) (ci := 4) (v := .int 0) hx hb ht in_X5 hown hK hP 0 rfl rfl 1 (by decide) mw_130 rfl dX5_addNumber_8 ?_
  refine lv_sipush (v := 400) hx hb dX5_addNumber_11 (by decide) ?_
  refine lv_icmp_ge (tgt := 43) hx hb dX5_addNumber_14 (by decide) (fun c9 => absurd c9 (by decide)) (fun c_2 => ?_)
  refine lv_aload_n hx hb dX5_addNumber_17 rfl (lv_at hl 1 rfl) ?_
  refine fl_get (C := RX5) (T := TX5) (N := 7) (ci := 4) (v := .ref g0) hx hb ht in_X5 hown hK hP 0 rfl rfl 0 (by decide) mw_128 rfl dX5_addNumber_18 ?_
  refine lv_aload_n hx hb dX5_addNumber_21 rfl (lv_at hl 1 rfl) ?_
  refine fl_get (C := RX5) (T := TX5) (N := 7) (ci := 4) (v := .int 0) hx hb ht in_X5 hown hK hP 0 rfl rfl 1 (by decide) mw_130 rfl dX5_addNumber_22 ?_
  refine lv_iload_n hx hb dX5_addNumber_25 rfl (lv_at hl 2 rfl) ?_
  refine lv_iload_n hx hb dX5_addNumber_26 rfl (lv_at hl 0 rfl) ?_
  refine lv_ishr hx hb dX5_addNumber_27 ?_
  refine lv_topi (fun x_3 ex_3 => ?_)
  refine lv_sipush (v := 255) hx hb dX5_addNumber_28 (by decide) ?_
  refine lv_iand hx hb dX5_addNumber_31 ?_
  refine lv_topi (fun x_4 ex_4 => ?_)
  refine va_iast hx hb hK hP hD hS 1 0 rfl rfl (in_c rfl) dX5_addNumber_32 (fun H locs hP hD hS => ?_)
  generalize upd f (Int32.toNatClampNeg 0) x_4 = f_5 at hP hD
  have hP : va_P D vwCl [(h0, .inr (4, [.ref g0, .int 0, .int 0, .int 0, .int 0, .int 0, .int 0])), (g0, .inl (q 0, 400, .inl f_5))] H := hP
  have hD : va_D _ [(h0, .inr (4, [.ref g0, .int 0, .int 0, .int 0, .int 0, .int 0, .int 0])), (g0, .inl (q 0, 400, .inl f_5))] := hD
  refine lv_aload_n hx hb dX5_addNumber_33 rfl (lv_at hl 1 rfl) ?_
  refine lv_dup hx hb dX5_addNumber_34 rfl ?_
  refine fl_get (C := RX5) (T := TX5) (N := 7) (ci := 4) (v := .int 0) hx hb ht in_X5 hown hK hP 0 rfl rfl 1 (by decide) mw_130 rfl dX5_addNumber_35 ?_
  refine lv_iconst (v := 1) hx hb dX5_addNumber_38 (by decide) ?_
  refine lv_iadd hx hb dX5_addNumber_39 ?_
  refine ab_i (v := 1) (by decide) ?_
  refine fl_put (C := RX5) (T := TX5) (N := 7) (ci := 4) (v := .int 1) (ws2 := [(h0, .inr (4, [.ref g0, .int 1, .int 0, .int 0, .int 0, .int 0, .int 0])), (g0, .inl (q 0, 400, .inl f_5))]) hx hb ht in_X5 tyX5_ok nmX5 hown hK hP hD hS 0 rfl rfl 1 (by decide) mw_130 rfl rfl rfl (Nat.le_of_ble_eq_true rfl) dX5_addNumber_40 rfl (fun H locs hP hD hS => ?_)
  refine lv_iinc (v := 16) (lv' := [(2, .int 16), (0, .ref h0), (1, .int x)]) hx hb dX5_addNumber_43 hl (k := 0) rfl (by decide) (by decide) rfl (fun ls hl => ?_)
  refine lv_goto (tgt := 3) hx hb dX5_addNumber_46 (by decide) ?_
  refine lv_iload_n hx hb dX5_addNumber_3 rfl (lv_at hl 0 rfl) ?_
  refine lv_if_lt (tgt := 49) hx hb dX5_addNumber_4 (by decide) (fun c9 => absurd c9 (by decide)) (fun c_6 => ?_)
  refine lv_aload_n hx hb dX5_addNumber_7 rfl (lv_at hl 1 rfl) ?_
  refine fl_get (C := RX5) (T := TX5) (N := 7) (ci := 4) (v := .int 1) hx hb ht in_X5 hown hK hP 0 rfl rfl 1 (by decide) mw_130 rfl dX5_addNumber_8 ?_
  refine lv_sipush (v := 400) hx hb dX5_addNumber_11 (by decide) ?_
  refine lv_icmp_ge (tgt := 43) hx hb dX5_addNumber_14 (by decide) (fun c9 => absurd c9 (by decide)) (fun c_7 => ?_)
  refine lv_aload_n hx hb dX5_addNumber_17 rfl (lv_at hl 1 rfl) ?_
  refine fl_get (C := RX5) (T := TX5) (N := 7) (ci := 4) (v := .ref g0) hx hb ht in_X5 hown hK hP 0 rfl rfl 0 (by decide) mw_128 rfl dX5_addNumber_18 ?_
  refine lv_aload_n hx hb dX5_addNumber_21 rfl (lv_at hl 1 rfl) ?_
  refine fl_get (C := RX5) (T := TX5) (N := 7) (ci := 4) (v := .int 1) hx hb ht in_X5 hown hK hP 0 rfl rfl 1 (by decide) mw_130 rfl dX5_addNumber_22 ?_
  refine lv_iload_n hx hb dX5_addNumber_25 rfl (lv_at hl 2 rfl) ?_
  refine lv_iload_n hx hb dX5_addNumber_26 rfl (lv_at hl 0 rfl) ?_
  refine lv_ishr hx hb dX5_addNumber_27 ?_
  refine lv_topi (fun x_8 ex_8 => ?_)
  refine lv_sipush (v := 255) hx hb dX5_addNumber_28 (by decide) ?_
  refine lv_iand hx hb dX5_addNumber_31 ?_
  refine lv_topi (fun x_9 ex_9 => ?_)
  refine va_iast hx hb hK hP hD hS 1 0 rfl rfl (in_c rfl) dX5_addNumber_32 (fun H locs hP hD hS => ?_)
  generalize upd f_5 (Int32.toNatClampNeg 1) x_9 = f_10 at hP hD
  have hP : va_P D vwCl [(h0, .inr (4, [.ref g0, .int 1, .int 0, .int 0, .int 0, .int 0, .int 0])), (g0, .inl (q 0, 400, .inl f_10))] H := hP
  have hD : va_D _ [(h0, .inr (4, [.ref g0, .int 1, .int 0, .int 0, .int 0, .int 0, .int 0])), (g0, .inl (q 0, 400, .inl f_10))] := hD
  refine lv_aload_n hx hb dX5_addNumber_33 rfl (lv_at hl 1 rfl) ?_
  refine lv_dup hx hb dX5_addNumber_34 rfl ?_
  refine fl_get (C := RX5) (T := TX5) (N := 7) (ci := 4) (v := .int 1) hx hb ht in_X5 hown hK hP 0 rfl rfl 1 (by decide) mw_130 rfl dX5_addNumber_35 ?_
  refine lv_iconst (v := 1) hx hb dX5_addNumber_38 (by decide) ?_
  refine lv_iadd hx hb dX5_addNumber_39 ?_
  refine ab_i (v := 2) (by decide) ?_
  refine fl_put (C := RX5) (T := TX5) (N := 7) (ci := 4) (v := .int 2) (ws2 := [(h0, .inr (4, [.ref g0, .int 2, .int 0, .int 0, .int 0, .int 0, .int 0])), (g0, .inl (q 0, 400, .inl f_10))]) hx hb ht in_X5 tyX5_ok nmX5 hown hK hP hD hS 0 rfl rfl 1 (by decide) mw_130 rfl rfl rfl (Nat.le_of_ble_eq_true rfl) dX5_addNumber_40 rfl (fun H locs hP hD hS => ?_)
  refine lv_iinc (v := 8) (lv' := [(2, .int 8), (0, .ref h0), (1, .int x)]) hx hb dX5_addNumber_43 hl (k := 0) rfl (by decide) (by decide) rfl (fun ls hl => ?_)
  refine lv_goto (tgt := 3) hx hb dX5_addNumber_46 (by decide) ?_
  refine lv_iload_n hx hb dX5_addNumber_3 rfl (lv_at hl 0 rfl) ?_
  refine lv_if_lt (tgt := 49) hx hb dX5_addNumber_4 (by decide) (fun c9 => absurd c9 (by decide)) (fun c_11 => ?_)
  refine lv_aload_n hx hb dX5_addNumber_7 rfl (lv_at hl 1 rfl) ?_
  refine fl_get (C := RX5) (T := TX5) (N := 7) (ci := 4) (v := .int 2) hx hb ht in_X5 hown hK hP 0 rfl rfl 1 (by decide) mw_130 rfl dX5_addNumber_8 ?_
  refine lv_sipush (v := 400) hx hb dX5_addNumber_11 (by decide) ?_
  refine lv_icmp_ge (tgt := 43) hx hb dX5_addNumber_14 (by decide) (fun c9 => absurd c9 (by decide)) (fun c_12 => ?_)
  refine lv_aload_n hx hb dX5_addNumber_17 rfl (lv_at hl 1 rfl) ?_
  refine fl_get (C := RX5) (T := TX5) (N := 7) (ci := 4) (v := .ref g0) hx hb ht in_X5 hown hK hP 0 rfl rfl 0 (by decide) mw_128 rfl dX5_addNumber_18 ?_
  refine lv_aload_n hx hb dX5_addNumber_21 rfl (lv_at hl 1 rfl) ?_
  refine fl_get (C := RX5) (T := TX5) (N := 7) (ci := 4) (v := .int 2) hx hb ht in_X5 hown hK hP 0 rfl rfl 1 (by decide) mw_130 rfl dX5_addNumber_22 ?_
  refine lv_iload_n hx hb dX5_addNumber_25 rfl (lv_at hl 2 rfl) ?_
  refine lv_iload_n hx hb dX5_addNumber_26 rfl (lv_at hl 0 rfl) ?_
  refine lv_ishr hx hb dX5_addNumber_27 ?_
  refine lv_topi (fun x_13 ex_13 => ?_)
  refine lv_sipush (v := 255) hx hb dX5_addNumber_28 (by decide) ?_
  refine lv_iand hx hb dX5_addNumber_31 ?_
  refine lv_topi (fun x_14 ex_14 => ?_)
  refine va_iast hx hb hK hP hD hS 1 0 rfl rfl (in_c rfl) dX5_addNumber_32 (fun H locs hP hD hS => ?_)
  generalize upd f_10 (Int32.toNatClampNeg 2) x_14 = f_15 at hP hD
  have hP : va_P D vwCl [(h0, .inr (4, [.ref g0, .int 2, .int 0, .int 0, .int 0, .int 0, .int 0])), (g0, .inl (q 0, 400, .inl f_15))] H := hP
  have hD : va_D _ [(h0, .inr (4, [.ref g0, .int 2, .int 0, .int 0, .int 0, .int 0, .int 0])), (g0, .inl (q 0, 400, .inl f_15))] := hD
  refine lv_aload_n hx hb dX5_addNumber_33 rfl (lv_at hl 1 rfl) ?_
  refine lv_dup hx hb dX5_addNumber_34 rfl ?_
  refine fl_get (C := RX5) (T := TX5) (N := 7) (ci := 4) (v := .int 2) hx hb ht in_X5 hown hK hP 0 rfl rfl 1 (by decide) mw_130 rfl dX5_addNumber_35 ?_
  refine lv_iconst (v := 1) hx hb dX5_addNumber_38 (by decide) ?_
  refine lv_iadd hx hb dX5_addNumber_39 ?_
  refine ab_i (v := 3) (by decide) ?_
  refine fl_put (C := RX5) (T := TX5) (N := 7) (ci := 4) (v := .int 3) (ws2 := [(h0, .inr (4, [.ref g0, .int 3, .int 0, .int 0, .int 0, .int 0, .int 0])), (g0, .inl (q 0, 400, .inl f_15))]) hx hb ht in_X5 tyX5_ok nmX5 hown hK hP hD hS 0 rfl rfl 1 (by decide) mw_130 rfl rfl rfl (Nat.le_of_ble_eq_true rfl) dX5_addNumber_40 rfl (fun H locs hP hD hS => ?_)
  refine lv_iinc (v := 0) (lv' := [(2, .int 0), (0, .ref h0), (1, .int x)]) hx hb dX5_addNumber_43 hl (k := 0) rfl (by decide) (by decide) rfl (fun ls hl => ?_)
  refine lv_goto (tgt := 3) hx hb dX5_addNumber_46 (by decide) ?_
  refine lv_iload_n hx hb dX5_addNumber_3 rfl (lv_at hl 0 rfl) ?_
  refine lv_if_lt (tgt := 49) hx hb dX5_addNumber_4 (by decide) (fun c9 => absurd c9 (by decide)) (fun c_16 => ?_)
  refine lv_aload_n hx hb dX5_addNumber_7 rfl (lv_at hl 1 rfl) ?_
  refine fl_get (C := RX5) (T := TX5) (N := 7) (ci := 4) (v := .int 3) hx hb ht in_X5 hown hK hP 0 rfl rfl 1 (by decide) mw_130 rfl dX5_addNumber_8 ?_
  refine lv_sipush (v := 400) hx hb dX5_addNumber_11 (by decide) ?_
  refine lv_icmp_ge (tgt := 43) hx hb dX5_addNumber_14 (by decide) (fun c9 => absurd c9 (by decide)) (fun c_17 => ?_)
  refine lv_aload_n hx hb dX5_addNumber_17 rfl (lv_at hl 1 rfl) ?_
  refine fl_get (C := RX5) (T := TX5) (N := 7) (ci := 4) (v := .ref g0) hx hb ht in_X5 hown hK hP 0 rfl rfl 0 (by decide) mw_128 rfl dX5_addNumber_18 ?_
  refine lv_aload_n hx hb dX5_addNumber_21 rfl (lv_at hl 1 rfl) ?_
  refine fl_get (C := RX5) (T := TX5) (N := 7) (ci := 4) (v := .int 3) hx hb ht in_X5 hown hK hP 0 rfl rfl 1 (by decide) mw_130 rfl dX5_addNumber_22 ?_
  refine lv_iload_n hx hb dX5_addNumber_25 rfl (lv_at hl 2 rfl) ?_
  refine lv_iload_n hx hb dX5_addNumber_26 rfl (lv_at hl 0 rfl) ?_
  refine lv_ishr hx hb dX5_addNumber_27 ?_
  refine lv_topi (fun x_18 ex_18 => ?_)
  refine lv_sipush (v := 255) hx hb dX5_addNumber_28 (by decide) ?_
  refine lv_iand hx hb dX5_addNumber_31 ?_
  refine lv_topi (fun x_19 ex_19 => ?_)
  refine va_iast hx hb hK hP hD hS 1 0 rfl rfl (in_c rfl) dX5_addNumber_32 (fun H locs hP hD hS => ?_)
  generalize upd f_15 (Int32.toNatClampNeg 3) x_19 = f_20 at hP hD
  have hP : va_P D vwCl [(h0, .inr (4, [.ref g0, .int 3, .int 0, .int 0, .int 0, .int 0, .int 0])), (g0, .inl (q 0, 400, .inl f_20))] H := hP
  have hD : va_D _ [(h0, .inr (4, [.ref g0, .int 3, .int 0, .int 0, .int 0, .int 0, .int 0])), (g0, .inl (q 0, 400, .inl f_20))] := hD
  refine lv_aload_n hx hb dX5_addNumber_33 rfl (lv_at hl 1 rfl) ?_
  refine lv_dup hx hb dX5_addNumber_34 rfl ?_
  refine fl_get (C := RX5) (T := TX5) (N := 7) (ci := 4) (v := .int 3) hx hb ht in_X5 hown hK hP 0 rfl rfl 1 (by decide) mw_130 rfl dX5_addNumber_35 ?_
  refine lv_iconst (v := 1) hx hb dX5_addNumber_38 (by decide) ?_
  refine lv_iadd hx hb dX5_addNumber_39 ?_
  refine ab_i (v := 4) (by decide) ?_
  refine fl_put (C := RX5) (T := TX5) (N := 7) (ci := 4) (v := .int 4) (ws2 := [(h0, .inr (4, [.ref g0, .int 4, .int 0, .int 0, .int 0, .int 0, .int 0])), (g0, .inl (q 0, 400, .inl f_20))]) hx hb ht in_X5 tyX5_ok nmX5 hown hK hP hD hS 0 rfl rfl 1 (by decide) mw_130 rfl rfl rfl (Nat.le_of_ble_eq_true rfl) dX5_addNumber_40 rfl (fun H locs hP hD hS => ?_)
  refine lv_iinc (v := (-8)) (lv' := [(2, .int (-8)), (0, .ref h0), (1, .int x)]) hx hb dX5_addNumber_43 hl (k := 0) rfl (by decide) (by decide) rfl (fun ls hl => ?_)
  refine lv_goto (tgt := 3) hx hb dX5_addNumber_46 (by decide) ?_
  refine lv_iload_n hx hb dX5_addNumber_3 rfl (lv_at hl 0 rfl) ?_
  refine lv_if_lt (tgt := 49) hx hb dX5_addNumber_4 (by decide) (fun c_21 => ?_) (fun c9 => absurd (by decide) c9)
  have hP := hP.sub (ws' := [(h0, .inr (4, [.ref g0, .int 4, .int 0, .int 0, .int 0, .int 0, .int 0])), (g0, .inl (q 0, 400, .inl f_20))]) [0, 1] rfl
  have hD := hD.sub (ws' := [(h0, .inr (4, [.ref g0, .int 4, .int 0, .int 0, .int 0, .int 0, .int 0])), (g0, .inl (q 0, 400, .inl f_20))]) [0, 1] (by decide) rfl
  exact mt_vret f_20 hx hb hr hk (trivial) hP hD hS dX5_addNumber_49

set_option maxHeartbeats 4000000 in
set_option maxRecDepth 100000 in
theorem ct_addNumber_4 {l : Launch} {D : va_G} {q : Nat → ClassId} {sz : Nat} {h0 g0 : Nat} {x : Int32} {f : Nat → Int32} : Met l yX5_addNumber (Cond.code yX5_addNumber cX5_addNumber 3 none :: w_all) ({ frames := 0, cells := 0, slots := 0, locals := 0 }) (mt_P D q [.ref h0, .int x] [(h0, .inr (4, [.ref g0, .int 4, .int 0, .int 0, .int 0, .int 0, .int 0])), (g0, .inl (q 0, 400, .inl f))] sz) (va_Qv (fun u : (Nat → Int32) => True) (mt_B D [(h0, .inr (4, [.ref g0, .int 4, .int 0, .int 0, .int 0, .int 0, .int 0])), (g0, .inl (q 0, 400, .inl f))] sz (fun u => [(h0, .inr (4, [.ref g0, .int 8, .int 0, .int 0, .int 0, .int 0, .int 0])), (g0, .inl (q 0, 400, .inl u))])) (va_A [(h0, .inr (4, [.ref g0, .int 4, .int 0, .int 0, .int 0, .int 0, .int 0])), (g0, .inl (q 0, 400, .inl f))] sz)) 0 0 (va_A [(h0, .inr (4, [.ref g0, .int 4, .int 0, .int 0, .int 0, .int 0, .int 0])), (g0, .inl (q 0, 400, .inl f))] sz) := by
  refine mt_start (by decide) (Nat.le_of_ble_eq_true rfl) ?_
  intro p e s m below meth c ls hx hb hr hml hown ht hk hin hP hQ hD hA hS hl
  have hK := hQ.1
  have hown : s.vm.findClass RX5 = some m.cls := hown
  have hl : lv_has ls 3 [(0, .ref h0), (1, .int x)] := hl
  refine lv_bipush (v := 24) hx hb dX5_addNumber_0 (by decide) ?_
  refine lv_istore_n (lv' := [(2, .int 24), (0, .ref h0), (1, .int x)]) hx hb dX5_addNumber_2 rfl hl (by decide) rfl (fun ls hl => ?_)
  refine lv_iload_n hx hb dX5_addNumber_3 rfl (lv_at hl 0 rfl) ?_
  refine lv_if_lt (tgt := 49) hx hb dX5_addNumber_4 (by decide) (fun c9 => absurd c9 (by decide)) (fun c_1 => ?_)
  refine lv_aload_n hx hb dX5_addNumber_7 rfl (lv_at hl 1 rfl) ?_
  refine fl_get (C := RX5) (T := TX5) (N := 7) (ci := 4) (v := .int 4) hx hb ht in_X5 hown hK hP 0 rfl rfl 1 (by decide) mw_130 rfl dX5_addNumber_8 ?_
  refine lv_sipush (v := 400) hx hb dX5_addNumber_11 (by decide) ?_
  refine lv_icmp_ge (tgt := 43) hx hb dX5_addNumber_14 (by decide) (fun c9 => absurd c9 (by decide)) (fun c_2 => ?_)
  refine lv_aload_n hx hb dX5_addNumber_17 rfl (lv_at hl 1 rfl) ?_
  refine fl_get (C := RX5) (T := TX5) (N := 7) (ci := 4) (v := .ref g0) hx hb ht in_X5 hown hK hP 0 rfl rfl 0 (by decide) mw_128 rfl dX5_addNumber_18 ?_
  refine lv_aload_n hx hb dX5_addNumber_21 rfl (lv_at hl 1 rfl) ?_
  refine fl_get (C := RX5) (T := TX5) (N := 7) (ci := 4) (v := .int 4) hx hb ht in_X5 hown hK hP 0 rfl rfl 1 (by decide) mw_130 rfl dX5_addNumber_22 ?_
  refine lv_iload_n hx hb dX5_addNumber_25 rfl (lv_at hl 2 rfl) ?_
  refine lv_iload_n hx hb dX5_addNumber_26 rfl (lv_at hl 0 rfl) ?_
  refine lv_ishr hx hb dX5_addNumber_27 ?_
  refine lv_topi (fun x_3 ex_3 => ?_)
  refine lv_sipush (v := 255) hx hb dX5_addNumber_28 (by decide) ?_
  refine lv_iand hx hb dX5_addNumber_31 ?_
  refine lv_topi (fun x_4 ex_4 => ?_)
  refine va_iast hx hb hK hP hD hS 1 0 rfl rfl (in_c rfl) dX5_addNumber_32 (fun H locs hP hD hS => ?_)
  generalize upd f (Int32.toNatClampNeg 4) x_4 = f_5 at hP hD
  have hP : va_P D vwCl [(h0, .inr (4, [.ref g0, .int 4, .int 0, .int 0, .int 0, .int 0, .int 0])), (g0, .inl (q 0, 400, .inl f_5))] H := hP
  have hD : va_D _ [(h0, .inr (4, [.ref g0, .int 4, .int 0, .int 0, .int 0, .int 0, .int 0])), (g0, .inl (q 0, 400, .inl f_5))] := hD
  refine lv_aload_n hx hb dX5_addNumber_33 rfl (lv_at hl 1 rfl) ?_
  refine lv_dup hx hb dX5_addNumber_34 rfl ?_
  refine fl_get (C := RX5) (T := TX5) (N := 7) (ci := 4) (v := .int 4) hx hb ht in_X5 hown hK hP 0 rfl rfl 1 (by decide) mw_130 rfl dX5_addNumber_35 ?_
  refine lv_iconst (v := 1) hx hb dX5_addNumber_38 (by decide) ?_
  refine lv_iadd hx hb dX5_addNumber_39 ?_
  refine ab_i (v := 5) (by decide) ?_
  refine fl_put (C := RX5) (T := TX5) (N := 7) (ci := 4) (v := .int 5) (ws2 := [(h0, .inr (4, [.ref g0, .int 5, .int 0, .int 0, .int 0, .int 0, .int 0])), (g0, .inl (q 0, 400, .inl f_5))]) hx hb ht in_X5 tyX5_ok nmX5 hown hK hP hD hS 0 rfl rfl 1 (by decide) mw_130 rfl rfl rfl (Nat.le_of_ble_eq_true rfl) dX5_addNumber_40 rfl (fun H locs hP hD hS => ?_)
  refine lv_iinc (v := 16) (lv' := [(2, .int 16), (0, .ref h0), (1, .int x)]) hx hb dX5_addNumber_43 hl (k := 0) rfl (by decide) (by decide) rfl (fun ls hl => ?_)
  refine lv_goto (tgt := 3) hx hb dX5_addNumber_46 (by decide) ?_
  refine lv_iload_n hx hb dX5_addNumber_3 rfl (lv_at hl 0 rfl) ?_
  refine lv_if_lt (tgt := 49) hx hb dX5_addNumber_4 (by decide) (fun c9 => absurd c9 (by decide)) (fun c_6 => ?_)
  refine lv_aload_n hx hb dX5_addNumber_7 rfl (lv_at hl 1 rfl) ?_
  refine fl_get (C := RX5) (T := TX5) (N := 7) (ci := 4) (v := .int 5) hx hb ht in_X5 hown hK hP 0 rfl rfl 1 (by decide) mw_130 rfl dX5_addNumber_8 ?_
  refine lv_sipush (v := 400) hx hb dX5_addNumber_11 (by decide) ?_
  refine lv_icmp_ge (tgt := 43) hx hb dX5_addNumber_14 (by decide) (fun c9 => absurd c9 (by decide)) (fun c_7 => ?_)
  refine lv_aload_n hx hb dX5_addNumber_17 rfl (lv_at hl 1 rfl) ?_
  refine fl_get (C := RX5) (T := TX5) (N := 7) (ci := 4) (v := .ref g0) hx hb ht in_X5 hown hK hP 0 rfl rfl 0 (by decide) mw_128 rfl dX5_addNumber_18 ?_
  refine lv_aload_n hx hb dX5_addNumber_21 rfl (lv_at hl 1 rfl) ?_
  refine fl_get (C := RX5) (T := TX5) (N := 7) (ci := 4) (v := .int 5) hx hb ht in_X5 hown hK hP 0 rfl rfl 1 (by decide) mw_130 rfl dX5_addNumber_22 ?_
  refine lv_iload_n hx hb dX5_addNumber_25 rfl (lv_at hl 2 rfl) ?_
  refine lv_iload_n hx hb dX5_addNumber_26 rfl (lv_at hl 0 rfl) ?_
  refine lv_ishr hx hb dX5_addNumber_27 ?_
  refine lv_topi (fun x_8 ex_8 => ?_)
  refine lv_sipush (v := 255) hx hb dX5_addNumber_28 (by decide) ?_
  refine lv_iand hx hb dX5_addNumber_31 ?_
  refine lv_topi (fun x_9 ex_9 => ?_)
  refine va_iast hx hb hK hP hD hS 1 0 rfl rfl (in_c rfl) dX5_addNumber_32 (fun H locs hP hD hS => ?_)
  generalize upd f_5 (Int32.toNatClampNeg 5) x_9 = f_10 at hP hD
  have hP : va_P D vwCl [(h0, .inr (4, [.ref g0, .int 5, .int 0, .int 0, .int 0, .int 0, .int 0])), (g0, .inl (q 0, 400, .inl f_10))] H := hP
  have hD : va_D _ [(h0, .inr (4, [.ref g0, .int 5, .int 0, .int 0, .int 0, .int 0, .int 0])), (g0, .inl (q 0, 400, .inl f_10))] := hD
  refine lv_aload_n hx hb dX5_addNumber_33 rfl (lv_at hl 1 rfl) ?_
  refine lv_dup hx hb dX5_addNumber_34 rfl ?_
  refine fl_get (C := RX5) (T := TX5) (N := 7) (ci := 4) (v := .int 5) hx hb ht in_X5 hown hK hP 0 rfl rfl 1 (by decide) mw_130 rfl dX5_addNumber_35 ?_
  refine lv_iconst (v := 1) hx hb dX5_addNumber_38 (by decide) ?_
  refine lv_iadd hx hb dX5_addNumber_39 ?_
  refine ab_i (v := 6) (by decide) ?_
  refine fl_put (C := RX5) (T := TX5) (N := 7) (ci := 4) (v := .int 6) (ws2 := [(h0, .inr (4, [.ref g0, .int 6, .int 0, .int 0, .int 0, .int 0, .int 0])), (g0, .inl (q 0, 400, .inl f_10))]) hx hb ht in_X5 tyX5_ok nmX5 hown hK hP hD hS 0 rfl rfl 1 (by decide) mw_130 rfl rfl rfl (Nat.le_of_ble_eq_true rfl) dX5_addNumber_40 rfl (fun H locs hP hD hS => ?_)
  refine lv_iinc (v := 8) (lv' := [(2, .int 8), (0, .ref h0), (1, .int x)]) hx hb dX5_addNumber_43 hl (k := 0) rfl (by decide) (by decide) rfl (fun ls hl => ?_)
  refine lv_goto (tgt := 3) hx hb dX5_addNumber_46 (by decide) ?_
  refine lv_iload_n hx hb dX5_addNumber_3 rfl (lv_at hl 0 rfl) ?_
  refine lv_if_lt (tgt := 49) hx hb dX5_addNumber_4 (by decide) (fun c9 => absurd c9 (by decide)) (fun c_11 => ?_)
  refine lv_aload_n hx hb dX5_addNumber_7 rfl (lv_at hl 1 rfl) ?_
  refine fl_get (C := RX5) (T := TX5) (N := 7) (ci := 4) (v := .int 6) hx hb ht in_X5 hown hK hP 0 rfl rfl 1 (by decide) mw_130 rfl dX5_addNumber_8 ?_
  refine lv_sipush (v := 400) hx hb dX5_addNumber_11 (by decide) ?_
  refine lv_icmp_ge (tgt := 43) hx hb dX5_addNumber_14 (by decide) (fun c9 => absurd c9 (by decide)) (fun c_12 => ?_)
  refine lv_aload_n hx hb dX5_addNumber_17 rfl (lv_at hl 1 rfl) ?_
  refine fl_get (C := RX5) (T := TX5) (N := 7) (ci := 4) (v := .ref g0) hx hb ht in_X5 hown hK hP 0 rfl rfl 0 (by decide) mw_128 rfl dX5_addNumber_18 ?_
  refine lv_aload_n hx hb dX5_addNumber_21 rfl (lv_at hl 1 rfl) ?_
  refine fl_get (C := RX5) (T := TX5) (N := 7) (ci := 4) (v := .int 6) hx hb ht in_X5 hown hK hP 0 rfl rfl 1 (by decide) mw_130 rfl dX5_addNumber_22 ?_
  refine lv_iload_n hx hb dX5_addNumber_25 rfl (lv_at hl 2 rfl) ?_
  refine lv_iload_n hx hb dX5_addNumber_26 rfl (lv_at hl 0 rfl) ?_
  refine lv_ishr hx hb dX5_addNumber_27 ?_
  refine lv_topi (fun x_13 ex_13 => ?_)
  refine lv_sipush (v := 255) hx hb dX5_addNumber_28 (by decide) ?_
  refine lv_iand hx hb dX5_addNumber_31 ?_
  refine lv_topi (fun x_14 ex_14 => ?_)
  refine va_iast hx hb hK hP hD hS 1 0 rfl rfl (in_c rfl) dX5_addNumber_32 (fun H locs hP hD hS => ?_)
  generalize upd f_10 (Int32.toNatClampNeg 6) x_14 = f_15 at hP hD
  have hP : va_P D vwCl [(h0, .inr (4, [.ref g0, .int 6, .int 0, .int 0, .int 0, .int 0, .int 0])), (g0, .inl (q 0, 400, .inl f_15))] H := hP
  have hD : va_D _ [(h0, .inr (4, [.ref g0, .int 6, .int 0, .int 0, .int 0, .int 0, .int 0])), (g0, .inl (q 0, 400, .inl f_15))] := hD
  refine lv_aload_n hx hb dX5_addNumber_33 rfl (lv_at hl 1 rfl) ?_
  refine lv_dup hx hb dX5_addNumber_34 rfl ?_
  refine fl_get (C := RX5) (T := TX5) (N := 7) (ci := 4) (v := .int 6) hx hb ht in_X5 hown hK hP 0 rfl rfl 1 (by decide) mw_130 rfl dX5_addNumber_35 ?_
  refine lv_iconst (v := 1) hx hb dX5_addNumber_38 (by decide) ?_
  refine lv_iadd hx hb dX5_addNumber_39 ?_
  refine ab_i (v := 7) (by decide) ?_
  refine fl_put (C := RX5) (T := TX5) (N := 7) (ci := 4) (v := .int 7) (ws2 := [(h0, .inr (4, [.ref g0, .int 7, .int 0, .int 0, .int 0, .int 0, .int 0])), (g0, .inl (q 0, 400, .inl f_15))]) hx hb ht in_X5 tyX5_ok nmX5 hown hK hP hD hS 0 rfl rfl 1 (by decide) mw_130 rfl rfl rfl (Nat.le_of_ble_eq_true rfl) dX5_addNumber_40 rfl (fun H locs hP hD hS => ?_)
  refine lv_iinc (v := 0) (lv' := [(2, .int 0), (0, .ref h0), (1, .int x)]) hx hb dX5_addNumber_43 hl (k := 0) rfl (by decide) (by decide) rfl (fun ls hl => ?_)
  refine lv_goto (tgt := 3) hx hb dX5_addNumber_46 (by decide) ?_
  refine lv_iload_n hx hb dX5_addNumber_3 rfl (lv_at hl 0 rfl) ?_
  refine lv_if_lt (tgt := 49) hx hb dX5_addNumber_4 (by decide) (fun c9 => absurd c9 (by decide)) (fun c_16 => ?_)
  refine lv_aload_n hx hb dX5_addNumber_7 rfl (lv_at hl 1 rfl) ?_
  refine fl_get (C := RX5) (T := TX5) (N := 7) (ci := 4) (v := .int 7) hx hb ht in_X5 hown hK hP 0 rfl rfl 1 (by decide) mw_130 rfl dX5_addNumber_8 ?_
  refine lv_sipush (v := 400) hx hb dX5_addNumber_11 (by decide) ?_
  refine lv_icmp_ge (tgt := 43) hx hb dX5_addNumber_14 (by decide) (fun c9 => absurd c9 (by decide)) (fun c_17 => ?_)
  refine lv_aload_n hx hb dX5_addNumber_17 rfl (lv_at hl 1 rfl) ?_
  refine fl_get (C := RX5) (T := TX5) (N := 7) (ci := 4) (v := .ref g0) hx hb ht in_X5 hown hK hP 0 rfl rfl 0 (by decide) mw_128 rfl dX5_addNumber_18 ?_
  refine lv_aload_n hx hb dX5_addNumber_21 rfl (lv_at hl 1 rfl) ?_
  refine fl_get (C := RX5) (T := TX5) (N := 7) (ci := 4) (v := .int 7) hx hb ht in_X5 hown hK hP 0 rfl rfl 1 (by decide) mw_130 rfl dX5_addNumber_22 ?_
  refine lv_iload_n hx hb dX5_addNumber_25 rfl (lv_at hl 2 rfl) ?_
  refine lv_iload_n hx hb dX5_addNumber_26 rfl (lv_at hl 0 rfl) ?_
  refine lv_ishr hx hb dX5_addNumber_27 ?_
  refine lv_topi (fun x_18 ex_18 => ?_)
  refine lv_sipush (v := 255) hx hb dX5_addNumber_28 (by decide) ?_
  refine lv_iand hx hb dX5_addNumber_31 ?_
  refine lv_topi (fun x_19 ex_19 => ?_)
  refine va_iast hx hb hK hP hD hS 1 0 rfl rfl (in_c rfl) dX5_addNumber_32 (fun H locs hP hD hS => ?_)
  generalize upd f_15 (Int32.toNatClampNeg 7) x_19 = f_20 at hP hD
  have hP : va_P D vwCl [(h0, .inr (4, [.ref g0, .int 7, .int 0, .int 0, .int 0, .int 0, .int 0])), (g0, .inl (q 0, 400, .inl f_20))] H := hP
  have hD : va_D _ [(h0, .inr (4, [.ref g0, .int 7, .int 0, .int 0, .int 0, .int 0, .int 0])), (g0, .inl (q 0, 400, .inl f_20))] := hD
  refine lv_aload_n hx hb dX5_addNumber_33 rfl (lv_at hl 1 rfl) ?_
  refine lv_dup hx hb dX5_addNumber_34 rfl ?_
  refine fl_get (C := RX5) (T := TX5) (N := 7) (ci := 4) (v := .int 7) hx hb ht in_X5 hown hK hP 0 rfl rfl 1 (by decide) mw_130 rfl dX5_addNumber_35 ?_
  refine lv_iconst (v := 1) hx hb dX5_addNumber_38 (by decide) ?_
  refine lv_iadd hx hb dX5_addNumber_39 ?_
  refine ab_i (v := 8) (by decide) ?_
  refine fl_put (C := RX5) (T := TX5) (N := 7) (ci := 4) (v := .int 8) (ws2 := [(h0, .inr (4, [.ref g0, .int 8, .int 0, .int 0, .int 0, .int 0, .int 0])), (g0, .inl (q 0, 400, .inl f_20))]) hx hb ht in_X5 tyX5_ok nmX5 hown hK hP hD hS 0 rfl rfl 1 (by decide) mw_130 rfl rfl rfl (Nat.le_of_ble_eq_true rfl) dX5_addNumber_40 rfl (fun H locs hP hD hS => ?_)
  refine lv_iinc (v := (-8)) (lv' := [(2, .int (-8)), (0, .ref h0), (1, .int x)]) hx hb dX5_addNumber_43 hl (k := 0) rfl (by decide) (by decide) rfl (fun ls hl => ?_)
  refine lv_goto (tgt := 3) hx hb dX5_addNumber_46 (by decide) ?_
  refine lv_iload_n hx hb dX5_addNumber_3 rfl (lv_at hl 0 rfl) ?_
  refine lv_if_lt (tgt := 49) hx hb dX5_addNumber_4 (by decide) (fun c_21 => ?_) (fun c9 => absurd (by decide) c9)
  have hP := hP.sub (ws' := [(h0, .inr (4, [.ref g0, .int 8, .int 0, .int 0, .int 0, .int 0, .int 0])), (g0, .inl (q 0, 400, .inl f_20))]) [0, 1] rfl
  have hD := hD.sub (ws' := [(h0, .inr (4, [.ref g0, .int 8, .int 0, .int 0, .int 0, .int 0, .int 0])), (g0, .inl (q 0, 400, .inl f_20))]) [0, 1] (by decide) rfl
  exact mt_vret f_20 hx hb hr hk (trivial) hP hD hS dX5_addNumber_49

set_option maxHeartbeats 4000000 in
set_option maxRecDepth 100000 in
theorem ct_addNumber_8 {l : Launch} {D : va_G} {q : Nat → ClassId} {sz : Nat} {h0 g0 : Nat} {x : Int32} {f : Nat → Int32} : Met l yX5_addNumber (Cond.code yX5_addNumber cX5_addNumber 3 none :: w_all) ({ frames := 0, cells := 0, slots := 0, locals := 0 }) (mt_P D q [.ref h0, .int x] [(h0, .inr (4, [.ref g0, .int 8, .int 0, .int 0, .int 0, .int 0, .int 0])), (g0, .inl (q 0, 400, .inl f))] sz) (va_Qv (fun u : (Nat → Int32) => True) (mt_B D [(h0, .inr (4, [.ref g0, .int 8, .int 0, .int 0, .int 0, .int 0, .int 0])), (g0, .inl (q 0, 400, .inl f))] sz (fun u => [(h0, .inr (4, [.ref g0, .int 12, .int 0, .int 0, .int 0, .int 0, .int 0])), (g0, .inl (q 0, 400, .inl u))])) (va_A [(h0, .inr (4, [.ref g0, .int 8, .int 0, .int 0, .int 0, .int 0, .int 0])), (g0, .inl (q 0, 400, .inl f))] sz)) 0 0 (va_A [(h0, .inr (4, [.ref g0, .int 8, .int 0, .int 0, .int 0, .int 0, .int 0])), (g0, .inl (q 0, 400, .inl f))] sz) := by
  refine mt_start (by decide) (Nat.le_of_ble_eq_true rfl) ?_
  intro p e s m below meth c ls hx hb hr hml hown ht hk hin hP hQ hD hA hS hl
  have hK := hQ.1
  have hown : s.vm.findClass RX5 = some m.cls := hown
  have hl : lv_has ls 3 [(0, .ref h0), (1, .int x)] := hl
  refine lv_bipush (v := 24) hx hb dX5_addNumber_0 (by decide) ?_
  refine lv_istore_n (lv' := [(2, .int 24), (0, .ref h0), (1, .int x)]) hx hb dX5_addNumber_2 rfl hl (by decide) rfl (fun ls hl => ?_)
  refine lv_iload_n hx hb dX5_addNumber_3 rfl (lv_at hl 0 rfl) ?_
  refine lv_if_lt (tgt := 49) hx hb dX5_addNumber_4 (by decide) (fun c9 => absurd c9 (by decide)) (fun c_1 => ?_)
  refine lv_aload_n hx hb dX5_addNumber_7 rfl (lv_at hl 1 rfl) ?_
  refine fl_get (C := RX5) (T := TX5) (N := 7) (ci := 4) (v := .int 8) hx hb ht in_X5 hown hK hP 0 rfl rfl 1 (by decide) mw_130 rfl dX5_addNumber_8 ?_
  refine lv_sipush (v := 400) hx hb dX5_addNumber_11 (by decide) ?_
  refine lv_icmp_ge (tgt := 43) hx hb dX5_addNumber_14 (by decide) (fun c9 => absurd c9 (by decide)) (fun c_2 => ?_)
  refine lv_aload_n hx hb dX5_addNumber_17 rfl (lv_at hl 1 rfl) ?_
  refine fl_get (C := RX5) (T := TX5) (N := 7) (ci := 4) (v := .ref g0) hx hb ht in_X5 hown hK hP 0 rfl rfl 0 (by decide) mw_128 rfl dX5_addNumber_18 ?_
  refine lv_aload_n hx hb dX5_addNumber_21 rfl (lv_at hl 1 rfl) ?_
  refine fl_get (C := RX5) (T := TX5) (N := 7) (ci := 4) (v := .int 8) hx hb ht in_X5 hown hK hP 0 rfl rfl 1 (by decide) mw_130 rfl dX5_addNumber_22 ?_
  refine lv_iload_n hx hb dX5_addNumber_25 rfl (lv_at hl 2 rfl) ?_
  refine lv_iload_n hx hb dX5_addNumber_26 rfl (lv_at hl 0 rfl) ?_
  refine lv_ishr hx hb dX5_addNumber_27 ?_
  refine lv_topi (fun x_3 ex_3 => ?_)
  refine lv_sipush (v := 255) hx hb dX5_addNumber_28 (by decide) ?_
  refine lv_iand hx hb dX5_addNumber_31 ?_
  refine lv_topi (fun x_4 ex_4 => ?_)
  refine va_iast hx hb hK hP hD hS 1 0 rfl rfl (in_c rfl) dX5_addNumber_32 (fun H locs hP hD hS => ?_)
  generalize upd f (Int32.toNatClampNeg 8) x_4 = f_5 at hP hD
  have hP : va_P D vwCl [(h0, .inr (4, [.ref g0, .int 8, .int 0, .int 0, .int 0, .int 0, .int 0])), (g0, .inl (q 0, 400, .inl f_5))] H := hP
  have hD : va_D _ [(h0, .inr (4, [.ref g0, .int 8, .int 0, .int 0, .int 0, .int 0, .int 0])), (g0, .inl (q 0, 400, .inl f_5))] := hD
  refine lv_aload_n hx hb dX5_addNumber_33 rfl (lv_at hl 1 rfl) ?_
  refine lv_dup hx hb dX5_addNumber_34 rfl ?_
  refine fl_get (C := RX5) (T := TX5) (N := 7) (ci := 4) (v := .int 8) hx hb ht in_X5 hown hK hP 0 rfl rfl 1 (by decide) mw_130 rfl dX5_addNumber_35 ?_
  refine lv_iconst (v := 1) hx hb dX5_addNumber_38 (by decide) ?_
  refine lv_iadd hx hb dX5_addNumber_39 ?_
  refine ab_i (v := 9) (by decide) ?_
  refine fl_put (C := RX5) (T := TX5) (N := 7) (ci := 4) (v := .int 9) (ws2 := [(h0, .inr (4, [.ref g0, .int 9, .int 0, .int 0, .int 0, .int 0, .int 0])), (g0, .inl (q 0, 400, .inl f_5))]) hx hb ht in_X5 tyX5_ok nmX5 hown hK hP hD hS 0 rfl rfl 1 (by decide) mw_130 rfl rfl rfl (Nat.le_of_ble_eq_true rfl) dX5_addNumber_40 rfl (fun H locs hP hD hS => ?_)
  refine lv_iinc (v := 16) (lv' := [(2, .int 16), (0, .ref h0), (1, .int x)]) hx hb dX5_addNumber_43 hl (k := 0) rfl (by decide) (by decide) rfl (fun ls hl => ?_)
  refine lv_goto (tgt := 3) hx hb dX5_addNumber_46 (by decide) ?_
  refine lv_iload_n hx hb dX5_addNumber_3 rfl (lv_at hl 0 rfl) ?_
  refine lv_if_lt (tgt := 49) hx hb dX5_addNumber_4 (by decide) (fun c9 => absurd c9 (by decide)) (fun c_6 => ?_)
  refine lv_aload_n hx hb dX5_addNumber_7 rfl (lv_at hl 1 rfl) ?_
  refine fl_get (C := RX5) (T := TX5) (N := 7) (ci := 4) (v := .int 9) hx hb ht in_X5 hown hK hP 0 rfl rfl 1 (by decide) mw_130 rfl dX5_addNumber_8 ?_
  refine lv_sipush (v := 400) hx hb dX5_addNumber_11 (by decide) ?_
  refine lv_icmp_ge (tgt := 43) hx hb dX5_addNumber_14 (by decide) (fun c9 => absurd c9 (by decide)) (fun c_7 => ?_)
  refine lv_aload_n hx hb dX5_addNumber_17 rfl (lv_at hl 1 rfl) ?_
  refine fl_get (C := RX5) (T := TX5) (N := 7) (ci := 4) (v := .ref g0) hx hb ht in_X5 hown hK hP 0 rfl rfl 0 (by decide) mw_128 rfl dX5_addNumber_18 ?_
  refine lv_aload_n hx hb dX5_addNumber_21 rfl (lv_at hl 1 rfl) ?_
  refine fl_get (C := RX5) (T := TX5) (N := 7) (ci := 4) (v := .int 9) hx hb ht in_X5 hown hK hP 0 rfl rfl 1 (by decide) mw_130 rfl dX5_addNumber_22 ?_
  refine lv_iload_n hx hb dX5_addNumber_25 rfl (lv_at hl 2 rfl) ?_
  refine lv_iload_n hx hb dX5_addNumber_26 rfl (lv_at hl 0 rfl) ?_
  refine lv_ishr hx hb dX5_addNumber_27 ?_
  refine lv_topi (fun x_8 ex_8 => ?_)
  refine lv_sipush (v := 255) hx hb dX5_addNumber_28 (by decide) ?_
  refine lv_iand hx hb dX5_addNumber_31 ?_
  refine lv_topi (fun x_9 ex_9 => ?_)
  refine va_iast hx hb hK hP hD hS 1 0 rfl rfl (in_c rfl) dX5_addNumber_32 (fun H locs hP hD hS => ?_)
  generalize upd f_5 (Int32.toNatClampNeg 9) x_9 = f_10 at hP hD
  have hP : va_P D vwCl [(h0, .inr (4, [.ref g0, .int 9, .int 0, .int 0, .int 0, .int 0, .int 0])), (g0, .inl (q 0, 400, .inl f_10))] H := hP
  have hD : va_D _ [(h0, .inr (4, [.ref g0, .int 9, .int 0, .int 0, .int 0, .int 0, .int 0])), (g0, .inl (q 0, 400, .inl f_10))] := hD
  refine lv_aload_n hx hb dX5_addNumber_33 rfl (lv_at hl 1 rfl) ?_
  refine lv_dup hx hb dX5_addNumber_34 rfl ?_
  refine fl_get (C := RX5) (T := TX5) (N := 7) (ci := 4) (v := .int 9) hx hb ht in_X5 hown hK hP 0 rfl rfl 1 (by decide) mw_130 rfl dX5_addNumber_35 ?_
  refine lv_iconst (v := 1) hx hb dX5_addNumber_38 (by decide) ?_
  refine lv_iadd hx hb dX5_addNumber_39 ?_
  refine ab_i (v := 10) (by decide) ?_
  refine fl_put (C := RX5) (T := TX5) (N := 7) (ci := 4) (v := .int 10) (ws2 := [(h0, .inr (4, [.ref g0, .int 10, .int 0, .int 0, .int 0, .int 0, .int 0])), (g0, .inl (q 0, 400, .inl f_10))]) hx hb ht in_X5 tyX5_ok nmX5 hown hK hP hD hS 0 rfl rfl 1 (by decide) mw_130 rfl rfl rfl (Nat.le_of_ble_eq_true rfl) dX5_addNumber_40 rfl (fun H locs hP hD hS => ?_)
  refine lv_iinc (v := 8) (lv' := [(2, .int 8), (0, .ref h0), (1, .int x)]) hx hb dX5_addNumber_43 hl (k := 0) rfl (by decide) (by decide) rfl (fun ls hl => ?_)
  refine lv_goto (tgt := 3) hx hb dX5_addNumber_46 (by decide) ?_
  refine lv_iload_n hx hb dX5_addNumber_3 rfl (lv_at hl 0 rfl) ?_
  refine lv_if_lt (tgt := 49) hx hb dX5_addNumber_4 (by decide) (fun c9 => absurd c9 (by decide)) (fun c_11 => ?_)
  refine lv_aload_n hx hb dX5_addNumber_7 rfl (lv_at hl 1 rfl) ?_
  refine fl_get (C := RX5) (T := TX5) (N := 7) (ci := 4) (v := .int 10) hx hb ht in_X5 hown hK hP 0 rfl rfl 1 (by decide) mw_130 rfl dX5_addNumber_8 ?_
  refine lv_sipush (v := 400) hx hb dX5_addNumber_11 (by decide) ?_
  refine lv_icmp_ge (tgt := 43) hx hb dX5_addNumber_14 (by decide) (fun c9 => absurd c9 (by decide)) (fun c_12 => ?_)
  refine lv_aload_n hx hb dX5_addNumber_17 rfl (lv_at hl 1 rfl) ?_
  refine fl_get (C := RX5) (T := TX5) (N := 7) (ci := 4) (v := .ref g0) hx hb ht in_X5 hown hK hP 0 rfl rfl 0 (by decide) mw_128 rfl dX5_addNumber_18 ?_
  refine lv_aload_n hx hb dX5_addNumber_21 rfl (lv_at hl 1 rfl) ?_
  refine fl_get (C := RX5) (T := TX5) (N := 7) (ci := 4) (v := .int 10) hx hb ht in_X5 hown hK hP 0 rfl rfl 1 (by decide) mw_130 rfl dX5_addNumber_22 ?_
  refine lv_iload_n hx hb dX5_addNumber_25 rfl (lv_at hl 2 rfl) ?_
  refine lv_iload_n hx hb dX5_addNumber_26 rfl (lv_at hl 0 rfl) ?_
  refine lv_ishr hx hb dX5_addNumber_27 ?_
  refine lv_topi (fun x_13 ex_13 => ?_)
  refine lv_sipush (v := 255) hx hb dX5_addNumber_28 (by decide) ?_
  refine lv_iand hx hb dX5_addNumber_31 ?_
  refine lv_topi (fun x_14 ex_14 => ?_)
  refine va_iast hx hb hK hP hD hS 1 0 rfl rfl (in_c rfl) dX5_addNumber_32 (fun H locs hP hD hS => ?_)
  generalize upd f_10 (Int32.toNatClampNeg 10) x_14 = f_15 at hP hD
  have hP : va_P D vwCl [(h0, .inr (4, [.ref g0, .int 10, .int 0, .int 0, .int 0, .int 0, .int 0])), (g0, .inl (q 0, 400, .inl f_15))] H := hP
  have hD : va_D _ [(h0, .inr (4, [.ref g0, .int 10, .int 0, .int 0, .int 0, .int 0, .int 0])), (g0, .inl (q 0, 400, .inl f_15))] := hD
  refine lv_aload_n hx hb dX5_addNumber_33 rfl (lv_at hl 1 rfl) ?_
  refine lv_dup hx hb dX5_addNumber_34 rfl ?_
  refine fl_get (C := RX5) (T := TX5) (N := 7) (ci := 4) (v := .int 10) hx hb ht in_X5 hown hK hP 0 rfl rfl 1 (by decide) mw_130 rfl dX5_addNumber_35 ?_
  refine lv_iconst (v := 1) hx hb dX5_addNumber_38 (by decide) ?_
  refine lv_iadd hx hb dX5_addNumber_39 ?_
  refine ab_i (v := 11) (by decide) ?_
  refine fl_put (C := RX5) (T := TX5) (N := 7) (ci := 4) (v := .int 11) (ws2 := [(h0, .inr (4, [.ref g0, .int 11, .int 0, .int 0, .int 0, .int 0, .int 0])), (g0, .inl (q 0, 400, .inl f_15))]) hx hb ht in_X5 tyX5_ok nmX5 hown hK hP hD hS 0 rfl rfl 1 (by decide) mw_130 rfl rfl rfl (Nat.le_of_ble_eq_true rfl) dX5_addNumber_40 rfl (fun H locs hP hD hS => ?_)
  refine lv_iinc (v := 0) (lv' := [(2, .int 0), (0, .ref h0), (1, .int x)]) hx hb dX5_addNumber_43 hl (k := 0) rfl (by decide) (by decide) rfl (fun ls hl => ?_)
  refine lv_goto (tgt := 3) hx hb dX5_addNumber_46 (by decide) ?_
  refine lv_iload_n hx hb dX5_addNumber_3 rfl (lv_at hl 0 rfl) ?_
  refine lv_if_lt (tgt := 49) hx hb dX5_addNumber_4 (by decide) (fun c9 => absurd c9 (by decide)) (fun c_16 => ?_)
  refine lv_aload_n hx hb dX5_addNumber_7 rfl (lv_at hl 1 rfl) ?_
  refine fl_get (C := RX5) (T := TX5) (N := 7) (ci := 4) (v := .int 11) hx hb ht in_X5 hown hK hP 0 rfl rfl 1 (by decide) mw_130 rfl dX5_addNumber_8 ?_
  refine lv_sipush (v := 400) hx hb dX5_addNumber_11 (by decide) ?_
  refine lv_icmp_ge (tgt := 43) hx hb dX5_addNumber_14 (by decide) (fun c9 => absurd c9 (by decide)) (fun c_17 => ?_)
  refine lv_aload_n hx hb dX5_addNumber_17 rfl (lv_at hl 1 rfl) ?_
  refine fl_get (C := RX5) (T := TX5) (N := 7) (ci := 4) (v := .ref g0) hx hb ht in_X5 hown hK hP 0 rfl rfl 0 (by decide) mw_128 rfl dX5_addNumber_18 ?_
  refine lv_aload_n hx hb dX5_addNumber_21 rfl (lv_at hl 1 rfl) ?_
  refine fl_get (C := RX5) (T := TX5) (N := 7) (ci := 4) (v := .int 11) hx hb ht in_X5 hown hK hP 0 rfl rfl 1 (by decide) mw_130 rfl dX5_addNumber_22 ?_
  refine lv_iload_n hx hb dX5_addNumber_25 rfl (lv_at hl 2 rfl) ?_
  refine lv_iload_n hx hb dX5_addNumber_26 rfl (lv_at hl 0 rfl) ?_
  refine lv_ishr hx hb dX5_addNumber_27 ?_
  refine lv_topi (fun x_18 ex_18 => ?_)
  refine lv_sipush (v := 255) hx hb dX5_addNumber_28 (by decide) ?_
  refine lv_iand hx hb dX5_addNumber_31 ?_
  refine lv_topi (fun x_19 ex_19 => ?_)
  refine va_iast hx hb hK hP hD hS 1 0 rfl rfl (in_c rfl) dX5_addNumber_32 (fun H locs hP hD hS => ?_)
  generalize upd f_15 (Int32.toNatClampNeg 11) x_19 = f_20 at hP hD
  have hP : va_P D vwCl [(h0, .inr (4, [.ref g0, .int 11, .int 0, .int 0, .int 0, .int 0, .int 0])), (g0, .inl (q 0, 400, .inl f_20))] H := hP
  have hD : va_D _ [(h0, .inr (4, [.ref g0, .int 11, .int 0, .int 0, .int 0, .int 0, .int 0])), (g0, .inl (q 0, 400, .inl f_20))] := hD
  refine lv_aload_n hx hb dX5_addNumber_33 rfl (lv_at hl 1 rfl) ?_
  refine lv_dup hx hb dX5_addNumber_34 rfl ?_
  refine fl_get (C := RX5) (T := TX5) (N := 7) (ci := 4) (v := .int 11) hx hb ht in_X5 hown hK hP 0 rfl rfl 1 (by decide) mw_130 rfl dX5_addNumber_35 ?_
  refine lv_iconst (v := 1) hx hb dX5_addNumber_38 (by decide) ?_
  refine lv_iadd hx hb dX5_addNumber_39 ?_
  refine ab_i (v := 12) (by decide) ?_
  refine fl_put (C := RX5) (T := TX5) (N := 7) (ci := 4) (v := .int 12) (ws2 := [(h0, .inr (4, [.ref g0, .int 12, .int 0, .int 0, .int 0, .int 0, .int 0])), (g0, .inl (q 0, 400, .inl f_20))]) hx hb ht in_X5 tyX5_ok nmX5 hown hK hP hD hS 0 rfl rfl 1 (by decide) mw_130 rfl rfl rfl (Nat.le_of_ble_eq_true rfl) dX5_addNumber_40 rfl (fun H locs hP hD hS => ?_)
  refine lv_iinc (v := (-8)) (lv' := [(2, .int (-8)), (0, .ref h0), (1, .int x)]) hx hb dX5_addNumber_43 hl (k := 0) rfl (by decide) (by decide) rfl (fun ls hl => ?_)
  refine lv_goto (tgt := 3) hx hb dX5_addNumber_46 (by decide) ?_
  refine lv_iload_n hx hb dX5_addNumber_3 rfl (lv_at hl 0 rfl) ?_
  refine lv_if_lt (tgt := 49) hx hb dX5_addNumber_4 (by decide) (fun c_21 => ?_) (fun c9 => absurd (by decide) c9)
  have hP := hP.sub (ws' := [(h0, .inr (4, [.ref g0, .int 12, .int 0, .int 0, .int 0, .int 0, .int 0])), (g0, .inl (q 0, 400, .inl f_20))]) [0, 1] rfl
  have hD := hD.sub (ws' := [(h0, .inr (4, [.ref g0, .int 12, .int 0, .int 0, .int 0, .int 0, .int 0])), (g0, .inl (q 0, 400, .inl f_20))]) [0, 1] (by decide) rfl
  exact mt_vret f_20 hx hb hr hk (trivial) hP hD hS dX5_addNumber_49

set_option maxHeartbeats 4000000 in
set_option maxRecDepth 100000 in
theorem ct_addNumber_12 {l : Launch} {D : va_G} {q : Nat → ClassId} {sz : Nat} {h0 g0 : Nat} {x : Int32} {f : Nat → Int32} : Met l yX5_addNumber (Cond.code yX5_addNumber cX5_addNumber 3 none :: w_all) ({ frames := 0, cells := 0, slots := 0, locals := 0 }) (mt_P D q [.ref h0, .int x] [(h0, .inr (4, [.ref g0, .int 12, .int 0, .int 0, .int 0, .int 0, .int 0])), (g0, .inl (q 0, 400, .inl f))] sz) (va_Qv (fun u : (Nat → Int32) => True) (mt_B D [(h0, .inr (4, [.ref g0, .int 12, .int 0, .int 0, .int 0, .int 0, .int 0])), (g0, .inl (q 0, 400, .inl f))] sz (fun u => [(h0, .inr (4, [.ref g0, .int 16, .int 0, .int 0, .int 0, .int 0, .int 0])), (g0, .inl (q 0, 400, .inl u))])) (va_A [(h0, .inr (4, [.ref g0, .int 12, .int 0, .int 0, .int 0, .int 0, .int 0])), (g0, .inl (q 0, 400, .inl f))] sz)) 0 0 (va_A [(h0, .inr (4, [.ref g0, .int 12, .int 0, .int 0, .int 0, .int 0, .int 0])), (g0, .inl (q 0, 400, .inl f))] sz) := by
  refine mt_start (by decide) (Nat.le_of_ble_eq_true rfl) ?_
  intro p e s m below meth c ls hx hb hr hml hown ht hk hin hP hQ hD hA hS hl
  have hK := hQ.1
  have hown : s.vm.findClass RX5 = some m.cls := hown
  have hl : lv_has ls 3 [(0, .ref h0), (1, .int x)] := hl
  refine lv_bipush (v := 24) hx hb dX5_addNumber_0 (by decide) ?_
  refine lv_istore_n (lv' := [(2, .int 24), (0, .ref h0), (1, .int x)]) hx hb dX5_addNumber_2 rfl hl (by decide) rfl (fun ls hl => ?_)
  refine lv_iload_n hx hb dX5_addNumber_3 rfl (lv_at hl 0 rfl) ?_
  refine lv_if_lt (tgt := 49) hx hb dX5_addNumber_4 (by decide) (fun c9 => absurd c9 (by decide)) (fun c_1 => ?_)
  refine lv_aload_n hx hb dX5_addNumber_7 rfl (lv_at hl 1 rfl) ?_
  refine fl_get (C := RX5) (T := TX5) (N := 7) (ci := 4) (v := .int 12) hx hb ht in_X5 hown hK hP 0 rfl rfl 1 (by decide) mw_130 rfl dX5_addNumber_8 ?_
  refine lv_sipush (v := 400) hx hb dX5_addNumber_11 (by decide) ?_
  refine lv_icmp_ge (tgt := 43) hx hb dX5_addNumber_14 (by decide) (fun c9 => absurd c9 (by decide)) (fun c_2 => ?_)
  refine lv_aload_n hx hb dX5_addNumber_17 rfl (lv_at hl 1 rfl) ?_
  refine fl_get (C := RX5) (T := TX5) (N := 7) (ci := 4) (v := .ref g0) hx hb ht in_X5 hown hK hP 0 rfl rfl 0 (by decide) mw_128 rfl dX5_addNumber_18 ?_
  refine lv_aload_n hx hb dX5_addNumber_21 rfl (lv_at hl 1 rfl) ?_
  refine fl_get (C := RX5) (T := TX5) (N := 7) (ci := 4) (v := .int 12) hx hb ht in_X5 hown hK hP 0 rfl rfl 1 (by decide) mw_130 rfl dX5_addNumber_22 ?_
  refine lv_iload_n hx hb dX5_addNumber_25 rfl (lv_at hl 2 rfl) ?_
  refine lv_iload_n hx hb dX5_addNumber_26 rfl (lv_at hl 0 rfl) ?_
  refine lv_ishr hx hb dX5_addNumber_27 ?_
  refine lv_topi (fun x_3 ex_3 => ?_)
  refine lv_sipush (v := 255) hx hb dX5_addNumber_28 (by decide) ?_
  refine lv_iand hx hb dX5_addNumber_31 ?_
  refine lv_topi (fun x_4 ex_4 => ?_)
  refine va_iast hx hb hK hP hD hS 1 0 rfl rfl (in_c rfl) dX5_addNumber_32 (fun H locs hP hD hS => ?_)
  generalize upd f (Int32.toNatClampNeg 12) x_4 = f_5 at hP hD
  have hP : va_P D vwCl [(h0, .inr (4, [.ref g0, .int 12, .int 0, .int 0, .int 0, .int 0, .int 0])), (g0, .inl (q 0, 400, .inl f_5))] H := hP
  have hD : va_D _ [(h0, .inr (4, [.ref g0, .int 12, .int 0, .int 0, .int 0, .int 0, .int 0])), (g0, .inl (q 0, 400, .inl f_5))] := hD
  refine lv_aload_n hx hb dX5_addNumber_33 rfl (lv_at hl 1 rfl) ?_
  refine lv_dup hx hb dX5_addNumber_34 rfl ?_
  refine fl_get (C := RX5) (T := TX5) (N := 7) (ci := 4) (v := .int 12) hx hb ht in_X5 hown hK hP 0 rfl rfl 1 (by decide) mw_130 rfl dX5_addNumber_35 ?_
  refine lv_iconst (v := 1) hx hb dX5_addNumber_38 (by decide) ?_
  refine lv_iadd hx hb dX5_addNumber_39 ?_
  refine ab_i (v := 13) (by decide) ?_
  refine fl_put (C := RX5) (T := TX5) (N := 7) (ci := 4) (v := .int 13) (ws2 := [(h0, .inr (4, [.ref g0, .int 13, .int 0, .int 0, .int 0, .int 0, .int 0])), (g0, .inl (q 0, 400, .inl f_5))]) hx hb ht in_X5 tyX5_ok nmX5 hown hK hP hD hS 0 rfl rfl 1 (by decide) mw_130 rfl rfl rfl (Nat.le_of_ble_eq_true rfl) dX5_addNumber_40 rfl (fun H locs hP hD hS => ?_)
  refine lv_iinc (v := 16) (lv' := [(2, .int 16), (0, .ref h0), (1, .int x)]) hx hb dX5_addNumber_43 hl (k := 0) rfl (by decide) (by decide) rfl (fun ls hl => ?_)
  refine lv_goto (tgt := 3) hx hb dX5_addNumber_46 (by decide) ?_
  refine lv_iload_n hx hb dX5_addNumber_3 rfl (lv_at hl 0 rfl) ?_
  refine lv_if_lt (tgt := 49) hx hb dX5_addNumber_4 (by decide) (fun c9 => absurd c9 (by decide)) (fun c_6 => ?_)
  refine lv_aload_n hx hb dX5_addNumber_7 rfl (lv_at hl 1 rfl) ?_
  refine fl_get (C := RX5) (T := TX5) (N := 7) (ci := 4) (v := .int 13) hx hb ht in_X5 hown hK hP 0 rfl rfl 1 (by decide) mw_130 rfl dX5_addNumber_8 ?_
  refine lv_sipush (v := 400) hx hb dX5_addNumber_11 (by decide) ?_
  refine lv_icmp_ge (tgt := 43) hx hb dX5_addNumber_14 (by decide) (fun c9 => absurd c9 (by decide)) (fun c_7 => ?_)
  refine lv_aload_n hx hb dX5_addNumber_17 rfl (lv_at hl 1 rfl) ?_
  refine fl_get (C := RX5) (T := TX5) (N := 7) (ci := 4) (v := .ref g0) hx hb ht in_X5 hown hK hP 0 rfl rfl 0 (by decide) mw_128 rfl dX5_addNumber_18 ?_
  refine lv_aload_n hx hb dX5_addNumber_21 rfl (lv_at hl 1 rfl) ?_
  refine fl_get (C := RX5) (T := TX5) (N := 7) (ci := 4) (v := .int 13) hx hb ht in_X5 hown hK hP 0 rfl rfl 1 (by decide) mw_130 rfl dX5_addNumber_22 ?_
  refine lv_iload_n hx hb dX5_addNumber_25 rfl (lv_at hl 2 rfl) ?_
  refine lv_iload_n hx hb dX5_addNumber_26 rfl (lv_at hl 0 rfl) ?_
  refine lv_ishr hx hb dX5_addNumber_27 ?_
  refine lv_topi (fun x_8 ex_8 => ?_)
  refine lv_sipush (v := 255) hx hb dX5_addNumber_28 (by decide) ?_
  refine lv_iand hx hb dX5_addNumber_31 ?_
  refine lv_topi (fun x_9 ex_9 => ?_)
  refine va_iast hx hb hK hP hD hS 1 0 rfl rfl (in_c rfl) dX5_addNumber_32 (fun H locs hP hD hS => ?_)
  generalize upd f_5 (Int32.toNatClampNeg 13) x_9 = f_10 at hP hD
  have hP : va_P D vwCl [(h0, .inr (4, [.ref g0, .int 13, .int 0, .int 0, .int 0, .int 0, .int 0])), (g0, .inl (q 0, 400, .inl f_10))] H := hP
  have hD : va_D _ [(h0, .inr (4, [.ref g0, .int 13, .int 0, .int 0, .int 0, .int 0, .int 0])), (g0, .inl (q 0, 400, .inl f_10))] := hD
  refine lv_aload_n hx hb dX5_addNumber_33 rfl (lv_at hl 1 rfl) ?_
  refine lv_dup hx hb dX5_addNumber_34 rfl ?_
  refine fl_get (C := RX5) (T := TX5) (N := 7) (ci := 4) (v := .int 13) hx hb ht in_X5 hown hK hP 0 rfl rfl 1 (by decide) mw_130 rfl dX5_addNumber_35 ?_
  refine lv_iconst (v := 1) hx hb dX5_addNumber_38 (by decide) ?_
  refine lv_iadd hx hb dX5_addNumber_39 ?_
  refine ab_i (v := 14) (by decide) ?_
  refine fl_put (C := RX5) (T := TX5) (N := 7) (ci := 4) (v := .int 14) (ws2 := [(h0, .inr (4, [.ref g0, .int 14, .int 0, .int 0, .int 0, .int 0, .int 0])), (g0, .inl (q 0, 400, .inl f_10))]) hx hb ht in_X5 tyX5_ok nmX5 hown hK hP hD hS 0 rfl rfl 1 (by decide) mw_130 rfl rfl rfl (Nat.le_of_ble_eq_true rfl) dX5_addNumber_40 rfl (fun H locs hP hD hS => ?_)
  refine lv_iinc (v := 8) (lv' := [(2, .int 8), (0, .ref h0), (1, .int x)]) hx hb dX5_addNumber_43 hl (k := 0) rfl (by decide) (by decide) rfl (fun ls hl => ?_)
  refine lv_goto (tgt := 3) hx hb dX5_addNumber_46 (by decide) ?_
  refine lv_iload_n hx hb dX5_addNumber_3 rfl (lv_at hl 0 rfl) ?_
  refine lv_if_lt (tgt := 49) hx hb dX5_addNumber_4 (by decide) (fun c9 => absurd c9 (by decide)) (fun c_11 => ?_)
  refine lv_aload_n hx hb dX5_addNumber_7 rfl (lv_at hl 1 rfl) ?_
  refine fl_get (C := RX5) (T := TX5) (N := 7) (ci := 4) (v := .int 14) hx hb ht in_X5 hown hK hP 0 rfl rfl 1 (by decide) mw_130 rfl dX5_addNumber_8 ?_
  refine lv_sipush (v := 400) hx hb dX5_addNumber_11 (by decide) ?_
  refine lv_icmp_ge (tgt := 43) hx hb dX5_addNumber_14 (by decide) (fun c9 => absurd c9 (by decide)) (fun c_12 => ?_)
  refine lv_aload_n hx hb dX5_addNumber_17 rfl (lv_at hl 1 rfl) ?_
  refine fl_get (C := RX5) (T := TX5) (N := 7) (ci := 4) (v := .ref g0) hx hb ht in_X5 hown hK hP 0 rfl rfl 0 (by decide) mw_128 rfl dX5_addNumber_18 ?_
  refine lv_aload_n hx hb dX5_addNumber_21 rfl (lv_at hl 1 rfl) ?_
  refine fl_get (C := RX5) (T := TX5) (N := 7) (ci := 4) (v := .int 14) hx hb ht in_X5 hown hK hP 0 rfl rfl 1 (by decide) mw_130 rfl dX5_addNumber_22 ?_
  refine lv_iload_n hx hb dX5_addNumber_25 rfl (lv_at hl 2 rfl) ?_
  refine lv_iload_n hx hb dX5_addNumber_26 rfl (lv_at hl 0 rfl) ?_
  refine lv_ishr hx hb dX5_addNumber_27 ?_
  refine lv_topi (fun x_13 ex_13 => ?_)
  refine lv_sipush (v := 255) hx hb dX5_addNumber_28 (by decide) ?_
  refine lv_iand hx hb dX5_addNumber_31 ?_
  refine lv_topi (fun x_14 ex_14 => ?_)
  refine va_iast hx hb hK hP hD hS 1 0 rfl rfl (in_c rfl) dX5_addNumber_32 (fun H locs hP hD hS => ?_)
  generalize upd f_10 (Int32.toNatClampNeg 14) x_14 = f_15 at hP hD
  have hP : va_P D vwCl [(h0, .inr (4, [.ref g0, .int 14, .int 0, .int 0, .int 0, .int 0, .int 0])), (g0, .inl (q 0, 400, .inl f_15))] H := hP
  have hD : va_D _ [(h0, .inr (4, [.ref g0, .int 14, .int 0, .int 0, .int 0, .int 0, .int 0])), (g0, .inl (q 0, 400, .inl f_15))] := hD
  refine lv_aload_n hx hb dX5_addNumber_33 rfl (lv_at hl 1 rfl) ?_
  refine lv_dup hx hb dX5_addNumber_34 rfl ?_
  refine fl_get (C := RX5) (T := TX5) (N := 7) (ci := 4) (v := .int 14) hx hb ht in_X5 hown hK hP 0 rfl rfl 1 (by decide) mw_130 rfl dX5_addNumber_35 ?_
  refine lv_iconst (v := 1) hx hb dX5_addNumber_38 (by decide) ?_
  refine lv_iadd hx hb dX5_addNumber_39 ?_
  refine ab_i (v := 15) (by decide) ?_
  refine fl_put (C := RX5) (T := TX5) (N := 7) (ci := 4) (v := .int 15) (ws2 := [(h0, .inr (4, [.ref g0, .int 15, .int 0, .int 0, .int 0, .int 0, .int 0])), (g0, .inl (q 0, 400, .inl f_15))]) hx hb ht in_X5 tyX5_ok nmX5 hown hK hP hD hS 0 rfl rfl 1 (by decide) mw_130 rfl rfl rfl (Nat.le_of_ble_eq_true rfl) dX5_addNumber_40 rfl (fun H locs hP hD hS => ?_)
  refine lv_iinc (v := 0) (lv' := [(2, .int 0), (0, .ref h0), (1, .int x)]) hx hb dX5_addNumber_43 hl (k := 0) rfl (by decide) (by decide) rfl (fun ls hl => ?_)
  refine lv_goto (tgt := 3) hx hb dX5_addNumber_46 (by decide) ?_
  refine lv_iload_n hx hb dX5_addNumber_3 rfl (lv_at hl 0 rfl) ?_
  refine lv_if_lt (tgt := 49) hx hb dX5_addNumber_4 (by decide) (fun c9 => absurd c9 (by decide)) (fun c_16 => ?_)
  refine lv_aload_n hx hb dX5_addNumber_7 rfl (lv_at hl 1 rfl) ?_
  refine fl_get (C := RX5) (T := TX5) (N := 7) (ci := 4) (v := .int 15) hx hb ht in_X5 hown hK hP 0 rfl rfl 1 (by decide) mw_130 rfl dX5_addNumber_8 ?_
  refine lv_sipush (v := 400) hx hb dX5_addNumber_11 (by decide) ?_
  refine lv_icmp_ge (tgt := 43) hx hb dX5_addNumber_14 (by decide) (fun c9 => absurd c9 (by decide)) (fun c_17 => ?_)
  refine lv_aload_n hx hb dX5_addNumber_17 rfl (lv_at hl 1 rfl) ?_
  refine fl_get (C := RX5) (T := TX5) (N := 7) (ci := 4) (v := .ref g0) hx hb ht in_X5 hown hK hP 0 rfl rfl 0 (by decide) mw_128 rfl dX5_addNumber_18 ?_
  refine lv_aload_n hx hb dX5_addNumber_21 rfl (lv_at hl 1 rfl) ?_
  refine fl_get (C := RX5) (T := TX5) (N := 7) (ci := 4) (v := .int 15) hx hb ht in_X5 hown hK hP 0 rfl rfl 1 (by decide) mw_130 rfl dX5_addNumber_22 ?_
  refine lv_iload_n hx hb dX5_addNumber_25 rfl (lv_at hl 2 rfl) ?_
  refine lv_iload_n hx hb dX5_addNumber_26 rfl (lv_at hl 0 rfl) ?_
  refine lv_ishr hx hb dX5_addNumber_27 ?_
  refine lv_topi (fun x_18 ex_18 => ?_)
  refine lv_sipush (v := 255) hx hb dX5_addNumber_28 (by decide) ?_
  refine lv_iand hx hb dX5_addNumber_31 ?_
  refine lv_topi (fun x_19 ex_19 => ?_)
  refine va_iast hx hb hK hP hD hS 1 0 rfl rfl (in_c rfl) dX5_addNumber_32 (fun H locs hP hD hS => ?_)
  generalize upd f_15 (Int32.toNatClampNeg 15) x_19 = f_20 at hP hD
  have hP : va_P D vwCl [(h0, .inr (4, [.ref g0, .int 15, .int 0, .int 0, .int 0, .int 0, .int 0])), (g0, .inl (q 0, 400, .inl f_20))] H := hP
  have hD : va_D _ [(h0, .inr (4, [.ref g0, .int 15, .int 0, .int 0, .int 0, .int 0, .int 0])), (g0, .inl (q 0, 400, .inl f_20))] := hD
  refine lv_aload_n hx hb dX5_addNumber_33 rfl (lv_at hl 1 rfl) ?_
  refine lv_dup hx hb dX5_addNumber_34 rfl ?_
  refine fl_get (C := RX5) (T := TX5) (N := 7) (ci := 4) (v := .int 15) hx hb ht in_X5 hown hK hP 0 rfl rfl 1 (by decide) mw_130 rfl dX5_addNumber_35 ?_
  refine lv_iconst (v := 1) hx hb dX5_addNumber_38 (by decide) ?_
  refine lv_iadd hx hb dX5_addNumber_39 ?_
  refine ab_i (v := 16) (by decide) ?_
  refine fl_put (C := RX5) (T := TX5) (N := 7) (ci := 4) (v := .int 16) (ws2 := [(h0, .inr (4, [.ref g0, .int 16, .int 0, .int 0, .int 0, .int 0, .int 0])), (g0, .inl (q 0, 400, .inl f_20))]) hx hb ht in_X5 tyX5_ok nmX5 hown hK hP hD hS 0 rfl rfl 1 (by decide) mw_130 rfl rfl rfl (Nat.le_of_ble_eq_true rfl) dX5_addNumber_40 rfl (fun H locs hP hD hS => ?_)
  refine lv_iinc (v := (-8)) (lv' := [(2, .int (-8)), (0, .ref h0), (1, .int x)]) hx hb dX5_addNumber_43 hl (k := 0) rfl (by decide) (by decide) rfl (fun ls hl => ?_)
  refine lv_goto (tgt := 3) hx hb dX5_addNumber_46 (by decide) ?_
  refine lv_iload_n hx hb dX5_addNumber_3 rfl (lv_at hl 0 rfl) ?_
  refine lv_if_lt (tgt := 49) hx hb dX5_addNumber_4 (by decide) (fun c_21 => ?_) (fun c9 => absurd (by decide) c9)
  have hP := hP.sub (ws' := [(h0, .inr (4, [.ref g0, .int 16, .int 0, .int 0, .int 0, .int 0, .int 0])), (g0, .inl (q 0, 400, .inl f_20))]) [0, 1] rfl
  have hD := hD.sub (ws' := [(h0, .inr (4, [.ref g0, .int 16, .int 0, .int 0, .int 0, .int 0, .int 0])), (g0, .inl (q 0, 400, .inl f_20))]) [0, 1] (by decide) rfl
  exact mt_vret f_20 hx hb hr hk (trivial) hP hD hS dX5_addNumber_49

set_option maxHeartbeats 4000000 in
set_option maxRecDepth 100000 in
theorem ct_addNumber_16 {l : Launch} {D : va_G} {q : Nat → ClassId} {sz : Nat} {h0 g0 : Nat} {x : Int32} {f : Nat → Int32} : Met l yX5_addNumber (Cond.code yX5_addNumber cX5_addNumber 3 none :: w_all) ({ frames := 0, cells := 0, slots := 0, locals := 0 }) (mt_P D q [.ref h0, .int x] [(h0, .inr (4, [.ref g0, .int 16, .int 0, .int 0, .int 0, .int 0, .int 0])), (g0, .inl (q 0, 400, .inl f))] sz) (va_Qv (fun u : (Nat → Int32) => True) (mt_B D [(h0, .inr (4, [.ref g0, .int 16, .int 0, .int 0, .int 0, .int 0, .int 0])), (g0, .inl (q 0, 400, .inl f))] sz (fun u => [(h0, .inr (4, [.ref g0, .int 20, .int 0, .int 0, .int 0, .int 0, .int 0])), (g0, .inl (q 0, 400, .inl u))])) (va_A [(h0, .inr (4, [.ref g0, .int 16, .int 0, .int 0, .int 0, .int 0, .int 0])), (g0, .inl (q 0, 400, .inl f))] sz)) 0 0 (va_A [(h0, .inr (4, [.ref g0, .int 16, .int 0, .int 0, .int 0, .int 0, .int 0])), (g0, .inl (q 0, 400, .inl f))] sz) := by
  refine mt_start (by decide) (Nat.le_of_ble_eq_true rfl) ?_
  intro p e s m below meth c ls hx hb hr hml hown ht hk hin hP hQ hD hA hS hl
  have hK := hQ.1
  have hown : s.vm.findClass RX5 = some m.cls := hown
  have hl : lv_has ls 3 [(0, .ref h0), (1, .int x)] := hl
  refine lv_bipush (v := 24) hx hb dX5_addNumber_0 (by decide) ?_
  refine lv_istore_n (lv' := [(2, .int 24), (0, .ref h0), (1, .int x)]) hx hb dX5_addNumber_2 rfl hl (by decide) rfl (fun ls hl => ?_)
  refine lv_iload_n hx hb dX5_addNumber_3 rfl (lv_at hl 0 rfl) ?_
  refine lv_if_lt (tgt := 49) hx hb dX5_addNumber_4 (by decide) (fun c9 => absurd c9 (by decide)) (fun c_1 => ?_)
  refine lv_aload_n hx hb dX5_addNumber_7 rfl (lv_at hl 1 rfl) ?_
  refine fl_get (C := RX5) (T := TX5) (N := 7) (ci := 4) (v := .int 16) hx hb ht in_X5 hown hK hP 0 rfl rfl 1 (by decide) mw_130 rfl dX5_addNumber_8 ?_
  refine lv_sipush (v := 400) hx hb dX5_addNumber_11 (by decide) ?_
  refine lv_icmp_ge (tgt := 43) hx hb dX5_addNumber_14 (by decide) (fun c9 => absurd c9 (by decide)) (fun c_2 => ?_)
  refine lv_aload_n hx hb dX5_addNumber_17 rfl (lv_at hl 1 rfl) ?_
  refine fl_get (C := RX5) (T := TX5) (N := 7) (ci := 4) (v := .ref g0) hx hb ht in_X5 hown hK hP 0 rfl rfl 0 (by decide) mw_128 rfl dX5_addNumber_18 ?_
  refine lv_aload_n hx hb dX5_addNumber_21 rfl (lv_at hl 1 rfl) ?_
  refine fl_get (C := RX5) (T := TX5) (N := 7) (ci := 4) (v := .int 16) hx hb ht in_X5 hown hK hP 0 rfl rfl 1 (by decide) mw_130 rfl dX5_addNumber_22 ?_
  refine lv_iload_n hx hb dX5_addNumber_25 rfl (lv_at hl 2 rfl) ?_
  refine lv_iload_n hx hb dX5_addNumber_26 rfl (lv_at hl 0 rfl) ?_
  refine lv_ishr hx hb dX5_addNumber_27 ?_
  refine lv_topi (fun x_3 ex_3 => ?_)
  refine lv_sipush (v := 255) hx hb dX5_addNumber_28 (by decide) ?_
  refine lv_iand hx hb dX5_addNumber_31 ?_
  refine lv_topi (fun x_4 ex_4 => ?_)
  refine va_iast hx hb hK hP hD hS 1 0 rfl rfl (in_c rfl) dX5_addNumber_32 (fun H locs hP hD hS => ?_)
  generalize upd f (Int32.toNatClampNeg 16) x_4 = f_5 at hP hD
  have hP : va_P D vwCl [(h0, .inr (4, [.ref g0, .int 16, .int 0, .int 0, .int 0, .int 0, .int 0])), (g0, .inl (q 0, 400, .inl f_5))] H := hP
  have hD : va_D _ [(h0, .inr (4, [.ref g0, .int 16, .int 0, .int 0, .int 0, .int 0, .int 0])), (g0, .inl (q 0, 400, .inl f_5))] := hD
  refine lv_aload_n hx hb dX5_addNumber_33 rfl (lv_at hl 1 rfl) ?_
  refine lv_dup hx hb dX5_addNumber_34 rfl ?_
  refine fl_get (C := RX5) (T := TX5) (N := 7) (ci := 4) (v := .int 16) hx hb ht in_X5 hown hK hP 0 rfl rfl 1 (by decide) mw_130 rfl dX5_addNumber_35 ?_
  refine lv_iconst (v := 1) hx hb dX5_addNumber_38 (by decide) ?_
  refine lv_iadd hx hb dX5_addNumber_39 ?_
  refine ab_i (v := 17) (by decide) ?_
  refine fl_put (C := RX5) (T := TX5) (N := 7) (ci := 4) (v := .int 17) (ws2 := [(h0, .inr (4, [.ref g0, .int 17, .int 0, .int 0, .int 0, .int 0, .int 0])), (g0, .inl (q 0, 400, .inl f_5))]) hx hb ht in_X5 tyX5_ok nmX5 hown hK hP hD hS 0 rfl rfl 1 (by decide) mw_130 rfl rfl rfl (Nat.le_of_ble_eq_true rfl) dX5_addNumber_40 rfl (fun H locs hP hD hS => ?_)
  refine lv_iinc (v := 16) (lv' := [(2, .int 16), (0, .ref h0), (1, .int x)]) hx hb dX5_addNumber_43 hl (k := 0) rfl (by decide) (by decide) rfl (fun ls hl => ?_)
  refine lv_goto (tgt := 3) hx hb dX5_addNumber_46 (by decide) ?_
  refine lv_iload_n hx hb dX5_addNumber_3 rfl (lv_at hl 0 rfl) ?_
  refine lv_if_lt (tgt := 49) hx hb dX5_addNumber_4 (by decide) (fun c9 => absurd c9 (by decide)) (fun c_6 => ?_)
  refine lv_aload_n hx hb dX5_addNumber_7 rfl (lv_at hl 1 rfl) ?_
  refine fl_get (C := RX5) (T := TX5) (N := 7) (ci := 4) (v := .int 17) hx hb ht in_X5 hown hK hP 0 rfl rfl 1 (by decide) mw_130 rfl dX5_addNumber_8 ?_
  refine lv_sipush (v := 400) hx hb dX5_addNumber_11 (by decide) ?_
  refine lv_icmp_ge (tgt := 43) hx hb dX5_addNumber_14 (by decide) (fun c9 => absurd c9 (by decide)) (fun c_7 => ?_)
  refine lv_aload_n hx hb dX5_addNumber_17 rfl (lv_at hl 1 rfl) ?_
  refine fl_get (C := RX5) (T := TX5) (N := 7) (ci := 4) (v := .ref g0) hx hb ht in_X5 hown hK hP 0 rfl rfl 0 (by decide) mw_128 rfl dX5_addNumber_18 ?_
  refine lv_aload_n hx hb dX5_addNumber_21 rfl (lv_at hl 1 rfl) ?_
  refine fl_get (C := RX5) (T := TX5) (N := 7) (ci := 4) (v := .int 17) hx hb ht in_X5 hown hK hP 0 rfl rfl 1 (by decide) mw_130 rfl dX5_addNumber_22 ?_
  refine lv_iload_n hx hb dX5_addNumber_25 rfl (lv_at hl 2 rfl) ?_
  refine lv_iload_n hx hb dX5_addNumber_26 rfl (lv_at hl 0 rfl) ?_
  refine lv_ishr hx hb dX5_addNumber_27 ?_
  refine lv_topi (fun x_8 ex_8 => ?_)
  refine lv_sipush (v := 255) hx hb dX5_addNumber_28 (by decide) ?_
  refine lv_iand hx hb dX5_addNumber_31 ?_
  refine lv_topi (fun x_9 ex_9 => ?_)
  refine va_iast hx hb hK hP hD hS 1 0 rfl rfl (in_c rfl) dX5_addNumber_32 (fun H locs hP hD hS => ?_)
  generalize upd f_5 (Int32.toNatClampNeg 17) x_9 = f_10 at hP hD
  have hP : va_P D vwCl [(h0, .inr (4, [.ref g0, .int 17, .int 0, .int 0, .int 0, .int 0, .int 0])), (g0, .inl (q 0, 400, .inl f_10))] H := hP
  have hD : va_D _ [(h0, .inr (4, [.ref g0, .int 17, .int 0, .int 0, .int 0, .int 0, .int 0])), (g0, .inl (q 0, 400, .inl f_10))] := hD
  refine lv_aload_n hx hb dX5_addNumber_33 rfl (lv_at hl 1 rfl) ?_
  refine lv_dup hx hb dX5_addNumber_34 rfl ?_
  refine fl_get (C := RX5) (T := TX5) (N := 7) (ci := 4) (v := .int 17) hx hb ht in_X5 hown hK hP 0 rfl rfl 1 (by decide) mw_130 rfl dX5_addNumber_35 ?_
  refine lv_iconst (v := 1) hx hb dX5_addNumber_38 (by decide) ?_
  refine lv_iadd hx hb dX5_addNumber_39 ?_
  refine ab_i (v := 18) (by decide) ?_
  refine fl_put (C := RX5) (T := TX5) (N := 7) (ci := 4) (v := .int 18) (ws2 := [(h0, .inr (4, [.ref g0, .int 18, .int 0, .int 0, .int 0, .int 0, .int 0])), (g0, .inl (q 0, 400, .inl f_10))]) hx hb ht in_X5 tyX5_ok nmX5 hown hK hP hD hS 0 rfl rfl 1 (by decide) mw_130 rfl rfl rfl (Nat.le_of_ble_eq_true rfl) dX5_addNumber_40 rfl (fun H locs hP hD hS => ?_)
  refine lv_iinc (v := 8) (lv' := [(2, .int 8), (0, .ref h0), (1, .int x)]) hx hb dX5_addNumber_43 hl (k := 0) rfl (by decide) (by decide) rfl (fun ls hl => ?_)
  refine lv_goto (tgt := 3) hx hb dX5_addNumber_46 (by decide) ?_
  refine lv_iload_n hx hb dX5_addNumber_3 rfl (lv_at hl 0 rfl) ?_
  refine lv_if_lt (tgt := 49) hx hb dX5_addNumber_4 (by decide) (fun c9 => absurd c9 (by decide)) (fun c_11 => ?_)
  refine lv_aload_n hx hb dX5_addNumber_7 rfl (lv_at hl 1 rfl) ?_
  refine fl_get (C := RX5) (T := TX5) (N := 7) (ci := 4) (v := .int 18) hx hb ht in_X5 hown hK hP 0 rfl rfl 1 (by decide) mw_130 rfl dX5_addNumber_8 ?_
  refine lv_sipush (v := 400) hx hb dX5_addNumber_11 (by decide) ?_
  refine lv_icmp_ge (tgt := 43) hx hb dX5_addNumber_14 (by decide) (fun c9 => absurd c9 (by decide)) (fun c_12 => ?_)
  refine lv_aload_n hx hb dX5_addNumber_17 rfl (lv_at hl 1 rfl) ?_
  refine fl_get (C := RX5) (T := TX5) (N := 7) (ci := 4) (v := .ref g0) hx hb ht in_X5 hown hK hP 0 rfl rfl 0 (by decide) mw_128 rfl dX5_addNumber_18 ?_
  refine lv_aload_n hx hb dX5_addNumber_21 rfl (lv_at hl 1 rfl) ?_
  refine fl_get (C := RX5) (T := TX5) (N := 7) (ci := 4) (v := .int 18) hx hb ht in_X5 hown hK hP 0 rfl rfl 1 (by decide) mw_130 rfl dX5_addNumber_22 ?_
  refine lv_iload_n hx hb dX5_addNumber_25 rfl (lv_at hl 2 rfl) ?_
  refine lv_iload_n hx hb dX5_addNumber_26 rfl (lv_at hl 0 rfl) ?_
  refine lv_ishr hx hb dX5_addNumber_27 ?_
  refine lv_topi (fun x_13 ex_13 => ?_)
  refine lv_sipush (v := 255) hx hb dX5_addNumber_28 (by decide) ?_
  refine lv_iand hx hb dX5_addNumber_31 ?_
  refine lv_topi (fun x_14 ex_14 => ?_)
  refine va_iast hx hb hK hP hD hS 1 0 rfl rfl (in_c rfl) dX5_addNumber_32 (fun H locs hP hD hS => ?_)
  generalize upd f_10 (Int32.toNatClampNeg 18) x_14 = f_15 at hP hD
  have hP : va_P D vwCl [(h0, .inr (4, [.ref g0, .int 18, .int 0, .int 0, .int 0, .int 0, .int 0])), (g0, .inl (q 0, 400, .inl f_15))] H := hP
  have hD : va_D _ [(h0, .inr (4, [.ref g0, .int 18, .int 0, .int 0, .int 0, .int 0, .int 0])), (g0, .inl (q 0, 400, .inl f_15))] := hD
  refine lv_aload_n hx hb dX5_addNumber_33 rfl (lv_at hl 1 rfl) ?_
  refine lv_dup hx hb dX5_addNumber_34 rfl ?_
  refine fl_get (C := RX5) (T := TX5) (N := 7) (ci := 4) (v := .int 18) hx hb ht in_X5 hown hK hP 0 rfl rfl 1 (by decide) mw_130 rfl dX5_addNumber_35 ?_
  refine lv_iconst (v := 1) hx hb dX5_addNumber_38 (by decide) ?_
  refine lv_iadd hx hb dX5_addNumber_39 ?_
  refine ab_i (v := 19) (by decide) ?_
  refine fl_put (C := RX5) (T := TX5) (N := 7) (ci := 4) (v := .int 19) (ws2 := [(h0, .inr (4, [.ref g0, .int 19, .int 0, .int 0, .int 0, .int 0, .int 0])), (g0, .inl (q 0, 400, .inl f_15))]) hx hb ht in_X5 tyX5_ok nmX5 hown hK hP hD hS 0 rfl rfl 1 (by decide) mw_130 rfl rfl rfl (Nat.le_of_ble_eq_true rfl) dX5_addNumber_40 rfl (fun H locs hP hD hS => ?_)
  refine lv_iinc (v := 0) (lv' := [(2, .int 0), (0, .ref h0), (1, .int x)]) hx hb dX5_addNumber_43 hl (k := 0) rfl (by decide) (by decide) rfl (fun ls hl => ?_)
  refine lv_goto (tgt := 3) hx hb dX5_addNumber_46 (by decide) ?_
  refine lv_iload_n hx hb dX5_addNumber_3 rfl (lv_at hl 0 rfl) ?_
  refine lv_if_lt (tgt := 49) hx hb dX5_addNumber_4 (by decide) (fun c9 => absurd c9 (by decide)) (fun c_16 => ?_)
  refine lv_aload_n hx hb dX5_addNumber_7 rfl (lv_at hl 1 rfl) ?_
  refine fl_get (C := RX5) (T := TX5) (N := 7) (ci := 4) (v := .int 19) hx hb ht in_X5 hown hK hP 0 rfl rfl 1 (by decide) mw_130 rfl dX5_addNumber_8 ?_
  refine lv_sipush (v := 400) hx hb dX5_addNumber_11 (by decide) ?_
  refine lv_icmp_ge (tgt := 43) hx hb dX5_addNumber_14 (by decide) (fun c9 => absurd c9 (by decide)) (fun c_17 => ?_)
  refine lv_aload_n hx hb dX5_addNumber_17 rfl (lv_at hl 1 rfl) ?_
  refine fl_get (C := RX5) (T := TX5) (N := 7) (ci := 4) (v := .ref g0) hx hb ht in_X5 hown hK hP 0 rfl rfl 0 (by decide) mw_128 rfl dX5_addNumber_18 ?_
  refine lv_aload_n hx hb dX5_addNumber_21 rfl (lv_at hl 1 rfl) ?_
  refine fl_get (C := RX5) (T := TX5) (N := 7) (ci := 4) (v := .int 19) hx hb ht in_X5 hown hK hP 0 rfl rfl 1 (by decide) mw_130 rfl dX5_addNumber_22 ?_
  refine lv_iload_n hx hb dX5_addNumber_25 rfl (lv_at hl 2 rfl) ?_
  refine lv_iload_n hx hb dX5_addNumber_26 rfl (lv_at hl 0 rfl) ?_
  refine lv_ishr hx hb dX5_addNumber_27 ?_
  refine lv_topi (fun x_18 ex_18 => ?_)
  refine lv_sipush (v := 255) hx hb dX5_addNumber_28 (by decide) ?_
  refine lv_iand hx hb dX5_addNumber_31 ?_
  refine lv_topi (fun x_19 ex_19 => ?_)
  refine va_iast hx hb hK hP hD hS 1 0 rfl rfl (in_c rfl) dX5_addNumber_32 (fun H locs hP hD hS => ?_)
  generalize upd f_15 (Int32.toNatClampNeg 19) x_19 = f_20 at hP hD
  have hP : va_P D vwCl [(h0, .inr (4, [.ref g0, .int 19, .int 0, .int 0, .int 0, .int 0, .int 0])), (g0, .inl (q 0, 400, .inl f_20))] H := hP
  have hD : va_D _ [(h0, .inr (4, [.ref g0, .int 19, .int 0, .int 0, .int 0, .int 0, .int 0])), (g0, .inl (q 0, 400, .inl f_20))] := hD
  refine lv_aload_n hx hb dX5_addNumber_33 rfl (lv_at hl 1 rfl) ?_
  refine lv_dup hx hb dX5_addNumber_34 rfl ?_
  refine fl_get (C := RX5) (T := TX5) (N := 7) (ci := 4) (v := .int 19) hx hb ht in_X5 hown hK hP 0 rfl rfl 1 (by decide) mw_130 rfl dX5_addNumber_35 ?_
  refine lv_iconst (v := 1) hx hb dX5_addNumber_38 (by decide) ?_
  refine lv_iadd hx hb dX5_addNumber_39 ?_
  refine ab_i (v := 20) (by decide) ?_
  refine fl_put (C := RX5) (T := TX5) (N := 7) (ci := 4) (v := .int 20) (ws2 := [(h0, .inr (4, [.ref g0, .int 20, .int 0, .int 0, .int 0, .int 0, .int 0])), (g0, .inl (q 0, 400, .inl f_20))]) hx hb ht in_X5 tyX5_ok nmX5 hown hK hP hD hS 0 rfl rfl 1 (by decide) mw_130 rfl rfl rfl (Nat.le_of_ble_eq_true rfl) dX5_addNumber_40 rfl (fun H locs hP hD hS => ?_)
  refine lv_iinc (v := (-8)) (lv' := [(2, .int (-8)), (0, .ref h0), (1, .int x)]) hx hb dX5_addNumber_43 hl (k := 0) rfl (by decide) (by decide) rfl (fun ls hl => ?_)
  refine lv_goto (tgt := 3) hx hb dX5_addNumber_46 (by decide) ?_
  refine lv_iload_n hx hb dX5_addNumber_3 rfl (lv_at hl 0 rfl) ?_
  refine lv_if_lt (tgt := 49) hx hb dX5_addNumber_4 (by decide) (fun c_21 => ?_) (fun c9 => absurd (by decide) c9)
  have hP := hP.sub (ws' := [(h0, .inr (4, [.ref g0, .int 20, .int 0, .int 0, .int 0, .int 0, .int 0])), (g0, .inl (q 0, 400, .inl f_20))]) [0, 1] rfl
  have hD := hD.sub (ws' := [(h0, .inr (4, [.ref g0, .int 20, .int 0, .int 0, .int 0, .int 0, .int 0])), (g0, .inl (q 0, 400, .inl f_20))]) [0, 1] (by decide) rfl
  exact mt_vret f_20 hx hb hr hk (trivial) hP hD hS dX5_addNumber_49
end
section
set_option maxHeartbeats 4000000 in
set_option maxRecDepth 100000 in
theorem ct_fill {l : Launch} {D : va_G} {q : Nat → ClassId} {sz : Nat} {g0 : Nat} {f : Nat → Int32} {x : Int32} : Met l yJ7_fill_53178 (Cond.code yJ7_fill_53178 cJ7_fill_53178 4 none :: w_all) ({ frames := 0, cells := 0, slots := 0, locals := 0 }) (mt_P D q [.ref g0, .int x] [(g0, .inl (q 0, 40, .inl f))] sz) (va_Qv (fun u : (Nat → Int32) => True) (mt_B D [(g0, .inl (q 0, 40, .inl f))] sz (fun u => [(g0, .inl (q 0, 40, .inl u))])) (va_A [(g0, .inl (q 0, 40, .inl f))] sz)) 0 0 (va_A [(g0, .inl (q 0, 40, .inl f))] sz) := by
  refine mt_start (by decide) (Nat.le_of_ble_eq_true rfl) ?_
  intro p e s m below meth c ls hx hb hr hml hown ht hk hin hP hQ hD hA hS hl
  have hK := hQ.1
  have hown : s.vm.findClass RJ7 = some m.cls := hown
  have hl : lv_has ls 4 [(0, .ref g0), (1, .int x)] := hl
  refine lv_iconst (v := 0) hx hb dJ7_fill_53178_0 (by decide) ?_
  refine lv_istore_n (lv' := [(2, .int 0), (0, .ref g0), (1, .int x)]) hx hb dJ7_fill_53178_1 rfl hl (by decide) rfl (fun ls hl => ?_)
  refine lv_aload_n hx hb dJ7_fill_53178_2 rfl (lv_at hl 1 rfl) ?_
  refine va_alen (v := 40) hx hb hK hP 0 0 rfl rfl rfl dJ7_fill_53178_3 ?_
  refine lv_istore_n (lv' := [(3, .int 40), (2, .int 0), (0, .ref g0), (1, .int x)]) hx hb dJ7_fill_53178_4 rfl hl (by decide) rfl (fun ls hl => ?_)
  refine lv_iload_n hx hb dJ7_fill_53178_5 rfl (lv_at hl 1 rfl) ?_
  refine lv_iload_n hx hb dJ7_fill_53178_6 rfl (lv_at hl 0 rfl) ?_
  refine lv_icmp_ge (tgt := 20) hx hb dJ7_fill_53178_7 (by decide) (fun c9 => absurd c9 (by decide)) (fun c_1 => ?_)
  refine lv_aload_n hx hb dJ7_fill_53178_10 rfl (lv_at hl 2 rfl) ?_
  refine lv_iload_n hx hb dJ7_fill_53178_11 rfl (lv_at hl 1 rfl) ?_
  refine lv_iload_n hx hb dJ7_fill_53178_12 rfl (lv_at hl 3 rfl) ?_
  refine va_iast hx hb hK hP hD hS 0 0 rfl rfl (in_c rfl) dJ7_fill_53178_13 (fun H locs hP hD hS => ?_)
  generalize upd f (Int32.toNatClampNeg 0) x = f_2 at hP hD
  have hP : va_P D vwCl [(g0, .inl (q 0, 40, .inl f_2))] H := hP
  have hD : va_D _ [(g0, .inl (q 0, 40, .inl f_2))] := hD
  refine lv_iinc (v := 1) (lv' := [(2, .int 1), (3, .int 40), (0, .ref g0), (1, .int x)]) hx hb dJ7_fill_53178_14 hl (k := 1) rfl (by decide) (by decide) rfl (fun ls hl => ?_)
  refine lv_goto (tgt := 5) hx hb dJ7_fill_53178_17 (by decide) ?_
  refine lv_iload_n hx hb dJ7_fill_53178_5 rfl (lv_at hl 0 rfl) ?_
  refine lv_iload_n hx hb dJ7_fill_53178_6 rfl (lv_at hl 1 rfl) ?_
  refine lv_icmp_ge (tgt := 20) hx hb dJ7_fill_53178_7 (by decide) (fun c9 => absurd c9 (by decide)) (fun c_3 => ?_)
  refine lv_aload_n hx hb dJ7_fill_53178_10 rfl (lv_at hl 2 rfl) ?_
  refine lv_iload_n hx hb dJ7_fill_53178_11 rfl (lv_at hl 0 rfl) ?_
  refine lv_iload_n hx hb dJ7_fill_53178_12 rfl (lv_at hl 3 rfl) ?_
  refine va_iast hx hb hK hP hD hS 0 0 rfl rfl (in_c rfl) dJ7_fill_53178_13 (fun H locs hP hD hS => ?_)
  generalize upd f_2 (Int32.toNatClampNeg 1) x = f_4 at hP hD
  have hP : va_P D vwCl [(g0, .inl (q 0, 40, .inl f_4))] H := hP
  have hD : va_D _ [(g0, .inl (q 0, 40, .inl f_4))] := hD
  refine lv_iinc (v := 2) (lv' := [(2, .int 2), (3, .int 40), (0, .ref g0), (1, .int x)]) hx hb dJ7_fill_53178_14 hl (k := 0) rfl (by decide) (by decide) rfl (fun ls hl => ?_)
  refine lv_goto (tgt := 5) hx hb dJ7_fill_53178_17 (by decide) ?_
  refine lv_iload_n hx hb dJ7_fill_53178_5 rfl (lv_at hl 0 rfl) ?_
  refine lv_iload_n hx hb dJ7_fill_53178_6 rfl (lv_at hl 1 rfl) ?_
  refine lv_icmp_ge (tgt := 20) hx hb dJ7_fill_53178_7 (by decide) (fun c9 => absurd c9 (by decide)) (fun c_5 => ?_)
  refine lv_aload_n hx hb dJ7_fill_53178_10 rfl (lv_at hl 2 rfl) ?_
  refine lv_iload_n hx hb dJ7_fill_53178_11 rfl (lv_at hl 0 rfl) ?_
  refine lv_iload_n hx hb dJ7_fill_53178_12 rfl (lv_at hl 3 rfl) ?_
  refine va_iast hx hb hK hP hD hS 0 0 rfl rfl (in_c rfl) dJ7_fill_53178_13 (fun H locs hP hD hS => ?_)
  generalize upd f_4 (Int32.toNatClampNeg 2) x = f_6 at hP hD
  have hP : va_P D vwCl [(g0, .inl (q 0, 40, .inl f_6))] H := hP
  have hD : va_D _ [(g0, .inl (q 0, 40, .inl f_6))] := hD
  refine lv_iinc (v := 3) (lv' := [(2, .int 3), (3, .int 40), (0, .ref g0), (1, .int x)]) hx hb dJ7_fill_53178_14 hl (k := 0) rfl (by decide) (by decide) rfl (fun ls hl => ?_)
  refine lv_goto (tgt := 5) hx hb dJ7_fill_53178_17 (by decide) ?_
  refine lv_iload_n hx hb dJ7_fill_53178_5 rfl (lv_at hl 0 rfl) ?_
  refine lv_iload_n hx hb dJ7_fill_53178_6 rfl (lv_at hl 1 rfl) ?_
  refine lv_icmp_ge (tgt := 20) hx hb dJ7_fill_53178_7 (by decide) (fun c9 => absurd c9 (by decide)) (fun c_7 => ?_)
  refine lv_aload_n hx hb dJ7_fill_53178_10 rfl (lv_at hl 2 rfl) ?_
  refine lv_iload_n hx hb dJ7_fill_53178_11 rfl (lv_at hl 0 rfl) ?_
  refine lv_iload_n hx hb dJ7_fill_53178_12 rfl (lv_at hl 3 rfl) ?_
  refine va_iast hx hb hK hP hD hS 0 0 rfl rfl (in_c rfl) dJ7_fill_53178_13 (fun H locs hP hD hS => ?_)
  generalize upd f_6 (Int32.toNatClampNeg 3) x = f_8 at hP hD
  have hP : va_P D vwCl [(g0, .inl (q 0, 40, .inl f_8))] H := hP
  have hD : va_D _ [(g0, .inl (q 0, 40, .inl f_8))] := hD
  refine lv_iinc (v := 4) (lv' := [(2, .int 4), (3, .int 40), (0, .ref g0), (1, .int x)]) hx hb dJ7_fill_53178_14 hl (k := 0) rfl (by decide) (by decide) rfl (fun ls hl => ?_)
  refine lv_goto (tgt := 5) hx hb dJ7_fill_53178_17 (by decide) ?_
  refine lv_iload_n hx hb dJ7_fill_53178_5 rfl (lv_at hl 0 rfl) ?_
  refine lv_iload_n hx hb dJ7_fill_53178_6 rfl (lv_at hl 1 rfl) ?_
  refine lv_icmp_ge (tgt := 20) hx hb dJ7_fill_53178_7 (by decide) (fun c9 => absurd c9 (by decide)) (fun c_9 => ?_)
  refine lv_aload_n hx hb dJ7_fill_53178_10 rfl (lv_at hl 2 rfl) ?_
  refine lv_iload_n hx hb dJ7_fill_53178_11 rfl (lv_at hl 0 rfl) ?_
  refine lv_iload_n hx hb dJ7_fill_53178_12 rfl (lv_at hl 3 rfl) ?_
  refine va_iast hx hb hK hP hD hS 0 0 rfl rfl (in_c rfl) dJ7_fill_53178_13 (fun H locs hP hD hS => ?_)
  generalize upd f_8 (Int32.toNatClampNeg 4) x = f_10 at hP hD
  have hP : va_P D vwCl [(g0, .inl (q 0, 40, .inl f_10))] H := hP
  have hD : va_D _ [(g0, .inl (q 0, 40, .inl f_10))] := hD
  refine lv_iinc (v := 5) (lv' := [(2, .int 5), (3, .int 40), (0, .ref g0), (1, .int x)]) hx hb dJ7_fill_53178_14 hl (k := 0) rfl (by decide) (by decide) rfl (fun ls hl => ?_)
  refine lv_goto (tgt := 5) hx hb dJ7_fill_53178_17 (by decide) ?_
  refine lv_iload_n hx hb dJ7_fill_53178_5 rfl (lv_at hl 0 rfl) ?_
  refine lv_iload_n hx hb dJ7_fill_53178_6 rfl (lv_at hl 1 rfl) ?_
  refine lv_icmp_ge (tgt := 20) hx hb dJ7_fill_53178_7 (by decide) (fun c9 => absurd c9 (by decide)) (fun c_11 => ?_)
  refine lv_aload_n hx hb dJ7_fill_53178_10 rfl (lv_at hl 2 rfl) ?_
  refine lv_iload_n hx hb dJ7_fill_53178_11 rfl (lv_at hl 0 rfl) ?_
  refine lv_iload_n hx hb dJ7_fill_53178_12 rfl (lv_at hl 3 rfl) ?_
  refine va_iast hx hb hK hP hD hS 0 0 rfl rfl (in_c rfl) dJ7_fill_53178_13 (fun H locs hP hD hS => ?_)
  generalize upd f_10 (Int32.toNatClampNeg 5) x = f_12 at hP hD
  have hP : va_P D vwCl [(g0, .inl (q 0, 40, .inl f_12))] H := hP
  have hD : va_D _ [(g0, .inl (q 0, 40, .inl f_12))] := hD
  refine lv_iinc (v := 6) (lv' := [(2, .int 6), (3, .int 40), (0, .ref g0), (1, .int x)]) hx hb dJ7_fill_53178_14 hl (k := 0) rfl (by decide) (by decide) rfl (fun ls hl => ?_)
  refine lv_goto (tgt := 5) hx hb dJ7_fill_53178_17 (by decide) ?_
  refine lv_iload_n hx hb dJ7_fill_53178_5 rfl (lv_at hl 0 rfl) ?_
  refine lv_iload_n hx hb dJ7_fill_53178_6 rfl (lv_at hl 1 rfl) ?_
  refine lv_icmp_ge (tgt := 20) hx hb dJ7_fill_53178_7 (by decide) (fun c9 => absurd c9 (by decide)) (fun c_13 => ?_)
  refine lv_aload_n hx hb dJ7_fill_53178_10 rfl (lv_at hl 2 rfl) ?_
  refine lv_iload_n hx hb dJ7_fill_53178_11 rfl (lv_at hl 0 rfl) ?_
  refine lv_iload_n hx hb dJ7_fill_53178_12 rfl (lv_at hl 3 rfl) ?_
  refine va_iast hx hb hK hP hD hS 0 0 rfl rfl (in_c rfl) dJ7_fill_53178_13 (fun H locs hP hD hS => ?_)
  generalize upd f_12 (Int32.toNatClampNeg 6) x = f_14 at hP hD
  have hP : va_P D vwCl [(g0, .inl (q 0, 40, .inl f_14))] H := hP
  have hD : va_D _ [(g0, .inl (q 0, 40, .inl f_14))] := hD
  refine lv_iinc (v := 7) (lv' := [(2, .int 7), (3, .int 40), (0, .ref g0), (1, .int x)]) hx hb dJ7_fill_53178_14 hl (k := 0) rfl (by decide) (by decide) rfl (fun ls hl => ?_)
  refine lv_goto (tgt := 5) hx hb dJ7_fill_53178_17 (by decide) ?_
  refine lv_iload_n hx hb dJ7_fill_53178_5 rfl (lv_at hl 0 rfl) ?_
  refine lv_iload_n hx hb dJ7_fill_53178_6 rfl (lv_at hl 1 rfl) ?_
  refine lv_icmp_ge (tgt := 20) hx hb dJ7_fill_53178_7 (by decide) (fun c9 => absurd c9 (by decide)) (fun c_15 => ?_)
  refine lv_aload_n hx hb dJ7_fill_53178_10 rfl (lv_at hl 2 rfl) ?_
  refine lv_iload_n hx hb dJ7_fill_53178_11 rfl (lv_at hl 0 rfl) ?_
  refine lv_iload_n hx hb dJ7_fill_53178_12 rfl (lv_at hl 3 rfl) ?_
  refine va_iast hx hb hK hP hD hS 0 0 rfl rfl (in_c rfl) dJ7_fill_53178_13 (fun H locs hP hD hS => ?_)
  generalize upd f_14 (Int32.toNatClampNeg 7) x = f_16 at hP hD
  have hP : va_P D vwCl [(g0, .inl (q 0, 40, .inl f_16))] H := hP
  have hD : va_D _ [(g0, .inl (q 0, 40, .inl f_16))] := hD
  refine lv_iinc (v := 8) (lv' := [(2, .int 8), (3, .int 40), (0, .ref g0), (1, .int x)]) hx hb dJ7_fill_53178_14 hl (k := 0) rfl (by decide) (by decide) rfl (fun ls hl => ?_)
  refine lv_goto (tgt := 5) hx hb dJ7_fill_53178_17 (by decide) ?_
  refine lv_iload_n hx hb dJ7_fill_53178_5 rfl (lv_at hl 0 rfl) ?_
  refine lv_iload_n hx hb dJ7_fill_53178_6 rfl (lv_at hl 1 rfl) ?_
  refine lv_icmp_ge (tgt := 20) hx hb dJ7_fill_53178_7 (by decide) (fun c9 => absurd c9 (by decide)) (fun c_17 => ?_)
  refine lv_aload_n hx hb dJ7_fill_53178_10 rfl (lv_at hl 2 rfl) ?_
  refine lv_iload_n hx hb dJ7_fill_53178_11 rfl (lv_at hl 0 rfl) ?_
  refine lv_iload_n hx hb dJ7_fill_53178_12 rfl (lv_at hl 3 rfl) ?_
  refine va_iast hx hb hK hP hD hS 0 0 rfl rfl (in_c rfl) dJ7_fill_53178_13 (fun H locs hP hD hS => ?_)
  generalize upd f_16 (Int32.toNatClampNeg 8) x = f_18 at hP hD
  have hP : va_P D vwCl [(g0, .inl (q 0, 40, .inl f_18))] H := hP
  have hD : va_D _ [(g0, .inl (q 0, 40, .inl f_18))] := hD
  refine lv_iinc (v := 9) (lv' := [(2, .int 9), (3, .int 40), (0, .ref g0), (1, .int x)]) hx hb dJ7_fill_53178_14 hl (k := 0) rfl (by decide) (by decide) rfl (fun ls hl => ?_)
  refine lv_goto (tgt := 5) hx hb dJ7_fill_53178_17 (by decide) ?_
  refine lv_iload_n hx hb dJ7_fill_53178_5 rfl (lv_at hl 0 rfl) ?_
  refine lv_iload_n hx hb dJ7_fill_53178_6 rfl (lv_at hl 1 rfl) ?_
  refine lv_icmp_ge (tgt := 20) hx hb dJ7_fill_53178_7 (by decide) (fun c9 => absurd c9 (by decide)) (fun c_19 => ?_)
  refine lv_aload_n hx hb dJ7_fill_53178_10 rfl (lv_at hl 2 rfl) ?_
  refine lv_iload_n hx hb dJ7_fill_53178_11 rfl (lv_at hl 0 rfl) ?_
  refine lv_iload_n hx hb dJ7_fill_53178_12 rfl (lv_at hl 3 rfl) ?_
  refine va_iast hx hb hK hP hD hS 0 0 rfl rfl (in_c rfl) dJ7_fill_53178_13 (fun H locs hP hD hS => ?_)
  generalize upd f_18 (Int32.toNatClampNeg 9) x = f_20 at hP hD
  have hP : va_P D vwCl [(g0, .inl (q 0, 40, .inl f_20))] H := hP
  have hD : va_D _ [(g0, .inl (q 0, 40, .inl f_20))] := hD
  refine lv_iinc (v := 10) (lv' := [(2, .int 10), (3, .int 40), (0, .ref g0), (1, .int x)]) hx hb dJ7_fill_53178_14 hl (k := 0) rfl (by decide) (by decide) rfl (fun ls hl => ?_)
  refine lv_goto (tgt := 5) hx hb dJ7_fill_53178_17 (by decide) ?_
  refine lv_iload_n hx hb dJ7_fill_53178_5 rfl (lv_at hl 0 rfl) ?_
  refine lv_iload_n hx hb dJ7_fill_53178_6 rfl (lv_at hl 1 rfl) ?_
  refine lv_icmp_ge (tgt := 20) hx hb dJ7_fill_53178_7 (by decide) (fun c9 => absurd c9 (by decide)) (fun c_21 => ?_)
  refine lv_aload_n hx hb dJ7_fill_53178_10 rfl (lv_at hl 2 rfl) ?_
  refine lv_iload_n hx hb dJ7_fill_53178_11 rfl (lv_at hl 0 rfl) ?_
  refine lv_iload_n hx hb dJ7_fill_53178_12 rfl (lv_at hl 3 rfl) ?_
  refine va_iast hx hb hK hP hD hS 0 0 rfl rfl (in_c rfl) dJ7_fill_53178_13 (fun H locs hP hD hS => ?_)
  generalize upd f_20 (Int32.toNatClampNeg 10) x = f_22 at hP hD
  have hP : va_P D vwCl [(g0, .inl (q 0, 40, .inl f_22))] H := hP
  have hD : va_D _ [(g0, .inl (q 0, 40, .inl f_22))] := hD
  refine lv_iinc (v := 11) (lv' := [(2, .int 11), (3, .int 40), (0, .ref g0), (1, .int x)]) hx hb dJ7_fill_53178_14 hl (k := 0) rfl (by decide) (by decide) rfl (fun ls hl => ?_)
  refine lv_goto (tgt := 5) hx hb dJ7_fill_53178_17 (by decide) ?_
  refine lv_iload_n hx hb dJ7_fill_53178_5 rfl (lv_at hl 0 rfl) ?_
  refine lv_iload_n hx hb dJ7_fill_53178_6 rfl (lv_at hl 1 rfl) ?_
  refine lv_icmp_ge (tgt := 20) hx hb dJ7_fill_53178_7 (by decide) (fun c9 => absurd c9 (by decide)) (fun c_23 => ?_)
  refine lv_aload_n hx hb dJ7_fill_53178_10 rfl (lv_at hl 2 rfl) ?_
  refine lv_iload_n hx hb dJ7_fill_53178_11 rfl (lv_at hl 0 rfl) ?_
  refine lv_iload_n hx hb dJ7_fill_53178_12 rfl (lv_at hl 3 rfl) ?_
  refine va_iast hx hb hK hP hD hS 0 0 rfl rfl (in_c rfl) dJ7_fill_53178_13 (fun H locs hP hD hS => ?_)
  generalize upd f_22 (Int32.toNatClampNeg 11) x = f_24 at hP hD
  have hP : va_P D vwCl [(g0, .inl (q 0, 40, .inl f_24))] H := hP
  have hD : va_D _ [(g0, .inl (q 0, 40, .inl f_24))] := hD
  refine lv_iinc (v := 12) (lv' := [(2, .int 12), (3, .int 40), (0, .ref g0), (1, .int x)]) hx hb dJ7_fill_53178_14 hl (k := 0) rfl (by decide) (by decide) rfl (fun ls hl => ?_)
  refine lv_goto (tgt := 5) hx hb dJ7_fill_53178_17 (by decide) ?_
  refine lv_iload_n hx hb dJ7_fill_53178_5 rfl (lv_at hl 0 rfl) ?_
  refine lv_iload_n hx hb dJ7_fill_53178_6 rfl (lv_at hl 1 rfl) ?_
  refine lv_icmp_ge (tgt := 20) hx hb dJ7_fill_53178_7 (by decide) (fun c9 => absurd c9 (by decide)) (fun c_25 => ?_)
  refine lv_aload_n hx hb dJ7_fill_53178_10 rfl (lv_at hl 2 rfl) ?_
  refine lv_iload_n hx hb dJ7_fill_53178_11 rfl (lv_at hl 0 rfl) ?_
  refine lv_iload_n hx hb dJ7_fill_53178_12 rfl (lv_at hl 3 rfl) ?_
  refine va_iast hx hb hK hP hD hS 0 0 rfl rfl (in_c rfl) dJ7_fill_53178_13 (fun H locs hP hD hS => ?_)
  generalize upd f_24 (Int32.toNatClampNeg 12) x = f_26 at hP hD
  have hP : va_P D vwCl [(g0, .inl (q 0, 40, .inl f_26))] H := hP
  have hD : va_D _ [(g0, .inl (q 0, 40, .inl f_26))] := hD
  refine lv_iinc (v := 13) (lv' := [(2, .int 13), (3, .int 40), (0, .ref g0), (1, .int x)]) hx hb dJ7_fill_53178_14 hl (k := 0) rfl (by decide) (by decide) rfl (fun ls hl => ?_)
  refine lv_goto (tgt := 5) hx hb dJ7_fill_53178_17 (by decide) ?_
  refine lv_iload_n hx hb dJ7_fill_53178_5 rfl (lv_at hl 0 rfl) ?_
  refine lv_iload_n hx hb dJ7_fill_53178_6 rfl (lv_at hl 1 rfl) ?_
  refine lv_icmp_ge (tgt := 20) hx hb dJ7_fill_53178_7 (by decide) (fun c9 => absurd c9 (by decide)) (fun c_27 => ?_)
  refine lv_aload_n hx hb dJ7_fill_53178_10 rfl (lv_at hl 2 rfl) ?_
  refine lv_iload_n hx hb dJ7_fill_53178_11 rfl (lv_at hl 0 rfl) ?_
  refine lv_iload_n hx hb dJ7_fill_53178_12 rfl (lv_at hl 3 rfl) ?_
  refine va_iast hx hb hK hP hD hS 0 0 rfl rfl (in_c rfl) dJ7_fill_53178_13 (fun H locs hP hD hS => ?_)
  generalize upd f_26 (Int32.toNatClampNeg 13) x = f_28 at hP hD
  have hP : va_P D vwCl [(g0, .inl (q 0, 40, .inl f_28))] H := hP
  have hD : va_D _ [(g0, .inl (q 0, 40, .inl f_28))] := hD
  refine lv_iinc (v := 14) (lv' := [(2, .int 14), (3, .int 40), (0, .ref g0), (1, .int x)]) hx hb dJ7_fill_53178_14 hl (k := 0) rfl (by decide) (by decide) rfl (fun ls hl => ?_)
  refine lv_goto (tgt := 5) hx hb dJ7_fill_53178_17 (by decide) ?_
  refine lv_iload_n hx hb dJ7_fill_53178_5 rfl (lv_at hl 0 rfl) ?_
  refine lv_iload_n hx hb dJ7_fill_53178_6 rfl (lv_at hl 1 rfl) ?_
  refine lv_icmp_ge (tgt := 20) hx hb dJ7_fill_53178_7 (by decide) (fun c9 => absurd c9 (by decide)) (fun c_29 => ?_)
  refine lv_aload_n hx hb dJ7_fill_53178_10 rfl (lv_at hl 2 rfl) ?_
  refine lv_iload_n hx hb dJ7_fill_53178_11 rfl (lv_at hl 0 rfl) ?_
  refine lv_iload_n hx hb dJ7_fill_53178_12 rfl (lv_at hl 3 rfl) ?_
  refine va_iast hx hb hK hP hD hS 0 0 rfl rfl (in_c rfl) dJ7_fill_53178_13 (fun H locs hP hD hS => ?_)
  generalize upd f_28 (Int32.toNatClampNeg 14) x = f_30 at hP hD
  have hP : va_P D vwCl [(g0, .inl (q 0, 40, .inl f_30))] H := hP
  have hD : va_D _ [(g0, .inl (q 0, 40, .inl f_30))] := hD
  refine lv_iinc (v := 15) (lv' := [(2, .int 15), (3, .int 40), (0, .ref g0), (1, .int x)]) hx hb dJ7_fill_53178_14 hl (k := 0) rfl (by decide) (by decide) rfl (fun ls hl => ?_)
  refine lv_goto (tgt := 5) hx hb dJ7_fill_53178_17 (by decide) ?_
  refine lv_iload_n hx hb dJ7_fill_53178_5 rfl (lv_at hl 0 rfl) ?_
  refine lv_iload_n hx hb dJ7_fill_53178_6 rfl (lv_at hl 1 rfl) ?_
  refine lv_icmp_ge (tgt := 20) hx hb dJ7_fill_53178_7 (by decide) (fun c9 => absurd c9 (by decide)) (fun c_31 => ?_)
  refine lv_aload_n hx hb dJ7_fill_53178_10 rfl (lv_at hl 2 rfl) ?_
  refine lv_iload_n hx hb dJ7_fill_53178_11 rfl (lv_at hl 0 rfl) ?_
  refine lv_iload_n hx hb dJ7_fill_53178_12 rfl (lv_at hl 3 rfl) ?_
  refine va_iast hx hb hK hP hD hS 0 0 rfl rfl (in_c rfl) dJ7_fill_53178_13 (fun H locs hP hD hS => ?_)
  generalize upd f_30 (Int32.toNatClampNeg 15) x = f_32 at hP hD
  have hP : va_P D vwCl [(g0, .inl (q 0, 40, .inl f_32))] H := hP
  have hD : va_D _ [(g0, .inl (q 0, 40, .inl f_32))] := hD
  refine lv_iinc (v := 16) (lv' := [(2, .int 16), (3, .int 40), (0, .ref g0), (1, .int x)]) hx hb dJ7_fill_53178_14 hl (k := 0) rfl (by decide) (by decide) rfl (fun ls hl => ?_)
  refine lv_goto (tgt := 5) hx hb dJ7_fill_53178_17 (by decide) ?_
  refine lv_iload_n hx hb dJ7_fill_53178_5 rfl (lv_at hl 0 rfl) ?_
  refine lv_iload_n hx hb dJ7_fill_53178_6 rfl (lv_at hl 1 rfl) ?_
  refine lv_icmp_ge (tgt := 20) hx hb dJ7_fill_53178_7 (by decide) (fun c9 => absurd c9 (by decide)) (fun c_33 => ?_)
  refine lv_aload_n hx hb dJ7_fill_53178_10 rfl (lv_at hl 2 rfl) ?_
  refine lv_iload_n hx hb dJ7_fill_53178_11 rfl (lv_at hl 0 rfl) ?_
  refine lv_iload_n hx hb dJ7_fill_53178_12 rfl (lv_at hl 3 rfl) ?_
  refine va_iast hx hb hK hP hD hS 0 0 rfl rfl (in_c rfl) dJ7_fill_53178_13 (fun H locs hP hD hS => ?_)
  generalize upd f_32 (Int32.toNatClampNeg 16) x = f_34 at hP hD
  have hP : va_P D vwCl [(g0, .inl (q 0, 40, .inl f_34))] H := hP
  have hD : va_D _ [(g0, .inl (q 0, 40, .inl f_34))] := hD
  refine lv_iinc (v := 17) (lv' := [(2, .int 17), (3, .int 40), (0, .ref g0), (1, .int x)]) hx hb dJ7_fill_53178_14 hl (k := 0) rfl (by decide) (by decide) rfl (fun ls hl => ?_)
  refine lv_goto (tgt := 5) hx hb dJ7_fill_53178_17 (by decide) ?_
  refine lv_iload_n hx hb dJ7_fill_53178_5 rfl (lv_at hl 0 rfl) ?_
  refine lv_iload_n hx hb dJ7_fill_53178_6 rfl (lv_at hl 1 rfl) ?_
  refine lv_icmp_ge (tgt := 20) hx hb dJ7_fill_53178_7 (by decide) (fun c9 => absurd c9 (by decide)) (fun c_35 => ?_)
  refine lv_aload_n hx hb dJ7_fill_53178_10 rfl (lv_at hl 2 rfl) ?_
  refine lv_iload_n hx hb dJ7_fill_53178_11 rfl (lv_at hl 0 rfl) ?_
  refine lv_iload_n hx hb dJ7_fill_53178_12 rfl (lv_at hl 3 rfl) ?_
  refine va_iast hx hb hK hP hD hS 0 0 rfl rfl (in_c rfl) dJ7_fill_53178_13 (fun H locs hP hD hS => ?_)
  generalize upd f_34 (Int32.toNatClampNeg 17) x = f_36 at hP hD
  have hP : va_P D vwCl [(g0, .inl (q 0, 40, .inl f_36))] H := hP
  have hD : va_D _ [(g0, .inl (q 0, 40, .inl f_36))] := hD
  refine lv_iinc (v := 18) (lv' := [(2, .int 18), (3, .int 40), (0, .ref g0), (1, .int x)]) hx hb dJ7_fill_53178_14 hl (k := 0) rfl (by decide) (by decide) rfl (fun ls hl => ?_)
  refine lv_goto (tgt := 5) hx hb dJ7_fill_53178_17 (by decide) ?_
  refine lv_iload_n hx hb dJ7_fill_53178_5 rfl (lv_at hl 0 rfl) ?_
  refine lv_iload_n hx hb dJ7_fill_53178_6 rfl (lv_at hl 1 rfl) ?_
  refine lv_icmp_ge (tgt := 20) hx hb dJ7_fill_53178_7 (by decide) (fun c9 => absurd c9 (by decide)) (fun c_37 => ?_)
  refine lv_aload_n hx hb dJ7_fill_53178_10 rfl (lv_at hl 2 rfl) ?_
  refine lv_iload_n hx hb dJ7_fill_53178_11 rfl (lv_at hl 0 rfl) ?_
  refine lv_iload_n hx hb dJ7_fill_53178_12 rfl (lv_at hl 3 rfl) ?_
  refine va_iast hx hb hK hP hD hS 0 0 rfl rfl (in_c rfl) dJ7_fill_53178_13 (fun H locs hP hD hS => ?_)
  generalize upd f_36 (Int32.toNatClampNeg 18) x = f_38 at hP hD
  have hP : va_P D vwCl [(g0, .inl (q 0, 40, .inl f_38))] H := hP
  have hD : va_D _ [(g0, .inl (q 0, 40, .inl f_38))] := hD
  refine lv_iinc (v := 19) (lv' := [(2, .int 19), (3, .int 40), (0, .ref g0), (1, .int x)]) hx hb dJ7_fill_53178_14 hl (k := 0) rfl (by decide) (by decide) rfl (fun ls hl => ?_)
  refine lv_goto (tgt := 5) hx hb dJ7_fill_53178_17 (by decide) ?_
  refine lv_iload_n hx hb dJ7_fill_53178_5 rfl (lv_at hl 0 rfl) ?_
  refine lv_iload_n hx hb dJ7_fill_53178_6 rfl (lv_at hl 1 rfl) ?_
  refine lv_icmp_ge (tgt := 20) hx hb dJ7_fill_53178_7 (by decide) (fun c9 => absurd c9 (by decide)) (fun c_39 => ?_)
  refine lv_aload_n hx hb dJ7_fill_53178_10 rfl (lv_at hl 2 rfl) ?_
  refine lv_iload_n hx hb dJ7_fill_53178_11 rfl (lv_at hl 0 rfl) ?_
  refine lv_iload_n hx hb dJ7_fill_53178_12 rfl (lv_at hl 3 rfl) ?_
  refine va_iast hx hb hK hP hD hS 0 0 rfl rfl (in_c rfl) dJ7_fill_53178_13 (fun H locs hP hD hS => ?_)
  generalize upd f_38 (Int32.toNatClampNeg 19) x = f_40 at hP hD
  have hP : va_P D vwCl [(g0, .inl (q 0, 40, .inl f_40))] H := hP
  have hD : va_D _ [(g0, .inl (q 0, 40, .inl f_40))] := hD
  refine lv_iinc (v := 20) (lv' := [(2, .int 20), (3, .int 40), (0, .ref g0), (1, .int x)]) hx hb dJ7_fill_53178_14 hl (k := 0) rfl (by decide) (by decide) rfl (fun ls hl => ?_)
  refine lv_goto (tgt := 5) hx hb dJ7_fill_53178_17 (by decide) ?_
  refine lv_iload_n hx hb dJ7_fill_53178_5 rfl (lv_at hl 0 rfl) ?_
  refine lv_iload_n hx hb dJ7_fill_53178_6 rfl (lv_at hl 1 rfl) ?_
  refine lv_icmp_ge (tgt := 20) hx hb dJ7_fill_53178_7 (by decide) (fun c9 => absurd c9 (by decide)) (fun c_41 => ?_)
  refine lv_aload_n hx hb dJ7_fill_53178_10 rfl (lv_at hl 2 rfl) ?_
  refine lv_iload_n hx hb dJ7_fill_53178_11 rfl (lv_at hl 0 rfl) ?_
  refine lv_iload_n hx hb dJ7_fill_53178_12 rfl (lv_at hl 3 rfl) ?_
  refine va_iast hx hb hK hP hD hS 0 0 rfl rfl (in_c rfl) dJ7_fill_53178_13 (fun H locs hP hD hS => ?_)
  generalize upd f_40 (Int32.toNatClampNeg 20) x = f_42 at hP hD
  have hP : va_P D vwCl [(g0, .inl (q 0, 40, .inl f_42))] H := hP
  have hD : va_D _ [(g0, .inl (q 0, 40, .inl f_42))] := hD
  refine lv_iinc (v := 21) (lv' := [(2, .int 21), (3, .int 40), (0, .ref g0), (1, .int x)]) hx hb dJ7_fill_53178_14 hl (k := 0) rfl (by decide) (by decide) rfl (fun ls hl => ?_)
  refine lv_goto (tgt := 5) hx hb dJ7_fill_53178_17 (by decide) ?_
  refine lv_iload_n hx hb dJ7_fill_53178_5 rfl (lv_at hl 0 rfl) ?_
  refine lv_iload_n hx hb dJ7_fill_53178_6 rfl (lv_at hl 1 rfl) ?_
  refine lv_icmp_ge (tgt := 20) hx hb dJ7_fill_53178_7 (by decide) (fun c9 => absurd c9 (by decide)) (fun c_43 => ?_)
  refine lv_aload_n hx hb dJ7_fill_53178_10 rfl (lv_at hl 2 rfl) ?_
  refine lv_iload_n hx hb dJ7_fill_53178_11 rfl (lv_at hl 0 rfl) ?_
  refine lv_iload_n hx hb dJ7_fill_53178_12 rfl (lv_at hl 3 rfl) ?_
  refine va_iast hx hb hK hP hD hS 0 0 rfl rfl (in_c rfl) dJ7_fill_53178_13 (fun H locs hP hD hS => ?_)
  generalize upd f_42 (Int32.toNatClampNeg 21) x = f_44 at hP hD
  have hP : va_P D vwCl [(g0, .inl (q 0, 40, .inl f_44))] H := hP
  have hD : va_D _ [(g0, .inl (q 0, 40, .inl f_44))] := hD
  refine lv_iinc (v := 22) (lv' := [(2, .int 22), (3, .int 40), (0, .ref g0), (1, .int x)]) hx hb dJ7_fill_53178_14 hl (k := 0) rfl (by decide) (by decide) rfl (fun ls hl => ?_)
  refine lv_goto (tgt := 5) hx hb dJ7_fill_53178_17 (by decide) ?_
  refine lv_iload_n hx hb dJ7_fill_53178_5 rfl (lv_at hl 0 rfl) ?_
  refine lv_iload_n hx hb dJ7_fill_53178_6 rfl (lv_at hl 1 rfl) ?_
  refine lv_icmp_ge (tgt := 20) hx hb dJ7_fill_53178_7 (by decide) (fun c9 => absurd c9 (by decide)) (fun c_45 => ?_)
  refine lv_aload_n hx hb dJ7_fill_53178_10 rfl (lv_at hl 2 rfl) ?_
  refine lv_iload_n hx hb dJ7_fill_53178_11 rfl (lv_at hl 0 rfl) ?_
  refine lv_iload_n hx hb dJ7_fill_53178_12 rfl (lv_at hl 3 rfl) ?_
  refine va_iast hx hb hK hP hD hS 0 0 rfl rfl (in_c rfl) dJ7_fill_53178_13 (fun H locs hP hD hS => ?_)
  generalize upd f_44 (Int32.toNatClampNeg 22) x = f_46 at hP hD
  have hP : va_P D vwCl [(g0, .inl (q 0, 40, .inl f_46))] H := hP
  have hD : va_D _ [(g0, .inl (q 0, 40, .inl f_46))] := hD
  refine lv_iinc (v := 23) (lv' := [(2, .int 23), (3, .int 40), (0, .ref g0), (1, .int x)]) hx hb dJ7_fill_53178_14 hl (k := 0) rfl (by decide) (by decide) rfl (fun ls hl => ?_)
  refine lv_goto (tgt := 5) hx hb dJ7_fill_53178_17 (by decide) ?_
  refine lv_iload_n hx hb dJ7_fill_53178_5 rfl (lv_at hl 0 rfl) ?_
  refine lv_iload_n hx hb dJ7_fill_53178_6 rfl (lv_at hl 1 rfl) ?_
  refine lv_icmp_ge (tgt := 20) hx hb dJ7_fill_53178_7 (by decide) (fun c9 => absurd c9 (by decide)) (fun c_47 => ?_)
  refine lv_aload_n hx hb dJ7_fill_53178_10 rfl (lv_at hl 2 rfl) ?_
  refine lv_iload_n hx hb dJ7_fill_53178_11 rfl (lv_at hl 0 rfl) ?_
  refine lv_iload_n hx hb dJ7_fill_53178_12 rfl (lv_at hl 3 rfl) ?_
  refine va_iast hx hb hK hP hD hS 0 0 rfl rfl (in_c rfl) dJ7_fill_53178_13 (fun H locs hP hD hS => ?_)
  generalize upd f_46 (Int32.toNatClampNeg 23) x = f_48 at hP hD
  have hP : va_P D vwCl [(g0, .inl (q 0, 40, .inl f_48))] H := hP
  have hD : va_D _ [(g0, .inl (q 0, 40, .inl f_48))] := hD
  refine lv_iinc (v := 24) (lv' := [(2, .int 24), (3, .int 40), (0, .ref g0), (1, .int x)]) hx hb dJ7_fill_53178_14 hl (k := 0) rfl (by decide) (by decide) rfl (fun ls hl => ?_)
  refine lv_goto (tgt := 5) hx hb dJ7_fill_53178_17 (by decide) ?_
  refine lv_iload_n hx hb dJ7_fill_53178_5 rfl (lv_at hl 0 rfl) ?_
  refine lv_iload_n hx hb dJ7_fill_53178_6 rfl (lv_at hl 1 rfl) ?_
  refine lv_icmp_ge (tgt := 20) hx hb dJ7_fill_53178_7 (by decide) (fun c9 => absurd c9 (by decide)) (fun c_49 => ?_)
  refine lv_aload_n hx hb dJ7_fill_53178_10 rfl (lv_at hl 2 rfl) ?_
  refine lv_iload_n hx hb dJ7_fill_53178_11 rfl (lv_at hl 0 rfl) ?_
  refine lv_iload_n hx hb dJ7_fill_53178_12 rfl (lv_at hl 3 rfl) ?_
  refine va_iast hx hb hK hP hD hS 0 0 rfl rfl (in_c rfl) dJ7_fill_53178_13 (fun H locs hP hD hS => ?_)
  generalize upd f_48 (Int32.toNatClampNeg 24) x = f_50 at hP hD
  have hP : va_P D vwCl [(g0, .inl (q 0, 40, .inl f_50))] H := hP
  have hD : va_D _ [(g0, .inl (q 0, 40, .inl f_50))] := hD
  refine lv_iinc (v := 25) (lv' := [(2, .int 25), (3, .int 40), (0, .ref g0), (1, .int x)]) hx hb dJ7_fill_53178_14 hl (k := 0) rfl (by decide) (by decide) rfl (fun ls hl => ?_)
  refine lv_goto (tgt := 5) hx hb dJ7_fill_53178_17 (by decide) ?_
  refine lv_iload_n hx hb dJ7_fill_53178_5 rfl (lv_at hl 0 rfl) ?_
  refine lv_iload_n hx hb dJ7_fill_53178_6 rfl (lv_at hl 1 rfl) ?_
  refine lv_icmp_ge (tgt := 20) hx hb dJ7_fill_53178_7 (by decide) (fun c9 => absurd c9 (by decide)) (fun c_51 => ?_)
  refine lv_aload_n hx hb dJ7_fill_53178_10 rfl (lv_at hl 2 rfl) ?_
  refine lv_iload_n hx hb dJ7_fill_53178_11 rfl (lv_at hl 0 rfl) ?_
  refine lv_iload_n hx hb dJ7_fill_53178_12 rfl (lv_at hl 3 rfl) ?_
  refine va_iast hx hb hK hP hD hS 0 0 rfl rfl (in_c rfl) dJ7_fill_53178_13 (fun H locs hP hD hS => ?_)
  generalize upd f_50 (Int32.toNatClampNeg 25) x = f_52 at hP hD
  have hP : va_P D vwCl [(g0, .inl (q 0, 40, .inl f_52))] H := hP
  have hD : va_D _ [(g0, .inl (q 0, 40, .inl f_52))] := hD
  refine lv_iinc (v := 26) (lv' := [(2, .int 26), (3, .int 40), (0, .ref g0), (1, .int x)]) hx hb dJ7_fill_53178_14 hl (k := 0) rfl (by decide) (by decide) rfl (fun ls hl => ?_)
  refine lv_goto (tgt := 5) hx hb dJ7_fill_53178_17 (by decide) ?_
  refine lv_iload_n hx hb dJ7_fill_53178_5 rfl (lv_at hl 0 rfl) ?_
  refine lv_iload_n hx hb dJ7_fill_53178_6 rfl (lv_at hl 1 rfl) ?_
  refine lv_icmp_ge (tgt := 20) hx hb dJ7_fill_53178_7 (by decide) (fun c9 => absurd c9 (by decide)) (fun c_53 => ?_)
  refine lv_aload_n hx hb dJ7_fill_53178_10 rfl (lv_at hl 2 rfl) ?_
  refine lv_iload_n hx hb dJ7_fill_53178_11 rfl (lv_at hl 0 rfl) ?_
  refine lv_iload_n hx hb dJ7_fill_53178_12 rfl (lv_at hl 3 rfl) ?_
  refine va_iast hx hb hK hP hD hS 0 0 rfl rfl (in_c rfl) dJ7_fill_53178_13 (fun H locs hP hD hS => ?_)
  generalize upd f_52 (Int32.toNatClampNeg 26) x = f_54 at hP hD
  have hP : va_P D vwCl [(g0, .inl (q 0, 40, .inl f_54))] H := hP
  have hD : va_D _ [(g0, .inl (q 0, 40, .inl f_54))] := hD
  refine lv_iinc (v := 27) (lv' := [(2, .int 27), (3, .int 40), (0, .ref g0), (1, .int x)]) hx hb dJ7_fill_53178_14 hl (k := 0) rfl (by decide) (by decide) rfl (fun ls hl => ?_)
  refine lv_goto (tgt := 5) hx hb dJ7_fill_53178_17 (by decide) ?_
  refine lv_iload_n hx hb dJ7_fill_53178_5 rfl (lv_at hl 0 rfl) ?_
  refine lv_iload_n hx hb dJ7_fill_53178_6 rfl (lv_at hl 1 rfl) ?_
  refine lv_icmp_ge (tgt := 20) hx hb dJ7_fill_53178_7 (by decide) (fun c9 => absurd c9 (by decide)) (fun c_55 => ?_)
  refine lv_aload_n hx hb dJ7_fill_53178_10 rfl (lv_at hl 2 rfl) ?_
  refine lv_iload_n hx hb dJ7_fill_53178_11 rfl (lv_at hl 0 rfl) ?_
  refine lv_iload_n hx hb dJ7_fill_53178_12 rfl (lv_at hl 3 rfl) ?_
  refine va_iast hx hb hK hP hD hS 0 0 rfl rfl (in_c rfl) dJ7_fill_53178_13 (fun H locs hP hD hS => ?_)
  generalize upd f_54 (Int32.toNatClampNeg 27) x = f_56 at hP hD
  have hP : va_P D vwCl [(g0, .inl (q 0, 40, .inl f_56))] H := hP
  have hD : va_D _ [(g0, .inl (q 0, 40, .inl f_56))] := hD
  refine lv_iinc (v := 28) (lv' := [(2, .int 28), (3, .int 40), (0, .ref g0), (1, .int x)]) hx hb dJ7_fill_53178_14 hl (k := 0) rfl (by decide) (by decide) rfl (fun ls hl => ?_)
  refine lv_goto (tgt := 5) hx hb dJ7_fill_53178_17 (by decide) ?_
  refine lv_iload_n hx hb dJ7_fill_53178_5 rfl (lv_at hl 0 rfl) ?_
  refine lv_iload_n hx hb dJ7_fill_53178_6 rfl (lv_at hl 1 rfl) ?_
  refine lv_icmp_ge (tgt := 20) hx hb dJ7_fill_53178_7 (by decide) (fun c9 => absurd c9 (by decide)) (fun c_57 => ?_)
  refine lv_aload_n hx hb dJ7_fill_53178_10 rfl (lv_at hl 2 rfl) ?_
  refine lv_iload_n hx hb dJ7_fill_53178_11 rfl (lv_at hl 0 rfl) ?_
  refine lv_iload_n hx hb dJ7_fill_53178_12 rfl (lv_at hl 3 rfl) ?_
  refine va_iast hx hb hK hP hD hS 0 0 rfl rfl (in_c rfl) dJ7_fill_53178_13 (fun H locs hP hD hS => ?_)
  generalize upd f_56 (Int32.toNatClampNeg 28) x = f_58 at hP hD
  have hP : va_P D vwCl [(g0, .inl (q 0, 40, .inl f_58))] H := hP
  have hD : va_D _ [(g0, .inl (q 0, 40, .inl f_58))] := hD
  refine lv_iinc (v := 29) (lv' := [(2, .int 29), (3, .int 40), (0, .ref g0), (1, .int x)]) hx hb dJ7_fill_53178_14 hl (k := 0) rfl (by decide) (by decide) rfl (fun ls hl => ?_)
  refine lv_goto (tgt := 5) hx hb dJ7_fill_53178_17 (by decide) ?_
  refine lv_iload_n hx hb dJ7_fill_53178_5 rfl (lv_at hl 0 rfl) ?_
  refine lv_iload_n hx hb dJ7_fill_53178_6 rfl (lv_at hl 1 rfl) ?_
  refine lv_icmp_ge (tgt := 20) hx hb dJ7_fill_53178_7 (by decide) (fun c9 => absurd c9 (by decide)) (fun c_59 => ?_)
  refine lv_aload_n hx hb dJ7_fill_53178_10 rfl (lv_at hl 2 rfl) ?_
  refine lv_iload_n hx hb dJ7_fill_53178_11 rfl (lv_at hl 0 rfl) ?_
  refine lv_iload_n hx hb dJ7_fill_53178_12 rfl (lv_at hl 3 rfl) ?_
  refine va_iast hx hb hK hP hD hS 0 0 rfl rfl (in_c rfl) dJ7_fill_53178_13 (fun H locs hP hD hS => ?_)
  generalize upd f_58 (Int32.toNatClampNeg 29) x = f_60 at hP hD
  have hP : va_P D vwCl [(g0, .inl (q 0, 40, .inl f_60))] H := hP
  have hD : va_D _ [(g0, .inl (q 0, 40, .inl f_60))] := hD
  refine lv_iinc (v := 30) (lv' := [(2, .int 30), (3, .int 40), (0, .ref g0), (1, .int x)]) hx hb dJ7_fill_53178_14 hl (k := 0) rfl (by decide) (by decide) rfl (fun ls hl => ?_)
  refine lv_goto (tgt := 5) hx hb dJ7_fill_53178_17 (by decide) ?_
  refine lv_iload_n hx hb dJ7_fill_53178_5 rfl (lv_at hl 0 rfl) ?_
  refine lv_iload_n hx hb dJ7_fill_53178_6 rfl (lv_at hl 1 rfl) ?_
  refine lv_icmp_ge (tgt := 20) hx hb dJ7_fill_53178_7 (by decide) (fun c9 => absurd c9 (by decide)) (fun c_61 => ?_)
  refine lv_aload_n hx hb dJ7_fill_53178_10 rfl (lv_at hl 2 rfl) ?_
  refine lv_iload_n hx hb dJ7_fill_53178_11 rfl (lv_at hl 0 rfl) ?_
  refine lv_iload_n hx hb dJ7_fill_53178_12 rfl (lv_at hl 3 rfl) ?_
  refine va_iast hx hb hK hP hD hS 0 0 rfl rfl (in_c rfl) dJ7_fill_53178_13 (fun H locs hP hD hS => ?_)
  generalize upd f_60 (Int32.toNatClampNeg 30) x = f_62 at hP hD
  have hP : va_P D vwCl [(g0, .inl (q 0, 40, .inl f_62))] H := hP
  have hD : va_D _ [(g0, .inl (q 0, 40, .inl f_62))] := hD
  refine lv_iinc (v := 31) (lv' := [(2, .int 31), (3, .int 40), (0, .ref g0), (1, .int x)]) hx hb dJ7_fill_53178_14 hl (k := 0) rfl (by decide) (by decide) rfl (fun ls hl => ?_)
  refine lv_goto (tgt := 5) hx hb dJ7_fill_53178_17 (by decide) ?_
  refine lv_iload_n hx hb dJ7_fill_53178_5 rfl (lv_at hl 0 rfl) ?_
  refine lv_iload_n hx hb dJ7_fill_53178_6 rfl (lv_at hl 1 rfl) ?_
  refine lv_icmp_ge (tgt := 20) hx hb dJ7_fill_53178_7 (by decide) (fun c9 => absurd c9 (by decide)) (fun c_63 => ?_)
  refine lv_aload_n hx hb dJ7_fill_53178_10 rfl (lv_at hl 2 rfl) ?_
  refine lv_iload_n hx hb dJ7_fill_53178_11 rfl (lv_at hl 0 rfl) ?_
  refine lv_iload_n hx hb dJ7_fill_53178_12 rfl (lv_at hl 3 rfl) ?_
  refine va_iast hx hb hK hP hD hS 0 0 rfl rfl (in_c rfl) dJ7_fill_53178_13 (fun H locs hP hD hS => ?_)
  generalize upd f_62 (Int32.toNatClampNeg 31) x = f_64 at hP hD
  have hP : va_P D vwCl [(g0, .inl (q 0, 40, .inl f_64))] H := hP
  have hD : va_D _ [(g0, .inl (q 0, 40, .inl f_64))] := hD
  refine lv_iinc (v := 32) (lv' := [(2, .int 32), (3, .int 40), (0, .ref g0), (1, .int x)]) hx hb dJ7_fill_53178_14 hl (k := 0) rfl (by decide) (by decide) rfl (fun ls hl => ?_)
  refine lv_goto (tgt := 5) hx hb dJ7_fill_53178_17 (by decide) ?_
  refine lv_iload_n hx hb dJ7_fill_53178_5 rfl (lv_at hl 0 rfl) ?_
  refine lv_iload_n hx hb dJ7_fill_53178_6 rfl (lv_at hl 1 rfl) ?_
  refine lv_icmp_ge (tgt := 20) hx hb dJ7_fill_53178_7 (by decide) (fun c9 => absurd c9 (by decide)) (fun c_65 => ?_)
  refine lv_aload_n hx hb dJ7_fill_53178_10 rfl (lv_at hl 2 rfl) ?_
  refine lv_iload_n hx hb dJ7_fill_53178_11 rfl (lv_at hl 0 rfl) ?_
  refine lv_iload_n hx hb dJ7_fill_53178_12 rfl (lv_at hl 3 rfl) ?_
  refine va_iast hx hb hK hP hD hS 0 0 rfl rfl (in_c rfl) dJ7_fill_53178_13 (fun H locs hP hD hS => ?_)
  generalize upd f_64 (Int32.toNatClampNeg 32) x = f_66 at hP hD
  have hP : va_P D vwCl [(g0, .inl (q 0, 40, .inl f_66))] H := hP
  have hD : va_D _ [(g0, .inl (q 0, 40, .inl f_66))] := hD
  refine lv_iinc (v := 33) (lv' := [(2, .int 33), (3, .int 40), (0, .ref g0), (1, .int x)]) hx hb dJ7_fill_53178_14 hl (k := 0) rfl (by decide) (by decide) rfl (fun ls hl => ?_)
  refine lv_goto (tgt := 5) hx hb dJ7_fill_53178_17 (by decide) ?_
  refine lv_iload_n hx hb dJ7_fill_53178_5 rfl (lv_at hl 0 rfl) ?_
  refine lv_iload_n hx hb dJ7_fill_53178_6 rfl (lv_at hl 1 rfl) ?_
  refine lv_icmp_ge (tgt := 20) hx hb dJ7_fill_53178_7 (by decide) (fun c9 => absurd c9 (by decide)) (fun c_67 => ?_)
  refine lv_aload_n hx hb dJ7_fill_53178_10 rfl (lv_at hl 2 rfl) ?_
  refine lv_iload_n hx hb dJ7_fill_53178_11 rfl (lv_at hl 0 rfl) ?_
  refine lv_iload_n hx hb dJ7_fill_53178_12 rfl (lv_at hl 3 rfl) ?_
  refine va_iast hx hb hK hP hD hS 0 0 rfl rfl (in_c rfl) dJ7_fill_53178_13 (fun H locs hP hD hS => ?_)
  generalize upd f_66 (Int32.toNatClampNeg 33) x = f_68 at hP hD
  have hP : va_P D vwCl [(g0, .inl (q 0, 40, .inl f_68))] H := hP
  have hD : va_D _ [(g0, .inl (q 0, 40, .inl f_68))] := hD
  refine lv_iinc (v := 34) (lv' := [(2, .int 34), (3, .int 40), (0, .ref g0), (1, .int x)]) hx hb dJ7_fill_53178_14 hl (k := 0) rfl (by decide) (by decide) rfl (fun ls hl => ?_)
  refine lv_goto (tgt := 5) hx hb dJ7_fill_53178_17 (by decide) ?_
  refine lv_iload_n hx hb dJ7_fill_53178_5 rfl (lv_at hl 0 rfl) ?_
  refine lv_iload_n hx hb dJ7_fill_53178_6 rfl (lv_at hl 1 rfl) ?_
  refine lv_icmp_ge (tgt := 20) hx hb dJ7_fill_53178_7 (by decide) (fun c9 => absurd c9 (by decide)) (fun c_69 => ?_)
  refine lv_aload_n hx hb dJ7_fill_53178_10 rfl (lv_at hl 2 rfl) ?_
  refine lv_iload_n hx hb dJ7_fill_53178_11 rfl (lv_at hl 0 rfl) ?_
  refine lv_iload_n hx hb dJ7_fill_53178_12 rfl (lv_at hl 3 rfl) ?_
  refine va_iast hx hb hK hP hD hS 0 0 rfl rfl (in_c rfl) dJ7_fill_53178_13 (fun H locs hP hD hS => ?_)
  generalize upd f_68 (Int32.toNatClampNeg 34) x = f_70 at hP hD
  have hP : va_P D vwCl [(g0, .inl (q 0, 40, .inl f_70))] H := hP
  have hD : va_D _ [(g0, .inl (q 0, 40, .inl f_70))] := hD
  refine lv_iinc (v := 35) (lv' := [(2, .int 35), (3, .int 40), (0, .ref g0), (1, .int x)]) hx hb dJ7_fill_53178_14 hl (k := 0) rfl (by decide) (by decide) rfl (fun ls hl => ?_)
  refine lv_goto (tgt := 5) hx hb dJ7_fill_53178_17 (by decide) ?_
  refine lv_iload_n hx hb dJ7_fill_53178_5 rfl (lv_at hl 0 rfl) ?_
  refine lv_iload_n hx hb dJ7_fill_53178_6 rfl (lv_at hl 1 rfl) ?_
  refine lv_icmp_ge (tgt := 20) hx hb dJ7_fill_53178_7 (by decide) (fun c9 => absurd c9 (by decide)) (fun c_71 => ?_)
  refine lv_aload_n hx hb dJ7_fill_53178_10 rfl (lv_at hl 2 rfl) ?_
  refine lv_iload_n hx hb dJ7_fill_53178_11 rfl (lv_at hl 0 rfl) ?_
  refine lv_iload_n hx hb dJ7_fill_53178_12 rfl (lv_at hl 3 rfl) ?_
  refine va_iast hx hb hK hP hD hS 0 0 rfl rfl (in_c rfl) dJ7_fill_53178_13 (fun H locs hP hD hS => ?_)
  generalize upd f_70 (Int32.toNatClampNeg 35) x = f_72 at hP hD
  have hP : va_P D vwCl [(g0, .inl (q 0, 40, .inl f_72))] H := hP
  have hD : va_D _ [(g0, .inl (q 0, 40, .inl f_72))] := hD
  refine lv_iinc (v := 36) (lv' := [(2, .int 36), (3, .int 40), (0, .ref g0), (1, .int x)]) hx hb dJ7_fill_53178_14 hl (k := 0) rfl (by decide) (by decide) rfl (fun ls hl => ?_)
  refine lv_goto (tgt := 5) hx hb dJ7_fill_53178_17 (by decide) ?_
  refine lv_iload_n hx hb dJ7_fill_53178_5 rfl (lv_at hl 0 rfl) ?_
  refine lv_iload_n hx hb dJ7_fill_53178_6 rfl (lv_at hl 1 rfl) ?_
  refine lv_icmp_ge (tgt := 20) hx hb dJ7_fill_53178_7 (by decide) (fun c9 => absurd c9 (by decide)) (fun c_73 => ?_)
  refine lv_aload_n hx hb dJ7_fill_53178_10 rfl (lv_at hl 2 rfl) ?_
  refine lv_iload_n hx hb dJ7_fill_53178_11 rfl (lv_at hl 0 rfl) ?_
  refine lv_iload_n hx hb dJ7_fill_53178_12 rfl (lv_at hl 3 rfl) ?_
  refine va_iast hx hb hK hP hD hS 0 0 rfl rfl (in_c rfl) dJ7_fill_53178_13 (fun H locs hP hD hS => ?_)
  generalize upd f_72 (Int32.toNatClampNeg 36) x = f_74 at hP hD
  have hP : va_P D vwCl [(g0, .inl (q 0, 40, .inl f_74))] H := hP
  have hD : va_D _ [(g0, .inl (q 0, 40, .inl f_74))] := hD
  refine lv_iinc (v := 37) (lv' := [(2, .int 37), (3, .int 40), (0, .ref g0), (1, .int x)]) hx hb dJ7_fill_53178_14 hl (k := 0) rfl (by decide) (by decide) rfl (fun ls hl => ?_)
  refine lv_goto (tgt := 5) hx hb dJ7_fill_53178_17 (by decide) ?_
  refine lv_iload_n hx hb dJ7_fill_53178_5 rfl (lv_at hl 0 rfl) ?_
  refine lv_iload_n hx hb dJ7_fill_53178_6 rfl (lv_at hl 1 rfl) ?_
  refine lv_icmp_ge (tgt := 20) hx hb dJ7_fill_53178_7 (by decide) (fun c9 => absurd c9 (by decide)) (fun c_75 => ?_)
  refine lv_aload_n hx hb dJ7_fill_53178_10 rfl (lv_at hl 2 rfl) ?_
  refine lv_iload_n hx hb dJ7_fill_53178_11 rfl (lv_at hl 0 rfl) ?_
  refine lv_iload_n hx hb dJ7_fill_53178_12 rfl (lv_at hl 3 rfl) ?_
  refine va_iast hx hb hK hP hD hS 0 0 rfl rfl (in_c rfl) dJ7_fill_53178_13 (fun H locs hP hD hS => ?_)
  generalize upd f_74 (Int32.toNatClampNeg 37) x = f_76 at hP hD
  have hP : va_P D vwCl [(g0, .inl (q 0, 40, .inl f_76))] H := hP
  have hD : va_D _ [(g0, .inl (q 0, 40, .inl f_76))] := hD
  refine lv_iinc (v := 38) (lv' := [(2, .int 38), (3, .int 40), (0, .ref g0), (1, .int x)]) hx hb dJ7_fill_53178_14 hl (k := 0) rfl (by decide) (by decide) rfl (fun ls hl => ?_)
  refine lv_goto (tgt := 5) hx hb dJ7_fill_53178_17 (by decide) ?_
  refine lv_iload_n hx hb dJ7_fill_53178_5 rfl (lv_at hl 0 rfl) ?_
  refine lv_iload_n hx hb dJ7_fill_53178_6 rfl (lv_at hl 1 rfl) ?_
  refine lv_icmp_ge (tgt := 20) hx hb dJ7_fill_53178_7 (by decide) (fun c9 => absurd c9 (by decide)) (fun c_77 => ?_)
  refine lv_aload_n hx hb dJ7_fill_53178_10 rfl (lv_at hl 2 rfl) ?_
  refine lv_iload_n hx hb dJ7_fill_53178_11 rfl (lv_at hl 0 rfl) ?_
  refine lv_iload_n hx hb dJ7_fill_53178_12 rfl (lv_at hl 3 rfl) ?_
  refine va_iast hx hb hK hP hD hS 0 0 rfl rfl (in_c rfl) dJ7_fill_53178_13 (fun H locs hP hD hS => ?_)
  generalize upd f_76 (Int32.toNatClampNeg 38) x = f_78 at hP hD
  have hP : va_P D vwCl [(g0, .inl (q 0, 40, .inl f_78))] H := hP
  have hD : va_D _ [(g0, .inl (q 0, 40, .inl f_78))] := hD
  refine lv_iinc (v := 39) (lv' := [(2, .int 39), (3, .int 40), (0, .ref g0), (1, .int x)]) hx hb dJ7_fill_53178_14 hl (k := 0) rfl (by decide) (by decide) rfl (fun ls hl => ?_)
  refine lv_goto (tgt := 5) hx hb dJ7_fill_53178_17 (by decide) ?_
  refine lv_iload_n hx hb dJ7_fill_53178_5 rfl (lv_at hl 0 rfl) ?_
  refine lv_iload_n hx hb dJ7_fill_53178_6 rfl (lv_at hl 1 rfl) ?_
  refine lv_icmp_ge (tgt := 20) hx hb dJ7_fill_53178_7 (by decide) (fun c9 => absurd c9 (by decide)) (fun c_79 => ?_)
  refine lv_aload_n hx hb dJ7_fill_53178_10 rfl (lv_at hl 2 rfl) ?_
  refine lv_iload_n hx hb dJ7_fill_53178_11 rfl (lv_at hl 0 rfl) ?_
  refine lv_iload_n hx hb dJ7_fill_53178_12 rfl (lv_at hl 3 rfl) ?_
  refine va_iast hx hb hK hP hD hS 0 0 rfl rfl (in_c rfl) dJ7_fill_53178_13 (fun H locs hP hD hS => ?_)
  generalize upd f_78 (Int32.toNatClampNeg 39) x = f_80 at hP hD
  have hP : va_P D vwCl [(g0, .inl (q 0, 40, .inl f_80))] H := hP
  have hD : va_D _ [(g0, .inl (q 0, 40, .inl f_80))] := hD
  refine lv_iinc (v := 40) (lv' := [(2, .int 40), (3, .int 40), (0, .ref g0), (1, .int x)]) hx hb dJ7_fill_53178_14 hl (k := 0) rfl (by decide) (by decide) rfl (fun ls hl => ?_)
  refine lv_goto (tgt := 5) hx hb dJ7_fill_53178_17 (by decide) ?_
  refine lv_iload_n hx hb dJ7_fill_53178_5 rfl (lv_at hl 0 rfl) ?_
  refine lv_iload_n hx hb dJ7_fill_53178_6 rfl (lv_at hl 1 rfl) ?_
  refine lv_icmp_ge (tgt := 20) hx hb dJ7_fill_53178_7 (by decide) (fun c_81 => ?_) (fun c9 => absurd (by decide) c9)
  have hP := hP.sub (ws' := [(g0, .inl (q 0, 40, .inl f_80))]) [0] rfl
  have hD := hD.sub (ws' := [(g0, .inl (q 0, 40, .inl f_80))]) [0] (by decide) rfl
  exact mt_vret f_80 hx hb hr hk (trivial) hP hD hS dJ7_fill_53178_20

set_option maxHeartbeats 4000000 in
set_option maxRecDepth 100000 in
theorem ct_sortByLeft {l : Launch} {D : va_G} {q : Nat → ClassId} {sz : Nat} {h0 g0 g1 g2 : Nat} {k0 k1 k2 k3 k4 k5 k6 k7 k8 k9 k10 k11 k12 : Nat} : Met l yX2_sortByLeft (Cond.code yX2_sortByLeft cX2_sortByLeft 5 (some .int) :: w_all) ({ frames := 1, cells := 0, slots := 0, locals := 23 }) (mt_P D q [.ref h0, .ref k0] [(h0, .inr (1, [.ref g0, .ref g1, .ref g2, .int 0, .int 0, .int 0, .int 0, .int 0, .int 0, .int 0, .int 0, .int 0])), (g0, .inl (q 0, 40, .inl (fun _ => 0))), (k0, .inr (0, [.int 0, .int 0, .int 0, .int 0, .int 0, .int 0, .ref k1, .ref k2, .ref k3, .ref k4, .ref k5, .ref k6, .ref k7, .ref k8, .ref k9, .ref k10, .ref k11, .ref k12]))] sz) (va_Qi (fun r (u : (Nat → Int32)) => r = 0) (mt_B D [(h0, .inr (1, [.ref g0, .ref g1, .ref g2, .int 0, .int 0, .int 0, .int 0, .int 0, .int 0, .int 0, .int 0, .int 0])), (g0, .inl (q 0, 40, .inl (fun _ => 0))), (k0, .inr (0, [.int 0, .int 0, .int 0, .int 0, .int 0, .int 0, .ref k1, .ref k2, .ref k3, .ref k4, .ref k5, .ref k6, .ref k7, .ref k8, .ref k9, .ref k10, .ref k11, .ref k12]))] sz (fun u => [(h0, .inr (1, [.ref g0, .ref g1, .ref g2, .int 0, .int 0, .int 0, .int 0, .int 0, .int 0, .int 0, .int 0, .int 0])), (g0, .inl (q 0, 40, .inl u)), (k0, .inr (0, [.int 0, .int 0, .int 0, .int 0, .int 0, .int 0, .ref k1, .ref k2, .ref k3, .ref k4, .ref k5, .ref k6, .ref k7, .ref k8, .ref k9, .ref k10, .ref k11, .ref k12]))])) (va_A [(h0, .inr (1, [.ref g0, .ref g1, .ref g2, .int 0, .int 0, .int 0, .int 0, .int 0, .int 0, .int 0, .int 0, .int 0])), (g0, .inl (q 0, 40, .inl (fun _ => 0))), (k0, .inr (0, [.int 0, .int 0, .int 0, .int 0, .int 0, .int 0, .ref k1, .ref k2, .ref k3, .ref k4, .ref k5, .ref k6, .ref k7, .ref k8, .ref k9, .ref k10, .ref k11, .ref k12]))] sz)) 0 0 (va_A [(h0, .inr (1, [.ref g0, .ref g1, .ref g2, .int 0, .int 0, .int 0, .int 0, .int 0, .int 0, .int 0, .int 0, .int 0])), (g0, .inl (q 0, 40, .inl (fun _ => 0))), (k0, .inr (0, [.int 0, .int 0, .int 0, .int 0, .int 0, .int 0, .ref k1, .ref k2, .ref k3, .ref k4, .ref k5, .ref k6, .ref k7, .ref k8, .ref k9, .ref k10, .ref k11, .ref k12]))] sz) := by
  refine mt_start (by decide) (Nat.le_of_ble_eq_true rfl) ?_
  intro p e s m below meth c ls hx hb hr hml hown ht hk hin hP hQ hD hA hS hl
  have hK := hQ.1
  have hown : s.vm.findClass RX2 = some m.cls := hown
  have hl : lv_has ls 5 [(0, .ref h0), (1, .ref k0)] := hl
  refine lv_aload_n hx hb dX2_sortByLeft_0 rfl (lv_at hl 0 rfl) ?_
  refine fl_get (C := RX2) (T := TX2) (N := 12) (ci := 1) (v := .ref g0) hx hb ht in_X2 hown hK hP 0 rfl rfl 0 (by decide) mw_253 rfl dX2_sortByLeft_1 ?_
  refine lv_iconst (v := (-1)) hx hb dX2_sortByLeft_4 (by decide) ?_
  refine mt_gov (mt_wS (wc := [(g0, .inl (q 0, 40, .inl (fun _ => 0)))]) (As := [.ref g0, .int (-1)]) (rest := []) hx hb hml hown ht (ct_fill) wd_J7_fill_53178 mw_697 hQ (hP.sub [1] rfl) (hD.sub [1] (by decide) rfl) rfl hl.1 rfl (Nat.le_of_ble_eq_true rfl) dX2_sortByLeft_5 ⟨Nat.le_of_ble_eq_true rfl, Nat.le_of_ble_eq_true rfl, rfl, rfl⟩ ⟨Nat.le_of_ble_eq_true rfl, Nat.le_of_ble_eq_true rfl⟩) (wr := [(h0, .inr (1, [.ref g0, .ref g1, .ref g2, .int 0, .int 0, .int 0, .int 0, .int 0, .int 0, .int 0, .int 0, .int 0])), (k0, .inr (0, [.int 0, .int 0, .int 0, .int 0, .int 0, .int 0, .ref k1, .ref k2, .ref k3, .ref k4, .ref k5, .ref k6, .ref k7, .ref k8, .ref k9, .ref k10, .ref k11, .ref k12]))]) hP hD hS hA [1] [0, 2] rfl rfl (by decide) (by decide) (fun u_1 H locs hw hP hD hS => ?_)
  have hP : va_P D vwCl [(h0, .inr (1, [.ref g0, .ref g1, .ref g2, .int 0, .int 0, .int 0, .int 0, .int 0, .int 0, .int 0, .int 0, .int 0])), (k0, .inr (0, [.int 0, .int 0, .int 0, .int 0, .int 0, .int 0, .ref k1, .ref k2, .ref k3, .ref k4, .ref k5, .ref k6, .ref k7, .ref k8, .ref k9, .ref k10, .ref k11, .ref k12])), (g0, .inl (q 0, 40, .inl u_1))] H := hP
  have hD : va_D _ [(h0, .inr (1, [.ref g0, .ref g1, .ref g2, .int 0, .int 0, .int 0, .int 0, .int 0, .int 0, .int 0, .int 0, .int 0])), (k0, .inr (0, [.int 0, .int 0, .int 0, .int 0, .int 0, .int 0, .ref k1, .ref k2, .ref k3, .ref k4, .ref k5, .ref k6, .ref k7, .ref k8, .ref k9, .ref k10, .ref k11, .ref k12])), (g0, .inl (q 0, 40, .inl u_1))] := hD
  refine lv_iconst (v := 0) hx hb dX2_sortByLeft_8 (by decide) ?_
  refine lv_istore_n (lv' := [(2, .int 0), (0, .ref h0), (1, .ref k0)]) hx hb dX2_sortByLeft_9 rfl hl (by decide) rfl (fun ls hl => ?_)
  refine lv_aload_n hx hb dX2_sortByLeft_10 rfl (lv_at hl 2 rfl) ?_
  refine vp_callSi (rd_wV (wc := [(k0, .inr (0, [.int 0, .int 0, .int 0, .int 0, .int 0, .int 0, .ref k1, .ref k2, .ref k3, .ref k4, .ref k5, .ref k6, .ref k7, .ref k8, .ref k9, .ref k10, .ref k11, .ref k12]))]) (As := []) (rest := []) hx hb hml hown ht (ct_Board_cells) wd_X0_cells mw_698 hQ (hP.sub [1] rfl) rfl rfl rfl hl.1 rfl (Nat.le_of_ble_eq_true rfl) dX2_sortByLeft_11 ⟨Nat.le_of_ble_eq_true rfl, Nat.le_of_ble_eq_true rfl, rfl, rfl⟩ ⟨Nat.le_of_ble_eq_true rfl, Nat.le_of_ble_eq_true rfl⟩) (fun r_3 er_3 => ?_)
  obtain rfl : r_3 = 0 := er_3
  refine lv_iconst (v := 1) hx hb dX2_sortByLeft_14 (by decide) ?_
  refine lv_isub hx hb dX2_sortByLeft_15 ?_
  refine ab_i (v := (-1)) (by decide) ?_
  refine lv_istore_n (lv' := [(3, .int (-1)), (2, .int 0), (0, .ref h0), (1, .ref k0)]) hx hb dX2_sortByLeft_16 rfl hl (by decide) rfl (fun ls hl => ?_)
  refine lv_iload_n hx hb dX2_sortByLeft_17 rfl (lv_at hl 0 rfl) ?_
  refine lv_if_lt (tgt := 74) hx hb dX2_sortByLeft_18 (by decide) (fun c_4 => ?_) (fun c9 => absurd (by decide) c9)
  refine lv_iload_n hx hb dX2_sortByLeft_74 rfl (lv_at hl 1 rfl) ?_
  have hP := hP.sub (ws' := [(h0, .inr (1, [.ref g0, .ref g1, .ref g2, .int 0, .int 0, .int 0, .int 0, .int 0, .int 0, .int 0, .int 0, .int 0])), (g0, .inl (q 0, 40, .inl u_1)), (k0, .inr (0, [.int 0, .int 0, .int 0, .int 0, .int 0, .int 0, .ref k1, .ref k2, .ref k3, .ref k4, .ref k5, .ref k6, .ref k7, .ref k8, .ref k9, .ref k10, .ref k11, .ref k12]))]) [0, 2, 1] rfl
  have hD := hD.sub (ws' := [(h0, .inr (1, [.ref g0, .ref g1, .ref g2, .int 0, .int 0, .int 0, .int 0, .int 0, .int 0, .int 0, .int 0, .int 0])), (g0, .inl (q 0, 40, .inl u_1)), (k0, .inr (0, [.int 0, .int 0, .int 0, .int 0, .int 0, .int 0, .ref k1, .ref k2, .ref k3, .ref k4, .ref k5, .ref k6, .ref k7, .ref k8, .ref k9, .ref k10, .ref k11, .ref k12]))]) [0, 2, 1] (by decide) rfl
  exact mt_iret u_1 hx hb hr hk (rfl) hP hD hS dX2_sortByLeft_75

set_option maxHeartbeats 4000000 in
set_option maxRecDepth 100000 in
theorem ct_choose {l : Launch} {D : va_G} {q : Nat → ClassId} {sz : Nat} {h0 g0 g1 g2 : Nat} {k0 k1 k2 k3 k4 k5 k6 k7 k8 k9 k10 k11 k12 : Nat} : Met l yX2_choose (Cond.code yX2_choose cX2_choose 7 none :: w_all) ({ frames := 2, cells := 0, slots := 0, locals := 47 }) (mt_P D q [.ref h0, .ref k0] [(h0, .inr (1, [.ref g0, .ref g1, .ref g2, .int 0, .int 0, .int 0, .int 0, .int 0, .int 0, .int 0, .int 0, .int 0])), (g0, .inl (q 0, 40, .inl (fun _ => 0))), (k0, .inr (0, [.int 0, .int 0, .int 0, .int 0, .int 0, .int 0, .ref k1, .ref k2, .ref k3, .ref k4, .ref k5, .ref k6, .ref k7, .ref k8, .ref k9, .ref k10, .ref k11, .ref k12]))] sz) (va_Qv (fun u : (Nat → Int32) => True) (mt_B D [(h0, .inr (1, [.ref g0, .ref g1, .ref g2, .int 0, .int 0, .int 0, .int 0, .int 0, .int 0, .int 0, .int 0, .int 0])), (g0, .inl (q 0, 40, .inl (fun _ => 0))), (k0, .inr (0, [.int 0, .int 0, .int 0, .int 0, .int 0, .int 0, .ref k1, .ref k2, .ref k3, .ref k4, .ref k5, .ref k6, .ref k7, .ref k8, .ref k9, .ref k10, .ref k11, .ref k12]))] sz (fun u => [(h0, .inr (1, [.ref g0, .ref g1, .ref g2, .int 0, .int 0, .int 0, .int 0, .int 0, .int 0, .int 0, .int 0, .int 0])), (g0, .inl (q 0, 40, .inl u)), (k0, .inr (0, [.int 0, .int 0, .int 0, .int 0, .int 0, .int 0, .ref k1, .ref k2, .ref k3, .ref k4, .ref k5, .ref k6, .ref k7, .ref k8, .ref k9, .ref k10, .ref k11, .ref k12]))])) (va_A [(h0, .inr (1, [.ref g0, .ref g1, .ref g2, .int 0, .int 0, .int 0, .int 0, .int 0, .int 0, .int 0, .int 0, .int 0])), (g0, .inl (q 0, 40, .inl (fun _ => 0))), (k0, .inr (0, [.int 0, .int 0, .int 0, .int 0, .int 0, .int 0, .ref k1, .ref k2, .ref k3, .ref k4, .ref k5, .ref k6, .ref k7, .ref k8, .ref k9, .ref k10, .ref k11, .ref k12]))] sz)) 0 0 (va_A [(h0, .inr (1, [.ref g0, .ref g1, .ref g2, .int 0, .int 0, .int 0, .int 0, .int 0, .int 0, .int 0, .int 0, .int 0])), (g0, .inl (q 0, 40, .inl (fun _ => 0))), (k0, .inr (0, [.int 0, .int 0, .int 0, .int 0, .int 0, .int 0, .ref k1, .ref k2, .ref k3, .ref k4, .ref k5, .ref k6, .ref k7, .ref k8, .ref k9, .ref k10, .ref k11, .ref k12]))] sz) := by
  refine mt_start (by decide) (Nat.le_of_ble_eq_true rfl) ?_
  intro p e s m below meth c ls hx hb hr hml hown ht hk hin hP hQ hD hA hS hl
  have hK := hQ.1
  have hown : s.vm.findClass RX2 = some m.cls := hown
  have hl : lv_has ls 7 [(0, .ref h0), (1, .ref k0)] := hl
  refine lv_aload_n hx hb dX2_choose_0 rfl (lv_at hl 0 rfl) ?_
  refine lv_iconst (v := 0) hx hb dX2_choose_1 (by decide) ?_
  refine fl_put (C := RX2) (T := TX2) (N := 12) (ci := 1) (v := .int 0) (ws2 := [(h0, .inr (1, [.ref g0, .ref g1, .ref g2, .int 0, .int 0, .int 0, .int 0, .int 0, .int 0, .int 0, .int 0, .int 0])), (g0, .inl (q 0, 40, .inl (fun _ => 0))), (k0, .inr (0, [.int 0, .int 0, .int 0, .int 0, .int 0, .int 0, .ref k1, .ref k2, .ref k3, .ref k4, .ref k5, .ref k6, .ref k7, .ref k8, .ref k9, .ref k10, .ref k11, .ref k12]))]) hx hb ht in_X2 tyX2_ok nmX2 hown hK hP hD hS 0 rfl rfl 3 (by decide) mw_256 rfl rfl rfl (Nat.le_of_ble_eq_true rfl) dX2_choose_2 rfl (fun H locs hP hD hS => ?_)
  refine lv_aload_n hx hb dX2_choose_5 rfl (lv_at hl 0 rfl) ?_
  refine lv_iconst (v := 0) hx hb dX2_choose_6 (by decide) ?_
  refine fl_put (C := RX2) (T := TX2) (N := 12) (ci := 1) (v := .int 0) (ws2 := [(h0, .inr (1, [.ref g0, .ref g1, .ref g2, .int 0, .int 0, .int 0, .int 0, .int 0, .int 0, .int 0, .int 0, .int 0])), (g0, .inl (q 0, 40, .inl (fun _ => 0))), (k0, .inr (0, [.int 0, .int 0, .int 0, .int 0, .int 0, .int 0, .ref k1, .ref k2, .ref k3, .ref k4, .ref k5, .ref k6, .ref k7, .ref k8, .ref k9, .ref k10, .ref k11, .ref k12]))]) hx hb ht in_X2 tyX2_ok nmX2 hown hK hP hD hS 0 rfl rfl 4 (by decide) mw_258 rfl rfl rfl (Nat.le_of_ble_eq_true rfl) dX2_choose_7 rfl (fun H locs hP hD hS => ?_)
  refine lv_aload_n hx hb dX2_choose_10 rfl (lv_at hl 0 rfl) ?_
  refine lv_aload_n hx hb dX2_choose_11 rfl (lv_at hl 1 rfl) ?_
  refine mt_goi (mt_wV (wc := [(h0, .inr (1, [.ref g0, .ref g1, .ref g2, .int 0, .int 0, .int 0, .int 0, .int 0, .int 0, .int 0, .int 0, .int 0])), (g0, .inl (q 0, 40, .inl (fun _ => 0))), (k0, .inr (0, [.int 0, .int 0, .int 0, .int 0, .int 0, .int 0, .ref k1, .ref k2, .ref k3, .ref k4, .ref k5, .ref k6, .ref k7, .ref k8, .ref k9, .ref k10, .ref k11, .ref k12]))]) (As := [.ref k0]) (rest := []) hx hb hml hown ht (ct_sortByLeft) wd_X2_sortByLeft mw_693 hQ (hP.sub [0, 1, 2] rfl) (hD.sub [0, 1, 2] (by decide) rfl) rfl rfl rfl hl.1 rfl (Nat.le_of_ble_eq_true rfl) dX2_choose_12 ⟨Nat.le_of_ble_eq_true rfl, Nat.le_of_ble_eq_true rfl, rfl, rfl⟩ ⟨Nat.le_of_ble_eq_true rfl, Nat.le_of_ble_eq_true rfl⟩) (wr := []) hP hD hS hA [0, 1, 2] [] rfl rfl (by decide) (by decide) (fun r_2 u_1 H locs hw hP hD hS => ?_)
  have hP : va_P D vwCl [(h0, .inr (1, [.ref g0, .ref g1, .ref g2, .int 0, .int 0, .int 0, .int 0, .int 0, .int 0, .int 0, .int 0, .int 0])), (g0, .inl (q 0, 40, .inl u_1)), (k0, .inr (0, [.int 0, .int 0, .int 0, .int 0, .int 0, .int 0, .ref k1, .ref k2, .ref k3, .ref k4, .ref k5, .ref k6, .ref k7, .ref k8, .ref k9, .ref k10, .ref k11, .ref k12]))] H := hP
  have hD : va_D _ [(h0, .inr (1, [.ref g0, .ref g1, .ref g2, .int 0, .int 0, .int 0, .int 0, .int 0, .int 0, .int 0, .int 0, .int 0])), (g0, .inl (q 0, 40, .inl u_1)), (k0, .inr (0, [.int 0, .int 0, .int 0, .int 0, .int 0, .int 0, .ref k1, .ref k2, .ref k3, .ref k4, .ref k5, .ref k6, .ref k7, .ref k8, .ref k9, .ref k10, .ref k11, .ref k12]))] := hD
  obtain rfl : r_2 = 0 := hw
  refine lv_istore_n (lv' := [(2, .int 0), (0, .ref h0), (1, .ref k0)]) hx hb dX2_choose_15 rfl hl (by decide) rfl (fun ls hl => ?_)
  refine lv_iload_n hx hb dX2_choose_16 rfl (lv_at hl 0 rfl) ?_
  refine lv_istore_n (lv' := [(3, .int 0), (2, .int 0), (0, .ref h0), (1, .ref k0)]) hx hb dX2_choose_17 rfl hl (by decide) rfl (fun ls hl => ?_)
  refine lv_iload_n hx hb dX2_choose_18 rfl (lv_at hl 0 rfl) ?_
  refine lv_if_le (tgt := 136) hx hb dX2_choose_19 (by decide) (fun c_3 => ?_) (fun c9 => absurd (by decide) c9)
  have hP := hP.sub (ws' := [(h0, .inr (1, [.ref g0, .ref g1, .ref g2, .int 0, .int 0, .int 0, .int 0, .int 0, .int 0, .int 0, .int 0, .int 0])), (g0, .inl (q 0, 40, .inl u_1)), (k0, .inr (0, [.int 0, .int 0, .int 0, .int 0, .int 0, .int 0, .ref k1, .ref k2, .ref k3, .ref k4, .ref k5, .ref k6, .ref k7, .ref k8, .ref k9, .ref k10, .ref k11, .ref k12]))]) [0, 1, 2] rfl
  have hD := hD.sub (ws' := [(h0, .inr (1, [.ref g0, .ref g1, .ref g2, .int 0, .int 0, .int 0, .int 0, .int 0, .int 0, .int 0, .int 0, .int 0])), (g0, .inl (q 0, 40, .inl u_1)), (k0, .inr (0, [.int 0, .int 0, .int 0, .int 0, .int 0, .int 0, .ref k1, .ref k2, .ref k3, .ref k4, .ref k5, .ref k6, .ref k7, .ref k8, .ref k9, .ref k10, .ref k11, .ref k12]))]) [0, 1, 2] (by decide) rfl
  exact mt_vret u_1 hx hb hr hk (trivial) hP hD hS dX2_choose_136

set_option maxHeartbeats 4000000 in
set_option maxRecDepth 100000 in
theorem cf_shelvesUsed {l : Launch} {D : va_G} {q : Nat → ClassId} {a : Nat → Nat} : Met l yX6_shelvesUsed (Cond.code yX6_shelvesUsed cX6_shelvesUsed 3 (some .int) :: w_all) ({ frames := 0, cells := 0, slots := 0, locals := 0 }) (rd_P D q [.ref (a 0)] (fb_w a q)) (vp_Si (fun r => r = 0)) 0 0 (fun _ => False) := by
  refine rd_start (by decide) (Nat.le_of_ble_eq_true rfl) ?_
  intro p e s m below meth c ls hx hb hr hml hown ht hk hP hQ hl
  have hK := hQ.1
  have hown : s.vm.findClass RX6 = some m.cls := hown
  have hl : lv_has ls 3 [(0, .ref (a 0))] := hl
  have hP := hP.sub (ws' := [((a 0), .inr (5, [.ref (a 1), .ref (a 3), .ref (a 16), .ref (a 29), .ref (a 33), .ref (a 41), .ref (a 43)])), ((a 43), .inl (q 4, 2, .inr (.inr (.inr (.inr (fun _ => none))))))]) [0, 43] rfl
  refine lv_iconst (v := 0) hx hb dX6_shelvesUsed_0 (by decide) ?_
  refine lv_istore_n (lv' := [(1, .int 0), (0, .ref (a 0))]) hx hb dX6_shelvesUsed_1 rfl hl (by decide) rfl (fun ls hl => ?_)
  refine lv_iconst (v := 0) hx hb dX6_shelvesUsed_2 (by decide) ?_
  refine lv_istore_n (lv' := [(2, .int 0), (1, .int 0), (0, .ref (a 0))]) hx hb dX6_shelvesUsed_3 rfl hl (by decide) rfl (fun ls hl => ?_)
  refine lv_iload_n hx hb dX6_shelvesUsed_4 rfl (lv_at hl 0 rfl) ?_
  refine lv_iconst (v := 2) hx hb dX6_shelvesUsed_5 (by decide) ?_
  refine lv_icmp_ge (tgt := 30) hx hb dX6_shelvesUsed_6 (by decide) (fun c9 => absurd c9 (by decide)) (fun c_1 => ?_)
  refine lv_aload_n hx hb dX6_shelvesUsed_9 rfl (lv_at hl 2 rfl) ?_
  refine fl_get (C := RX6) (T := TX6) (N := 7) (ci := 5) (v := .ref (a 43)) hx hb ht in_X6 hown hK hP 0 rfl rfl 6 (by decide) mw_361 rfl dX6_shelvesUsed_10 ?_
  refine lv_iload_n hx hb dX6_shelvesUsed_13 rfl (lv_at hl 0 rfl) ?_
  refine va_aldq hx hb hK hP 1 4 rfl rfl (in_c rfl) dX6_shelvesUsed_14 ?_
  refine ab_null ?_
  refine lv_ifnullN (tgt := 24) hx hb dX6_shelvesUsed_15 (by decide) ?_
  refine lv_iinc (v := 1) (lv' := [(2, .int 1), (1, .int 0), (0, .ref (a 0))]) hx hb dX6_shelvesUsed_24 hl (k := 0) rfl (by decide) (by decide) rfl (fun ls hl => ?_)
  refine lv_goto (tgt := 4) hx hb dX6_shelvesUsed_27 (by decide) ?_
  refine lv_iload_n hx hb dX6_shelvesUsed_4 rfl (lv_at hl 0 rfl) ?_
  refine lv_iconst (v := 2) hx hb dX6_shelvesUsed_5 (by decide) ?_
  refine lv_icmp_ge (tgt := 30) hx hb dX6_shelvesUsed_6 (by decide) (fun c9 => absurd c9 (by decide)) (fun c_2 => ?_)
  refine lv_aload_n hx hb dX6_shelvesUsed_9 rfl (lv_at hl 2 rfl) ?_
  refine fl_get (C := RX6) (T := TX6) (N := 7) (ci := 5) (v := .ref (a 43)) hx hb ht in_X6 hown hK hP 0 rfl rfl 6 (by decide) mw_361 rfl dX6_shelvesUsed_10 ?_
  refine lv_iload_n hx hb dX6_shelvesUsed_13 rfl (lv_at hl 0 rfl) ?_
  refine va_aldq hx hb hK hP 1 4 rfl rfl (in_c rfl) dX6_shelvesUsed_14 ?_
  refine ab_null ?_
  refine lv_ifnullN (tgt := 24) hx hb dX6_shelvesUsed_15 (by decide) ?_
  refine lv_iinc (v := 2) (lv' := [(2, .int 2), (1, .int 0), (0, .ref (a 0))]) hx hb dX6_shelvesUsed_24 hl (k := 0) rfl (by decide) (by decide) rfl (fun ls hl => ?_)
  refine lv_goto (tgt := 4) hx hb dX6_shelvesUsed_27 (by decide) ?_
  refine lv_iload_n hx hb dX6_shelvesUsed_4 rfl (lv_at hl 0 rfl) ?_
  refine lv_iconst (v := 2) hx hb dX6_shelvesUsed_5 (by decide) ?_
  refine lv_icmp_ge (tgt := 30) hx hb dX6_shelvesUsed_6 (by decide) (fun c_3 => ?_) (fun c9 => absurd (by decide) c9)
  refine lv_iload_n hx hb dX6_shelvesUsed_30 rfl (lv_at hl 1 rfl) ?_
  exact rd_iret hx hb hr hk (rfl) dX6_shelvesUsed_31
end
section
set_option maxHeartbeats 4000000 in
set_option maxRecDepth 100000 in
theorem cf_whyNotRow {l : Launch} {D : va_G} {q : Nat → ClassId} {a : Nat → Nat} {x : Int32} : Met l yX6_whyNotRow (Cond.code yX6_whyNotRow cX6_whyNotRow 2 (some .int) :: w_all) ({ frames := 1, cells := 0, slots := 0, locals := 21 }) (rd_P D q [.ref (a 0), .int x] (fb_w a q)) (vp_Si (fun r => r = (-1))) 0 0 (fun _ => False) := by
  refine rd_start (by decide) (Nat.le_of_ble_eq_true rfl) ?_
  intro p e s m below meth c ls hx hb hr hml hown ht hk hP hQ hl
  have hK := hQ.1
  have hown : s.vm.findClass RX6 = some m.cls := hown
  have hl : lv_has ls 2 [(0, .ref (a 0)), (1, .int x)] := hl
  have hP := hP.sub (ws' := [((a 0), .inr (5, [.ref (a 1), .ref (a 3), .ref (a 16), .ref (a 29), .ref (a 33), .ref (a 41), .ref (a 43)])), ((a 3), .inr (0, [.int 0, .int 0, .int 0, .int 0, .int 0, .int 0, .ref (a 4), .ref (a 5), .ref (a 6), .ref (a 7), .ref (a 8), .ref (a 9), .ref (a 10), .ref (a 11), .ref (a 12), .ref (a 13), .ref (a 14), .ref (a 15)]))]) [0, 3] rfl
  refine lv_aload_n hx hb dX6_whyNotRow_0 rfl (lv_at hl 0 rfl) ?_
  refine fl_get (C := RX6) (T := TX6) (N := 7) (ci := 5) (v := .ref (a 3)) hx hb ht in_X6 hown hK hP 0 rfl rfl 1 (by decide) mw_356 rfl dX6_whyNotRow_1 ?_
  refine lv_iload_n hx hb dX6_whyNotRow_4 rfl (lv_at hl 1 rfl) ?_
  refine vp_callSi (rd_wV (wc := [((a 3), .inr (0, [.int 0, .int 0, .int 0, .int 0, .int 0, .int 0, .ref (a 4), .ref (a 5), .ref (a 6), .ref (a 7), .ref (a 8), .ref (a 9), .ref (a 10), .ref (a 11), .ref (a 12), .ref (a 13), .ref (a 14), .ref (a 15)]))]) (As := [.int x]) (rest := []) hx hb hml hown ht (ct_Board_hasRow) wd_X0_hasRow mw_621 hQ (hP.sub [1] rfl) rfl rfl rfl hl.1 rfl (Nat.le_of_ble_eq_true rfl) dX6_whyNotRow_5 ⟨Nat.le_of_ble_eq_true rfl, Nat.le_of_ble_eq_true rfl, rfl, rfl⟩ ⟨Nat.le_of_ble_eq_true rfl, Nat.le_of_ble_eq_true rfl⟩) (fun r_1 er_1 => ?_)
  obtain rfl : r_1 = 0 := er_1
  refine lv_if_ne (tgt := 13) hx hb dX6_whyNotRow_8 (by decide) (fun c9 => absurd c9 (by decide)) (fun c_2 => ?_)
  refine lv_iconst (v := (-1)) hx hb dX6_whyNotRow_11 (by decide) ?_
  exact rd_iret hx hb hr hk (rfl) dX6_whyNotRow_12

set_option maxHeartbeats 4000000 in
set_option maxRecDepth 100000 in
theorem cf_tick {l : Launch} {D : va_G} {q : Nat → ClassId} {a : Nat → Nat} {x : Int32} : Met l yX6_tick (Cond.code yX6_tick cX6_tick 2 (some .int) :: w_all) ({ frames := 1, cells := 0, slots := 0, locals := 20 }) (rd_P D q [.ref (a 0), .int x] (fb_w a q)) (vp_Si (fun r => r = (-1))) 0 0 (fun _ => False) := by
  refine rd_start (by decide) (Nat.le_of_ble_eq_true rfl) ?_
  intro p e s m below meth c ls hx hb hr hml hown ht hk hP hQ hl
  have hK := hQ.1
  have hown : s.vm.findClass RX6 = some m.cls := hown
  have hl : lv_has ls 2 [(0, .ref (a 0)), (1, .int x)] := hl
  have hP := hP.sub (ws' := [((a 0), .inr (5, [.ref (a 1), .ref (a 3), .ref (a 16), .ref (a 29), .ref (a 33), .ref (a 41), .ref (a 43)])), ((a 3), .inr (0, [.int 0, .int 0, .int 0, .int 0, .int 0, .int 0, .ref (a 4), .ref (a 5), .ref (a 6), .ref (a 7), .ref (a 8), .ref (a 9), .ref (a 10), .ref (a 11), .ref (a 12), .ref (a 13), .ref (a 14), .ref (a 15)]))]) [0, 3] rfl
  refine lv_aload_n hx hb dX6_tick_0 rfl (lv_at hl 0 rfl) ?_
  refine fl_get (C := RX6) (T := TX6) (N := 7) (ci := 5) (v := .ref (a 3)) hx hb ht in_X6 hown hK hP 0 rfl rfl 1 (by decide) mw_356 rfl dX6_tick_1 ?_
  refine vp_callSi (rd_wV (wc := [((a 3), .inr (0, [.int 0, .int 0, .int 0, .int 0, .int 0, .int 0, .ref (a 4), .ref (a 5), .ref (a 6), .ref (a 7), .ref (a 8), .ref (a 9), .ref (a 10), .ref (a 11), .ref (a 12), .ref (a 13), .ref (a 14), .ref (a 15)]))]) (As := []) (rest := []) hx hb hml hown ht (ct_Board_isThere) wd_X0_isThere mw_677 hQ (hP.sub [1] rfl) rfl rfl rfl hl.1 rfl (Nat.le_of_ble_eq_true rfl) dX6_tick_4 ⟨Nat.le_of_ble_eq_true rfl, Nat.le_of_ble_eq_true rfl, rfl, rfl⟩ ⟨Nat.le_of_ble_eq_true rfl, Nat.le_of_ble_eq_true rfl⟩) (fun r_1 er_1 => ?_)
  obtain rfl : r_1 = 0 := er_1
  refine lv_if_eq (tgt := 21) hx hb dX6_tick_7 (by decide) (fun c_2 => ?_) (fun c9 => absurd (by decide) c9)
  refine lv_iconst (v := (-1)) hx hb dX6_tick_21 (by decide) ?_
  exact rd_iret hx hb hr hk (rfl) dX6_tick_22

set_option maxHeartbeats 4000000 in
set_option maxRecDepth 100000 in
theorem cf_settle {l : Launch} {D : va_G} {q : Nat → ClassId} {a : Nat → Nat} : Met l yX6_settle (Cond.code yX6_settle cX6_settle 1 (some .int) :: w_all) ({ frames := 1, cells := 0, slots := 0, locals := 20 }) (rd_P D q [.ref (a 0)] (fb_w a q)) (vp_Si (fun r => r = (-1))) 0 0 (fun _ => False) := by
  refine rd_start (by decide) (Nat.le_of_ble_eq_true rfl) ?_
  intro p e s m below meth c ls hx hb hr hml hown ht hk hP hQ hl
  have hK := hQ.1
  have hown : s.vm.findClass RX6 = some m.cls := hown
  have hl : lv_has ls 1 [(0, .ref (a 0))] := hl
  have hP := hP.sub (ws' := [((a 0), .inr (5, [.ref (a 1), .ref (a 3), .ref (a 16), .ref (a 29), .ref (a 33), .ref (a 41), .ref (a 43)])), ((a 3), .inr (0, [.int 0, .int 0, .int 0, .int 0, .int 0, .int 0, .ref (a 4), .ref (a 5), .ref (a 6), .ref (a 7), .ref (a 8), .ref (a 9), .ref (a 10), .ref (a 11), .ref (a 12), .ref (a 13), .ref (a 14), .ref (a 15)]))]) [0, 3] rfl
  refine lv_aload_n hx hb dX6_settle_0 rfl (lv_at hl 0 rfl) ?_
  refine fl_get (C := RX6) (T := TX6) (N := 7) (ci := 5) (v := .ref (a 3)) hx hb ht in_X6 hown hK hP 0 rfl rfl 1 (by decide) mw_356 rfl dX6_settle_1 ?_
  refine vp_callSi (rd_wV (wc := [((a 3), .inr (0, [.int 0, .int 0, .int 0, .int 0, .int 0, .int 0, .ref (a 4), .ref (a 5), .ref (a 6), .ref (a 7), .ref (a 8), .ref (a 9), .ref (a 10), .ref (a 11), .ref (a 12), .ref (a 13), .ref (a 14), .ref (a 15)]))]) (As := []) (rest := []) hx hb hml hown ht (ct_Board_isThere) wd_X0_isThere mw_677 hQ (hP.sub [1] rfl) rfl rfl rfl hl.1 rfl (Nat.le_of_ble_eq_true rfl) dX6_settle_4 ⟨Nat.le_of_ble_eq_true rfl, Nat.le_of_ble_eq_true rfl, rfl, rfl⟩ ⟨Nat.le_of_ble_eq_true rfl, Nat.le_of_ble_eq_true rfl⟩) (fun r_1 er_1 => ?_)
  obtain rfl : r_1 = 0 := er_1
  refine lv_if_ne (tgt := 12) hx hb dX6_settle_7 (by decide) (fun c9 => absurd c9 (by decide)) (fun c_2 => ?_)
  refine lv_iconst (v := (-1)) hx hb dX6_settle_10 (by decide) ?_
  exact rd_iret hx hb hr hk (rfl) dX6_settle_11

set_option maxHeartbeats 4000000 in
set_option maxRecDepth 100000 in
theorem cf_lose {l : Launch} {D : va_G} {q : Nat → ClassId} {a : Nat → Nat} {x : Int32} {y : Int32} : Met l yX6_lose (Cond.code yX6_lose cX6_lose 4 (some .int) :: w_all) ({ frames := 2, cells := 0, slots := 0, locals := 41 }) (rd_P D q [.ref (a 0), .int x, .int y] (fb_w a q)) (vp_Si (fun r => r = (-1))) 0 0 (fun _ => False) := by
  refine rd_start (by decide) (Nat.le_of_ble_eq_true rfl) ?_
  intro p e s m below meth c ls hx hb hr hml hown ht hk hP hQ hl
  have hK := hQ.1
  have hown : s.vm.findClass RX6 = some m.cls := hown
  have hl : lv_has ls 4 [(0, .ref (a 0)), (1, .int x), (2, .int y)] := hl
  have hP := hP.sub (ws' := [((a 0), .inr (5, [.ref (a 1), .ref (a 3), .ref (a 16), .ref (a 29), .ref (a 33), .ref (a 41), .ref (a 43)])), ((a 3), .inr (0, [.int 0, .int 0, .int 0, .int 0, .int 0, .int 0, .ref (a 4), .ref (a 5), .ref (a 6), .ref (a 7), .ref (a 8), .ref (a 9), .ref (a 10), .ref (a 11), .ref (a 12), .ref (a 13), .ref (a 14), .ref (a 15)]))]) [0, 3] rfl
  refine lv_aload_n hx hb dX6_lose_0 rfl (lv_at hl 0 rfl) ?_
  refine fl_get (C := RX6) (T := TX6) (N := 7) (ci := 5) (v := .ref (a 3)) hx hb ht in_X6 hown hK hP 0 rfl rfl 1 (by decide) mw_356 rfl dX6_lose_1 ?_
  refine lv_iload_n hx hb dX6_lose_4 rfl (lv_at hl 1 rfl) ?_
  refine vp_callSi (rd_wV (wc := [((a 3), .inr (0, [.int 0, .int 0, .int 0, .int 0, .int 0, .int 0, .ref (a 4), .ref (a 5), .ref (a 6), .ref (a 7), .ref (a 8), .ref (a 9), .ref (a 10), .ref (a 11), .ref (a 12), .ref (a 13), .ref (a 14), .ref (a 15)]))]) (As := [.int x]) (rest := []) hx hb hml hown ht (ct_Board_hasCell) wd_X0_hasCell mw_730 hQ (hP.sub [1] rfl) rfl rfl rfl hl.1 rfl (Nat.le_of_ble_eq_true rfl) dX6_lose_5 ⟨Nat.le_of_ble_eq_true rfl, Nat.le_of_ble_eq_true rfl, rfl, rfl⟩ ⟨Nat.le_of_ble_eq_true rfl, Nat.le_of_ble_eq_true rfl⟩) (fun r_1 er_1 => ?_)
  obtain rfl : r_1 = 0 := er_1
  refine lv_if_eq (tgt := 21) hx hb dX6_lose_8 (by decide) (fun c_2 => ?_) (fun c9 => absurd (by decide) c9)
  refine lv_iconst (v := (-1)) hx hb dX6_lose_21 (by decide) ?_
  exact rd_iret hx hb hr hk (rfl) dX6_lose_22

set_option maxHeartbeats 4000000 in
set_option maxRecDepth 100000 in
theorem cf_wear {l : Launch} {D : va_G} {q : Nat → ClassId} {a : Nat → Nat} {x : Int32} {y : Int32} : Met l yX6_wear (Cond.code yX6_wear cX6_wear 3 (some .int) :: w_all) ({ frames := 3, cells := 0, slots := 0, locals := 63 }) (rd_P D q [.ref (a 0), .int x, .int y] (fb_w a q)) (vp_Si (fun r => r = (-1))) 0 0 (fun _ => False) := by
  refine rd_start (by decide) (Nat.le_of_ble_eq_true rfl) ?_
  intro p e s m below meth c ls hx hb hr hml hown ht hk hP hQ hl
  have hK := hQ.1
  have hown : s.vm.findClass RX6 = some m.cls := hown
  have hl : lv_has ls 3 [(0, .ref (a 0)), (1, .int x), (2, .int y)] := hl
  have hP := hP.sub (ws' := [((a 0), .inr (5, [.ref (a 1), .ref (a 3), .ref (a 16), .ref (a 29), .ref (a 33), .ref (a 41), .ref (a 43)])), ((a 3), .inr (0, [.int 0, .int 0, .int 0, .int 0, .int 0, .int 0, .ref (a 4), .ref (a 5), .ref (a 6), .ref (a 7), .ref (a 8), .ref (a 9), .ref (a 10), .ref (a 11), .ref (a 12), .ref (a 13), .ref (a 14), .ref (a 15)]))]) [0, 3] rfl
  refine lv_aload_n hx hb dX6_wear_0 rfl (lv_at hl 0 rfl) ?_
  refine fl_get (C := RX6) (T := TX6) (N := 7) (ci := 5) (v := .ref (a 3)) hx hb ht in_X6 hown hK hP 0 rfl rfl 1 (by decide) mw_356 rfl dX6_wear_1 ?_
  refine lv_iload_n hx hb dX6_wear_4 rfl (lv_at hl 1 rfl) ?_
  refine lv_iload_n hx hb dX6_wear_5 rfl (lv_at hl 2 rfl) ?_
  refine vp_callSi (rd_wV (wc := [((a 3), .inr (0, [.int 0, .int 0, .int 0, .int 0, .int 0, .int 0, .ref (a 4), .ref (a 5), .ref (a 6), .ref (a 7), .ref (a 8), .ref (a 9), .ref (a 10), .ref (a 11), .ref (a 12), .ref (a 13), .ref (a 14), .ref (a 15)]))]) (As := [.int x, .int y]) (rest := []) hx hb hml hown ht (ct_Board_hasFlap) wd_X0_hasFlap mw_736 hQ (hP.sub [1] rfl) rfl rfl rfl hl.1 rfl (Nat.le_of_ble_eq_true rfl) dX6_wear_6 ⟨Nat.le_of_ble_eq_true rfl, Nat.le_of_ble_eq_true rfl, rfl, rfl⟩ ⟨Nat.le_of_ble_eq_true rfl, Nat.le_of_ble_eq_true rfl⟩) (fun r_1 er_1 => ?_)
  obtain rfl : r_1 = 0 := er_1
  refine lv_if_eq (tgt := 16) hx hb dX6_wear_9 (by decide) (fun c_2 => ?_) (fun c9 => absurd (by decide) c9)
  refine lv_iconst (v := (-1)) hx hb dX6_wear_16 (by decide) ?_
  exact rd_iret hx hb hr hk (rfl) dX6_wear_17

set_option maxHeartbeats 4000000 in
set_option maxRecDepth 100000 in
theorem cf_mend {l : Launch} {D : va_G} {q : Nat → ClassId} {a : Nat → Nat} {x : Int32} {y : Int32} : Met l yX6_mend (Cond.code yX6_mend cX6_mend 3 (some .int) :: w_all) ({ frames := 3, cells := 0, slots := 0, locals := 63 }) (rd_P D q [.ref (a 0), .int x, .int y] (fb_w a q)) (vp_Si (fun r => r = (-1))) 0 0 (fun _ => False) := by
  refine rd_start (by decide) (Nat.le_of_ble_eq_true rfl) ?_
  intro p e s m below meth c ls hx hb hr hml hown ht hk hP hQ hl
  have hK := hQ.1
  have hown : s.vm.findClass RX6 = some m.cls := hown
  have hl : lv_has ls 3 [(0, .ref (a 0)), (1, .int x), (2, .int y)] := hl
  have hP := hP.sub (ws' := [((a 0), .inr (5, [.ref (a 1), .ref (a 3), .ref (a 16), .ref (a 29), .ref (a 33), .ref (a 41), .ref (a 43)])), ((a 3), .inr (0, [.int 0, .int 0, .int 0, .int 0, .int 0, .int 0, .ref (a 4), .ref (a 5), .ref (a 6), .ref (a 7), .ref (a 8), .ref (a 9), .ref (a 10), .ref (a 11), .ref (a 12), .ref (a 13), .ref (a 14), .ref (a 15)]))]) [0, 3] rfl
  refine lv_aload_n hx hb dX6_mend_0 rfl (lv_at hl 0 rfl) ?_
  refine fl_get (C := RX6) (T := TX6) (N := 7) (ci := 5) (v := .ref (a 3)) hx hb ht in_X6 hown hK hP 0 rfl rfl 1 (by decide) mw_356 rfl dX6_mend_1 ?_
  refine lv_iload_n hx hb dX6_mend_4 rfl (lv_at hl 1 rfl) ?_
  refine lv_iload_n hx hb dX6_mend_5 rfl (lv_at hl 2 rfl) ?_
  refine vp_callSi (rd_wV (wc := [((a 3), .inr (0, [.int 0, .int 0, .int 0, .int 0, .int 0, .int 0, .ref (a 4), .ref (a 5), .ref (a 6), .ref (a 7), .ref (a 8), .ref (a 9), .ref (a 10), .ref (a 11), .ref (a 12), .ref (a 13), .ref (a 14), .ref (a 15)]))]) (As := [.int x, .int y]) (rest := []) hx hb hml hown ht (ct_Board_hasFlap) wd_X0_hasFlap mw_736 hQ (hP.sub [1] rfl) rfl rfl rfl hl.1 rfl (Nat.le_of_ble_eq_true rfl) dX6_mend_6 ⟨Nat.le_of_ble_eq_true rfl, Nat.le_of_ble_eq_true rfl, rfl, rfl⟩ ⟨Nat.le_of_ble_eq_true rfl, Nat.le_of_ble_eq_true rfl⟩) (fun r_1 er_1 => ?_)
  obtain rfl : r_1 = 0 := er_1
  refine lv_if_ne (tgt := 14) hx hb dX6_mend_9 (by decide) (fun c9 => absurd c9 (by decide)) (fun c_2 => ?_)
  refine lv_iconst (v := (-1)) hx hb dX6_mend_12 (by decide) ?_
  exact rd_iret hx hb hr hk (rfl) dX6_mend_13

set_option maxHeartbeats 4000000 in
set_option maxRecDepth 100000 in
theorem cf_limit {l : Launch} {D : va_G} {q : Nat → ClassId} {a : Nat → Nat} {x : Int32} : Met l yX6_limit (Cond.code yX6_limit cX6_limit 3 (some .int) :: w_all) ({ frames := 1, cells := 0, slots := 0, locals := 20 }) (rd_P D q [.ref (a 0), .int x] (fb_w a q)) (vp_Si (fun r => r = (-1))) 0 0 (fun _ => False) := by
  refine rd_start (by decide) (Nat.le_of_ble_eq_true rfl) ?_
  intro p e s m below meth c ls hx hb hr hml hown ht hk hP hQ hl
  have hK := hQ.1
  have hown : s.vm.findClass RX6 = some m.cls := hown
  have hl : lv_has ls 3 [(0, .ref (a 0)), (1, .int x)] := hl
  have hP := hP.sub (ws' := [((a 0), .inr (5, [.ref (a 1), .ref (a 3), .ref (a 16), .ref (a 29), .ref (a 33), .ref (a 41), .ref (a 43)])), ((a 3), .inr (0, [.int 0, .int 0, .int 0, .int 0, .int 0, .int 0, .ref (a 4), .ref (a 5), .ref (a 6), .ref (a 7), .ref (a 8), .ref (a 9), .ref (a 10), .ref (a 11), .ref (a 12), .ref (a 13), .ref (a 14), .ref (a 15)]))]) [0, 3] rfl
  refine lv_aload_n hx hb dX6_limit_0 rfl (lv_at hl 0 rfl) ?_
  refine fl_get (C := RX6) (T := TX6) (N := 7) (ci := 5) (v := .ref (a 3)) hx hb ht in_X6 hown hK hP 0 rfl rfl 1 (by decide) mw_356 rfl dX6_limit_1 ?_
  refine vp_callSi (rd_wV (wc := [((a 3), .inr (0, [.int 0, .int 0, .int 0, .int 0, .int 0, .int 0, .ref (a 4), .ref (a 5), .ref (a 6), .ref (a 7), .ref (a 8), .ref (a 9), .ref (a 10), .ref (a 11), .ref (a 12), .ref (a 13), .ref (a 14), .ref (a 15)]))]) (As := []) (rest := []) hx hb hml hown ht (ct_Board_isThere) wd_X0_isThere mw_677 hQ (hP.sub [1] rfl) rfl rfl rfl hl.1 rfl (Nat.le_of_ble_eq_true rfl) dX6_limit_4 ⟨Nat.le_of_ble_eq_true rfl, Nat.le_of_ble_eq_true rfl, rfl, rfl⟩ ⟨Nat.le_of_ble_eq_true rfl, Nat.le_of_ble_eq_true rfl⟩) (fun r_1 er_1 => ?_)
  obtain rfl : r_1 = 0 := er_1
  refine lv_if_eq (tgt := 21) hx hb dX6_limit_7 (by decide) (fun c_2 => ?_) (fun c9 => absurd (by decide) c9)
  refine lv_iconst (v := (-1)) hx hb dX6_limit_21 (by decide) ?_
  exact rd_iret hx hb hr hk (rfl) dX6_limit_22

set_option maxHeartbeats 4000000 in
set_option maxRecDepth 100000 in
theorem cf_exchange {l : Launch} {D : va_G} {q : Nat → ClassId} {a : Nat → Nat} {x : Int32} {y : Int32} {z : Int32} : Met l yX6_exchange (Cond.code yX6_exchange cX6_exchange 4 (some .int) :: w_all) ({ frames := 2, cells := 0, slots := 0, locals := 43 }) (rd_P D q [.ref (a 0), .int x, .int y, .int z] (fb_w a q)) (vp_Si (fun r => r = (-1))) 0 0 (fun _ => False) := by
  refine rd_start (by decide) (Nat.le_of_ble_eq_true rfl) ?_
  intro p e s m below meth c ls hx hb hr hml hown ht hk hP hQ hl
  have hK := hQ.1
  have hown : s.vm.findClass RX6 = some m.cls := hown
  have hl : lv_has ls 4 [(0, .ref (a 0)), (1, .int x), (2, .int y), (3, .int z)] := hl
  have hP := hP.sub (ws' := [((a 0), .inr (5, [.ref (a 1), .ref (a 3), .ref (a 16), .ref (a 29), .ref (a 33), .ref (a 41), .ref (a 43)])), ((a 3), .inr (0, [.int 0, .int 0, .int 0, .int 0, .int 0, .int 0, .ref (a 4), .ref (a 5), .ref (a 6), .ref (a 7), .ref (a 8), .ref (a 9), .ref (a 10), .ref (a 11), .ref (a 12), .ref (a 13), .ref (a 14), .ref (a 15)]))]) [0, 3] rfl
  refine lv_aload_n hx hb dX6_exchange_0 rfl (lv_at hl 0 rfl) ?_
  refine fl_get (C := RX6) (T := TX6) (N := 7) (ci := 5) (v := .ref (a 3)) hx hb ht in_X6 hown hK hP 0 rfl rfl 1 (by decide) mw_356 rfl dX6_exchange_1 ?_
  refine lv_iload_n hx hb dX6_exchange_4 rfl (lv_at hl 1 rfl) ?_
  refine lv_iload_n hx hb dX6_exchange_5 rfl (lv_at hl 2 rfl) ?_
  refine vp_callSi (rd_wV (wc := [((a 3), .inr (0, [.int 0, .int 0, .int 0, .int 0, .int 0, .int 0, .ref (a 4), .ref (a 5), .ref (a 6), .ref (a 7), .ref (a 8), .ref (a 9), .ref (a 10), .ref (a 11), .ref (a 12), .ref (a 13), .ref (a 14), .ref (a 15)]))]) (As := [.int x, .int y]) (rest := []) hx hb hml hown ht (ct_Board_isMovable) wd_X0_isMovable mw_768 hQ (hP.sub [1] rfl) rfl rfl rfl hl.1 rfl (Nat.le_of_ble_eq_true rfl) dX6_exchange_6 ⟨Nat.le_of_ble_eq_true rfl, Nat.le_of_ble_eq_true rfl, rfl, rfl⟩ ⟨Nat.le_of_ble_eq_true rfl, Nat.le_of_ble_eq_true rfl⟩) (fun r_1 er_1 => ?_)
  obtain rfl : r_1 = 0 := er_1
  refine lv_if_eq (tgt := 29) hx hb dX6_exchange_9 (by decide) (fun c_2 => ?_) (fun c9 => absurd (by decide) c9)
  refine lv_iconst (v := (-1)) hx hb dX6_exchange_29 (by decide) ?_
  exact rd_iret hx hb hr hk (rfl) dX6_exchange_30

set_option maxHeartbeats 4000000 in
set_option maxRecDepth 100000 in
theorem cf_cell {l : Launch} {D : va_G} {q : Nat → ClassId} {a : Nat → Nat} {x : Int32} {y : Int32} : Met l yX6_cell (Cond.code yX6_cell cX6_cell 3 (some .int) :: w_all) ({ frames := 2, cells := 0, slots := 0, locals := 41 }) (rd_P D q [.ref (a 0), .int x, .int y] (fb_w a q)) (vp_Si (fun r => r = (-1))) 0 0 (fun _ => False) := by
  refine rd_start (by decide) (Nat.le_of_ble_eq_true rfl) ?_
  intro p e s m below meth c ls hx hb hr hml hown ht hk hP hQ hl
  have hK := hQ.1
  have hown : s.vm.findClass RX6 = some m.cls := hown
  have hl : lv_has ls 3 [(0, .ref (a 0)), (1, .int x), (2, .int y)] := hl
  have hP := hP.sub (ws' := [((a 0), .inr (5, [.ref (a 1), .ref (a 3), .ref (a 16), .ref (a 29), .ref (a 33), .ref (a 41), .ref (a 43)])), ((a 3), .inr (0, [.int 0, .int 0, .int 0, .int 0, .int 0, .int 0, .ref (a 4), .ref (a 5), .ref (a 6), .ref (a 7), .ref (a 8), .ref (a 9), .ref (a 10), .ref (a 11), .ref (a 12), .ref (a 13), .ref (a 14), .ref (a 15)]))]) [0, 3] rfl
  refine lv_aload_n hx hb dX6_cell_0 rfl (lv_at hl 0 rfl) ?_
  refine fl_get (C := RX6) (T := TX6) (N := 7) (ci := 5) (v := .ref (a 3)) hx hb ht in_X6 hown hK hP 0 rfl rfl 1 (by decide) mw_356 rfl dX6_cell_1 ?_
  refine lv_iload_n hx hb dX6_cell_4 rfl (lv_at hl 1 rfl) ?_
  refine vp_callSi (rd_wV (wc := [((a 3), .inr (0, [.int 0, .int 0, .int 0, .int 0, .int 0, .int 0, .ref (a 4), .ref (a 5), .ref (a 6), .ref (a 7), .ref (a 8), .ref (a 9), .ref (a 10), .ref (a 11), .ref (a 12), .ref (a 13), .ref (a 14), .ref (a 15)]))]) (As := [.int x]) (rest := []) hx hb hml hown ht (ct_Board_hasCell) wd_X0_hasCell mw_730 hQ (hP.sub [1] rfl) rfl rfl rfl hl.1 rfl (Nat.le_of_ble_eq_true rfl) dX6_cell_5 ⟨Nat.le_of_ble_eq_true rfl, Nat.le_of_ble_eq_true rfl, rfl, rfl⟩ ⟨Nat.le_of_ble_eq_true rfl, Nat.le_of_ble_eq_true rfl⟩) (fun r_1 er_1 => ?_)
  obtain rfl : r_1 = 0 := er_1
  refine lv_if_ne (tgt := 13) hx hb dX6_cell_8 (by decide) (fun c9 => absurd c9 (by decide)) (fun c_2 => ?_)
  refine lv_iconst (v := (-1)) hx hb dX6_cell_11 (by decide) ?_
  exact rd_iret hx hb hr hk (rfl) dX6_cell_12

set_option maxHeartbeats 4000000 in
set_option maxRecDepth 100000 in
theorem cf_drum {l : Launch} {D : va_G} {q : Nat → ClassId} {a : Nat → Nat} {x : Int32} {y : Int32} : Met l yX6_drum (Cond.code yX6_drum cX6_drum 3 (some .int) :: w_all) ({ frames := 1, cells := 0, slots := 0, locals := 21 }) (rd_P D q [.ref (a 0), .int x, .int y] (fb_w a q)) (vp_Si (fun r => r = (-1))) 0 0 (fun _ => False) := by
  refine rd_start (by decide) (Nat.le_of_ble_eq_true rfl) ?_
  intro p e s m below meth c ls hx hb hr hml hown ht hk hP hQ hl
  have hK := hQ.1
  have hown : s.vm.findClass RX6 = some m.cls := hown
  have hl : lv_has ls 3 [(0, .ref (a 0)), (1, .int x), (2, .int y)] := hl
  have hP := hP.sub (ws' := [((a 0), .inr (5, [.ref (a 1), .ref (a 3), .ref (a 16), .ref (a 29), .ref (a 33), .ref (a 41), .ref (a 43)])), ((a 3), .inr (0, [.int 0, .int 0, .int 0, .int 0, .int 0, .int 0, .ref (a 4), .ref (a 5), .ref (a 6), .ref (a 7), .ref (a 8), .ref (a 9), .ref (a 10), .ref (a 11), .ref (a 12), .ref (a 13), .ref (a 14), .ref (a 15)]))]) [0, 3] rfl
  refine lv_aload_n hx hb dX6_drum_0 rfl (lv_at hl 0 rfl) ?_
  refine fl_get (C := RX6) (T := TX6) (N := 7) (ci := 5) (v := .ref (a 3)) hx hb ht in_X6 hown hK hP 0 rfl rfl 1 (by decide) mw_356 rfl dX6_drum_1 ?_
  refine lv_iload_n hx hb dX6_drum_4 rfl (lv_at hl 1 rfl) ?_
  refine vp_callSi (rd_wV (wc := [((a 3), .inr (0, [.int 0, .int 0, .int 0, .int 0, .int 0, .int 0, .ref (a 4), .ref (a 5), .ref (a 6), .ref (a 7), .ref (a 8), .ref (a 9), .ref (a 10), .ref (a 11), .ref (a 12), .ref (a 13), .ref (a 14), .ref (a 15)]))]) (As := [.int x]) (rest := []) hx hb hml hown ht (ct_Board_hasDrum) wd_X0_hasDrum mw_904 hQ (hP.sub [1] rfl) rfl rfl rfl hl.1 rfl (Nat.le_of_ble_eq_true rfl) dX6_drum_5 ⟨Nat.le_of_ble_eq_true rfl, Nat.le_of_ble_eq_true rfl, rfl, rfl⟩ ⟨Nat.le_of_ble_eq_true rfl, Nat.le_of_ble_eq_true rfl⟩) (fun r_1 er_1 => ?_)
  obtain rfl : r_1 = 0 := er_1
  refine lv_if_ne (tgt := 13) hx hb dX6_drum_8 (by decide) (fun c9 => absurd c9 (by decide)) (fun c_2 => ?_)
  refine lv_iconst (v := (-1)) hx hb dX6_drum_11 (by decide) ?_
  exact rd_iret hx hb hr hk (rfl) dX6_drum_12

set_option maxHeartbeats 4000000 in
set_option maxRecDepth 100000 in
theorem cf_sign {l : Launch} {D : va_G} {q : Nat → ClassId} {a : Nat → Nat} {x : Int32} {y : Int32} : Met l yX6_sign (Cond.code yX6_sign cX6_sign 3 (some .int) :: w_all) ({ frames := 1, cells := 0, slots := 0, locals := 22 }) (rd_P D q [.ref (a 0), .int x, .int y] (fb_w a q)) (vp_Si (fun r => r = (-1))) 0 0 (fun _ => False) := by
  refine rd_start (by decide) (Nat.le_of_ble_eq_true rfl) ?_
  intro p e s m below meth c ls hx hb hr hml hown ht hk hP hQ hl
  have hK := hQ.1
  have hown : s.vm.findClass RX6 = some m.cls := hown
  have hl : lv_has ls 3 [(0, .ref (a 0)), (1, .int x), (2, .int y)] := hl
  have hP := hP.sub (ws' := [((a 0), .inr (5, [.ref (a 1), .ref (a 3), .ref (a 16), .ref (a 29), .ref (a 33), .ref (a 41), .ref (a 43)])), ((a 3), .inr (0, [.int 0, .int 0, .int 0, .int 0, .int 0, .int 0, .ref (a 4), .ref (a 5), .ref (a 6), .ref (a 7), .ref (a 8), .ref (a 9), .ref (a 10), .ref (a 11), .ref (a 12), .ref (a 13), .ref (a 14), .ref (a 15)]))]) [0, 3] rfl
  refine lv_aload_n hx hb dX6_sign_0 rfl (lv_at hl 0 rfl) ?_
  refine fl_get (C := RX6) (T := TX6) (N := 7) (ci := 5) (v := .ref (a 3)) hx hb ht in_X6 hown hK hP 0 rfl rfl 1 (by decide) mw_356 rfl dX6_sign_1 ?_
  refine lv_iload_n hx hb dX6_sign_4 rfl (lv_at hl 1 rfl) ?_
  refine lv_iload_n hx hb dX6_sign_5 rfl (lv_at hl 2 rfl) ?_
  refine vp_callSi (rd_wV (wc := [((a 3), .inr (0, [.int 0, .int 0, .int 0, .int 0, .int 0, .int 0, .ref (a 4), .ref (a 5), .ref (a 6), .ref (a 7), .ref (a 8), .ref (a 9), .ref (a 10), .ref (a 11), .ref (a 12), .ref (a 13), .ref (a 14), .ref (a 15)]))]) (As := [.int x, .int y]) (rest := []) hx hb hml hown ht (ct_Board_signOf) wd_X0_signOf mw_934 hQ (hP.sub [1] rfl) rfl rfl rfl hl.1 rfl (Nat.le_of_ble_eq_true rfl) dX6_sign_6 ⟨Nat.le_of_ble_eq_true rfl, Nat.le_of_ble_eq_true rfl, rfl, rfl⟩ ⟨Nat.le_of_ble_eq_true rfl, Nat.le_of_ble_eq_true rfl⟩) (fun r_1 er_1 => ?_)
  obtain rfl : r_1 = (-1) := er_1
  exact rd_iret hx hb hr hk (rfl) dX6_sign_9

set_option maxHeartbeats 4000000 in
set_option maxRecDepth 100000 in
theorem cf_at {l : Launch} {D : va_G} {q : Nat → ClassId} {a : Nat → Nat} {x : Int32} {y : Int32} {z : Int32} : Met l yX6_at (Cond.code yX6_at cX6_at 5 (some .int) :: w_all) ({ frames := 1, cells := 0, slots := 0, locals := 21 }) (rd_P D q [.ref (a 0), .int x, .int y, .int z] (fb_w a q)) (vp_Si (fun r => r = (-1))) 0 0 (fun _ => False) := by
  refine rd_start (by decide) (Nat.le_of_ble_eq_true rfl) ?_
  intro p e s m below meth c ls hx hb hr hml hown ht hk hP hQ hl
  have hK := hQ.1
  have hown : s.vm.findClass RX6 = some m.cls := hown
  have hl : lv_has ls 5 [(0, .ref (a 0)), (1, .int x), (2, .int y), (3, .int z)] := hl
  have hP := hP.sub (ws' := [((a 0), .inr (5, [.ref (a 1), .ref (a 3), .ref (a 16), .ref (a 29), .ref (a 33), .ref (a 41), .ref (a 43)])), ((a 3), .inr (0, [.int 0, .int 0, .int 0, .int 0, .int 0, .int 0, .ref (a 4), .ref (a 5), .ref (a 6), .ref (a 7), .ref (a 8), .ref (a 9), .ref (a 10), .ref (a 11), .ref (a 12), .ref (a 13), .ref (a 14), .ref (a 15)]))]) [0, 3] rfl
  refine lv_aload_n hx hb dX6_at_0 rfl (lv_at hl 0 rfl) ?_
  refine fl_get (C := RX6) (T := TX6) (N := 7) (ci := 5) (v := .ref (a 3)) hx hb ht in_X6 hown hK hP 0 rfl rfl 1 (by decide) mw_356 rfl dX6_at_1 ?_
  refine lv_iload_n hx hb dX6_at_4 rfl (lv_at hl 1 rfl) ?_
  refine vp_callSi (rd_wV (wc := [((a 3), .inr (0, [.int 0, .int 0, .int 0, .int 0, .int 0, .int 0, .ref (a 4), .ref (a 5), .ref (a 6), .ref (a 7), .ref (a 8), .ref (a 9), .ref (a 10), .ref (a 11), .ref (a 12), .ref (a 13), .ref (a 14), .ref (a 15)]))]) (As := [.int x]) (rest := []) hx hb hml hown ht (ct_Board_hasRow) wd_X0_hasRow mw_621 hQ (hP.sub [1] rfl) rfl rfl rfl hl.1 rfl (Nat.le_of_ble_eq_true rfl) dX6_at_5 ⟨Nat.le_of_ble_eq_true rfl, Nat.le_of_ble_eq_true rfl, rfl, rfl⟩ ⟨Nat.le_of_ble_eq_true rfl, Nat.le_of_ble_eq_true rfl⟩) (fun r_1 er_1 => ?_)
  obtain rfl : r_1 = 0 := er_1
  refine lv_if_eq (tgt := 26) hx hb dX6_at_8 (by decide) (fun c_2 => ?_) (fun c9 => absurd (by decide) c9)
  refine lv_iconst (v := (-1)) hx hb dX6_at_26 (by decide) ?_
  exact rd_iret hx hb hr hk (rfl) dX6_at_27

set_option maxHeartbeats 4000000 in
set_option maxRecDepth 100000 in
theorem cf_left {l : Launch} {D : va_G} {q : Nat → ClassId} {a : Nat → Nat} {x : Int32} : Met l yX6_left (Cond.code yX6_left cX6_left 2 (some .int) :: w_all) ({ frames := 1, cells := 0, slots := 0, locals := 20 }) (rd_P D q [.ref (a 0), .int x] (fb_w a q)) (vp_Si (fun r => r = (-1))) 0 0 (fun _ => False) := by
  refine rd_start (by decide) (Nat.le_of_ble_eq_true rfl) ?_
  intro p e s m below meth c ls hx hb hr hml hown ht hk hP hQ hl
  have hK := hQ.1
  have hown : s.vm.findClass RX6 = some m.cls := hown
  have hl : lv_has ls 2 [(0, .ref (a 0)), (1, .int x)] := hl
  have hP := hP.sub (ws' := [((a 0), .inr (5, [.ref (a 1), .ref (a 3), .ref (a 16), .ref (a 29), .ref (a 33), .ref (a 41), .ref (a 43)])), ((a 3), .inr (0, [.int 0, .int 0, .int 0, .int 0, .int 0, .int 0, .ref (a 4), .ref (a 5), .ref (a 6), .ref (a 7), .ref (a 8), .ref (a 9), .ref (a 10), .ref (a 11), .ref (a 12), .ref (a 13), .ref (a 14), .ref (a 15)]))]) [0, 3] rfl
  refine lv_aload_n hx hb dX6_left_0 rfl (lv_at hl 0 rfl) ?_
  refine fl_get (C := RX6) (T := TX6) (N := 7) (ci := 5) (v := .ref (a 3)) hx hb ht in_X6 hown hK hP 0 rfl rfl 1 (by decide) mw_356 rfl dX6_left_1 ?_
  refine vp_callSi (rd_wV (wc := [((a 3), .inr (0, [.int 0, .int 0, .int 0, .int 0, .int 0, .int 0, .ref (a 4), .ref (a 5), .ref (a 6), .ref (a 7), .ref (a 8), .ref (a 9), .ref (a 10), .ref (a 11), .ref (a 12), .ref (a 13), .ref (a 14), .ref (a 15)]))]) (As := []) (rest := []) hx hb hml hown ht (ct_Board_isThere) wd_X0_isThere mw_677 hQ (hP.sub [1] rfl) rfl rfl rfl hl.1 rfl (Nat.le_of_ble_eq_true rfl) dX6_left_4 ⟨Nat.le_of_ble_eq_true rfl, Nat.le_of_ble_eq_true rfl, rfl, rfl⟩ ⟨Nat.le_of_ble_eq_true rfl, Nat.le_of_ble_eq_true rfl⟩) (fun r_1 er_1 => ?_)
  obtain rfl : r_1 = 0 := er_1
  refine lv_if_ne (tgt := 12) hx hb dX6_left_7 (by decide) (fun c9 => absurd c9 (by decide)) (fun c_2 => ?_)
  refine lv_iconst (v := (-1)) hx hb dX6_left_10 (by decide) ?_
  exact rd_iret hx hb hr hk (rfl) dX6_left_11

set_option maxHeartbeats 4000000 in
set_option maxRecDepth 100000 in
theorem cf_when {l : Launch} {D : va_G} {q : Nat → ClassId} {a : Nat → Nat} {x : Int32} : Met l yX6_when (Cond.code yX6_when cX6_when 2 (some .int) :: w_all) ({ frames := 1, cells := 0, slots := 0, locals := 20 }) (rd_P D q [.ref (a 0), .int x] (fb_w a q)) (vp_Si (fun r => r = (-1))) 0 0 (fun _ => False) := by
  refine rd_start (by decide) (Nat.le_of_ble_eq_true rfl) ?_
  intro p e s m below meth c ls hx hb hr hml hown ht hk hP hQ hl
  have hK := hQ.1
  have hown : s.vm.findClass RX6 = some m.cls := hown
  have hl : lv_has ls 2 [(0, .ref (a 0)), (1, .int x)] := hl
  have hP := hP.sub (ws' := [((a 0), .inr (5, [.ref (a 1), .ref (a 3), .ref (a 16), .ref (a 29), .ref (a 33), .ref (a 41), .ref (a 43)])), ((a 3), .inr (0, [.int 0, .int 0, .int 0, .int 0, .int 0, .int 0, .ref (a 4), .ref (a 5), .ref (a 6), .ref (a 7), .ref (a 8), .ref (a 9), .ref (a 10), .ref (a 11), .ref (a 12), .ref (a 13), .ref (a 14), .ref (a 15)]))]) [0, 3] rfl
  refine lv_aload_n hx hb dX6_when_0 rfl (lv_at hl 0 rfl) ?_
  refine fl_get (C := RX6) (T := TX6) (N := 7) (ci := 5) (v := .ref (a 3)) hx hb ht in_X6 hown hK hP 0 rfl rfl 1 (by decide) mw_356 rfl dX6_when_1 ?_
  refine vp_callSi (rd_wV (wc := [((a 3), .inr (0, [.int 0, .int 0, .int 0, .int 0, .int 0, .int 0, .ref (a 4), .ref (a 5), .ref (a 6), .ref (a 7), .ref (a 8), .ref (a 9), .ref (a 10), .ref (a 11), .ref (a 12), .ref (a 13), .ref (a 14), .ref (a 15)]))]) (As := []) (rest := []) hx hb hml hown ht (ct_Board_isThere) wd_X0_isThere mw_677 hQ (hP.sub [1] rfl) rfl rfl rfl hl.1 rfl (Nat.le_of_ble_eq_true rfl) dX6_when_4 ⟨Nat.le_of_ble_eq_true rfl, Nat.le_of_ble_eq_true rfl, rfl, rfl⟩ ⟨Nat.le_of_ble_eq_true rfl, Nat.le_of_ble_eq_true rfl⟩) (fun r_1 er_1 => ?_)
  obtain rfl : r_1 = 0 := er_1
  refine lv_if_eq (tgt := 19) hx hb dX6_when_7 (by decide) (fun c_2 => ?_) (fun c9 => absurd (by decide) c9)
  refine lv_iconst (v := (-1)) hx hb dX6_when_19 (by decide) ?_
  exact rd_iret hx hb hr hk (rfl) dX6_when_20

set_option maxHeartbeats 4000000 in
set_option maxRecDepth 100000 in
theorem cf_loudest {l : Launch} {D : va_G} {q : Nat → ClassId} {a : Nat → Nat} {x : Int32} : Met l yX6_loudest (Cond.code yX6_loudest cX6_loudest 2 (some .int) :: w_all) ({ frames := 1, cells := 0, slots := 0, locals := 20 }) (rd_P D q [.ref (a 0), .int x] (fb_w a q)) (vp_Si (fun r => r = (-1))) 0 0 (fun _ => False) := by
  refine rd_start (by decide) (Nat.le_of_ble_eq_true rfl) ?_
  intro p e s m below meth c ls hx hb hr hml hown ht hk hP hQ hl
  have hK := hQ.1
  have hown : s.vm.findClass RX6 = some m.cls := hown
  have hl : lv_has ls 2 [(0, .ref (a 0)), (1, .int x)] := hl
  have hP := hP.sub (ws' := [((a 0), .inr (5, [.ref (a 1), .ref (a 3), .ref (a 16), .ref (a 29), .ref (a 33), .ref (a 41), .ref (a 43)])), ((a 3), .inr (0, [.int 0, .int 0, .int 0, .int 0, .int 0, .int 0, .ref (a 4), .ref (a 5), .ref (a 6), .ref (a 7), .ref (a 8), .ref (a 9), .ref (a 10), .ref (a 11), .ref (a 12), .ref (a 13), .ref (a 14), .ref (a 15)]))]) [0, 3] rfl
  refine lv_aload_n hx hb dX6_loudest_0 rfl (lv_at hl 0 rfl) ?_
  refine fl_get (C := RX6) (T := TX6) (N := 7) (ci := 5) (v := .ref (a 3)) hx hb ht in_X6 hown hK hP 0 rfl rfl 1 (by decide) mw_356 rfl dX6_loudest_1 ?_
  refine vp_callSi (rd_wV (wc := [((a 3), .inr (0, [.int 0, .int 0, .int 0, .int 0, .int 0, .int 0, .ref (a 4), .ref (a 5), .ref (a 6), .ref (a 7), .ref (a 8), .ref (a 9), .ref (a 10), .ref (a 11), .ref (a 12), .ref (a 13), .ref (a 14), .ref (a 15)]))]) (As := []) (rest := []) hx hb hml hown ht (ct_Board_isThere) wd_X0_isThere mw_677 hQ (hP.sub [1] rfl) rfl rfl rfl hl.1 rfl (Nat.le_of_ble_eq_true rfl) dX6_loudest_4 ⟨Nat.le_of_ble_eq_true rfl, Nat.le_of_ble_eq_true rfl, rfl, rfl⟩ ⟨Nat.le_of_ble_eq_true rfl, Nat.le_of_ble_eq_true rfl⟩) (fun r_1 er_1 => ?_)
  obtain rfl : r_1 = 0 := er_1
  refine lv_if_eq (tgt := 19) hx hb dX6_loudest_7 (by decide) (fun c_2 => ?_) (fun c9 => absurd (by decide) c9)
  refine lv_iconst (v := (-1)) hx hb dX6_loudest_19 (by decide) ?_
  exact rd_iret hx hb hr hk (rfl) dX6_loudest_20

set_option maxHeartbeats 4000000 in
set_option maxRecDepth 100000 in
theorem cf_total {l : Launch} {D : va_G} {q : Nat → ClassId} {a : Nat → Nat} {x : Int32} : Met l yX6_total (Cond.code yX6_total cX6_total 2 (some .int) :: w_all) ({ frames := 1, cells := 0, slots := 0, locals := 20 }) (rd_P D q [.ref (a 0), .int x] (fb_w a q)) (vp_Si (fun r => r = (-1))) 0 0 (fun _ => False) := by
  refine rd_start (by decide) (Nat.le_of_ble_eq_true rfl) ?_
  intro p e s m below meth c ls hx hb hr hml hown ht hk hP hQ hl
  have hK := hQ.1
  have hown : s.vm.findClass RX6 = some m.cls := hown
  have hl : lv_has ls 2 [(0, .ref (a 0)), (1, .int x)] := hl
  have hP := hP.sub (ws' := [((a 0), .inr (5, [.ref (a 1), .ref (a 3), .ref (a 16), .ref (a 29), .ref (a 33), .ref (a 41), .ref (a 43)])), ((a 3), .inr (0, [.int 0, .int 0, .int 0, .int 0, .int 0, .int 0, .ref (a 4), .ref (a 5), .ref (a 6), .ref (a 7), .ref (a 8), .ref (a 9), .ref (a 10), .ref (a 11), .ref (a 12), .ref (a 13), .ref (a 14), .ref (a 15)]))]) [0, 3] rfl
  refine lv_aload_n hx hb dX6_total_0 rfl (lv_at hl 0 rfl) ?_
  refine fl_get (C := RX6) (T := TX6) (N := 7) (ci := 5) (v := .ref (a 3)) hx hb ht in_X6 hown hK hP 0 rfl rfl 1 (by decide) mw_356 rfl dX6_total_1 ?_
  refine vp_callSi (rd_wV (wc := [((a 3), .inr (0, [.int 0, .int 0, .int 0, .int 0, .int 0, .int 0, .ref (a 4), .ref (a 5), .ref (a 6), .ref (a 7), .ref (a 8), .ref (a 9), .ref (a 10), .ref (a 11), .ref (a 12), .ref (a 13), .ref (a 14), .ref (a 15)]))]) (As := []) (rest := []) hx hb hml hown ht (ct_Board_isThere) wd_X0_isThere mw_677 hQ (hP.sub [1] rfl) rfl rfl rfl hl.1 rfl (Nat.le_of_ble_eq_true rfl) dX6_total_4 ⟨Nat.le_of_ble_eq_true rfl, Nat.le_of_ble_eq_true rfl, rfl, rfl⟩ ⟨Nat.le_of_ble_eq_true rfl, Nat.le_of_ble_eq_true rfl⟩) (fun r_1 er_1 => ?_)
  obtain rfl : r_1 = 0 := er_1
  refine lv_if_ne (tgt := 12) hx hb dX6_total_7 (by decide) (fun c9 => absurd c9 (by decide)) (fun c_2 => ?_)
  refine lv_iconst (v := (-1)) hx hb dX6_total_10 (by decide) ?_
  exact rd_iret hx hb hr hk (rfl) dX6_total_11

set_option maxHeartbeats 4000000 in
set_option maxRecDepth 100000 in
theorem cf_rests {l : Launch} {D : va_G} {q : Nat → ClassId} {a : Nat → Nat} {x : Int32} : Met l yX6_rests (Cond.code yX6_rests cX6_rests 3 (some .int) :: w_all) ({ frames := 2, cells := 0, slots := 0, locals := 41 }) (rd_P D q [.ref (a 0), .int x] (fb_w a q)) (vp_Si (fun r => r = (-1))) 0 0 (fun _ => False) := by
  refine rd_start (by decide) (Nat.le_of_ble_eq_true rfl) ?_
  intro p e s m below meth c ls hx hb hr hml hown ht hk hP hQ hl
  have hK := hQ.1
  have hown : s.vm.findClass RX6 = some m.cls := hown
  have hl : lv_has ls 3 [(0, .ref (a 0)), (1, .int x)] := hl
  have hP := hP.sub (ws' := [((a 0), .inr (5, [.ref (a 1), .ref (a 3), .ref (a 16), .ref (a 29), .ref (a 33), .ref (a 41), .ref (a 43)])), ((a 3), .inr (0, [.int 0, .int 0, .int 0, .int 0, .int 0, .int 0, .ref (a 4), .ref (a 5), .ref (a 6), .ref (a 7), .ref (a 8), .ref (a 9), .ref (a 10), .ref (a 11), .ref (a 12), .ref (a 13), .ref (a 14), .ref (a 15)]))]) [0, 3] rfl
  refine lv_aload_n hx hb dX6_rests_0 rfl (lv_at hl 0 rfl) ?_
  refine fl_get (C := RX6) (T := TX6) (N := 7) (ci := 5) (v := .ref (a 3)) hx hb ht in_X6 hown hK hP 0 rfl rfl 1 (by decide) mw_356 rfl dX6_rests_1 ?_
  refine lv_iload_n hx hb dX6_rests_4 rfl (lv_at hl 1 rfl) ?_
  refine vp_callSi (rd_wV (wc := [((a 3), .inr (0, [.int 0, .int 0, .int 0, .int 0, .int 0, .int 0, .ref (a 4), .ref (a 5), .ref (a 6), .ref (a 7), .ref (a 8), .ref (a 9), .ref (a 10), .ref (a 11), .ref (a 12), .ref (a 13), .ref (a 14), .ref (a 15)]))]) (As := [.int x]) (rest := []) hx hb hml hown ht (ct_Board_hasCell) wd_X0_hasCell mw_730 hQ (hP.sub [1] rfl) rfl rfl rfl hl.1 rfl (Nat.le_of_ble_eq_true rfl) dX6_rests_5 ⟨Nat.le_of_ble_eq_true rfl, Nat.le_of_ble_eq_true rfl, rfl, rfl⟩ ⟨Nat.le_of_ble_eq_true rfl, Nat.le_of_ble_eq_true rfl⟩) (fun r_1 er_1 => ?_)
  obtain rfl : r_1 = 0 := er_1
  refine lv_if_ne (tgt := 13) hx hb dX6_rests_8 (by decide) (fun c9 => absurd c9 (by decide)) (fun c_2 => ?_)
  refine lv_iconst (v := (-1)) hx hb dX6_rests_11 (by decide) ?_
  exact rd_iret hx hb hr hk (rfl) dX6_rests_12

set_option maxHeartbeats 4000000 in
set_option maxRecDepth 100000 in
theorem cf_cost {l : Launch} {D : va_G} {q : Nat → ClassId} {a : Nat → Nat} {x : Int32} : Met l yX6_cost (Cond.code yX6_cost cX6_cost 3 (some .int) :: w_all) ({ frames := 2, cells := 0, slots := 0, locals := 42 }) (rd_P D q [.ref (a 0), .int x] (fb_w a q)) (vp_Si (fun r => r = (-1))) 0 0 (fun _ => False) := by
  refine rd_start (by decide) (Nat.le_of_ble_eq_true rfl) ?_
  intro p e s m below meth c ls hx hb hr hml hown ht hk hP hQ hl
  have hK := hQ.1
  have hown : s.vm.findClass RX6 = some m.cls := hown
  have hl : lv_has ls 3 [(0, .ref (a 0)), (1, .int x)] := hl
  have hP := hP.sub (ws' := [((a 0), .inr (5, [.ref (a 1), .ref (a 3), .ref (a 16), .ref (a 29), .ref (a 33), .ref (a 41), .ref (a 43)])), ((a 1), .inr (4, [.ref (a 2), .int 0, .int 0, .int 0, .int 0, .int 0, .int 0])), ((a 2), .inl (q 0, 400, .inl (fun _ => 0))), ((a 3), .inr (0, [.int 0, .int 0, .int 0, .int 0, .int 0, .int 0, .ref (a 4), .ref (a 5), .ref (a 6), .ref (a 7), .ref (a 8), .ref (a 9), .ref (a 10), .ref (a 11), .ref (a 12), .ref (a 13), .ref (a 14), .ref (a 15)])), ((a 4), .inl (q 0, 4, .inl (fun _ => 0))), ((a 5), .inl (q 0, 4, .inl (fun _ => 0))), ((a 6), .inl (q 0, 160, .inl (fun _ => 0))), ((a 7), .inl (q 0, 40, .inl (fun _ => 0))), ((a 8), .inl (q 0, 40, .inl (fun _ => 0))), ((a 9), .inl (q 0, 40, .inl (fun _ => 0))), ((a 10), .inl (q 0, 40, .inl (fun _ => 0))), ((a 11), .inl (q 0, 40, .inl (fun _ => 0))), ((a 12), .inl (q 0, 40, .inl (fun _ => 0))), ((a 13), .inl (q 0, 40, .inl (fun _ => 0))), ((a 14), .inl (q 1, 40, .inr (.inl (fun _ => 0)))), ((a 15), .inl (q 0, 0, .inl (fun _ => 0))), ((a 16), .inr (0, [.int 0, .int 0, .int 0, .int 0, .int 0, .int 0, .ref (a 17), .ref (a 18), .ref (a 19), .ref (a 20), .ref (a 21), .ref (a 22), .ref (a 23), .ref (a 24), .ref (a 25), .ref (a 26), .ref (a 27), .ref (a 28)])), ((a 17), .inl (q 0, 4, .inl (fun _ => 0))), ((a 18), .inl (q 0, 4, .inl (fun _ => 0))), ((a 19), .inl (q 0, 160, .inl (fun _ => 0))), ((a 20), .inl (q 0, 40, .inl (fun _ => 0))), ((a 21), .inl (q 0, 40, .inl (fun _ => 0))), ((a 22), .inl (q 0, 40, .inl (fun _ => 0))), ((a 23), .inl (q 0, 40, .inl (fun _ => 0))), ((a 24), .inl (q 0, 40, .inl (fun _ => 0))), ((a 25), .inl (q 0, 40, .inl (fun _ => 0))), ((a 26), .inl (q 0, 40, .inl (fun _ => 0))), ((a 27), .inl (q 1, 40, .inr (.inl (fun _ => 0)))), ((a 28), .inl (q 0, 0, .inl (fun _ => 0))), ((a 29), .inr (1, [.ref (a 30), .ref (a 31), .ref (a 32), .int 0, .int 0, .int 0, .int 0, .int 0, .int 0, .int 0, .int 0, .int 0])), ((a 30), .inl (q 0, 40, .inl (fun _ => 0))), ((a 31), .inl (q 0, 40, .inl (fun _ => 0))), ((a 32), .inl (q 0, 40, .inl (fun _ => 0))), ((a 33), .inr (3, [.ref (a 34), .ref (a 35), .ref (a 36), .ref (a 37), .ref (a 38), .ref (a 39), .ref (a 40), .int 0, .int 0, .int 0])), ((a 34), .inl (q 0, 80, .inl (fun _ => 0))), ((a 35), .inl (q 0, 80, .inl (fun _ => 0))), ((a 36), .inl (q 0, 80, .inl (fun _ => 0))), ((a 37), .inl (q 0, 80, .inl (fun _ => 0))), ((a 38), .inl (q 0, 80, .inl (fun _ => 0))), ((a 39), .inl (q 0, 3, .inl (fun _ => 0))), ((a 40), .inl (q 0, 3, .inl (fun _ => 0))), ((a 41), .inr (2, [.ref (a 42), .int 0, .int 0])), ((a 42), .inl (q 4, 10, .inr (.inr (.inr (.inr (fun _ => none)))))), ((a 43), .inl (q 4, 2, .inr (.inr (.inr (.inr (fun _ => none))))))]) [0, 1, 2, 3, 4, 5, 6, 7, 8, 9, 10, 11, 12, 13, 14, 15, 16, 17, 18, 19, 20, 21, 22, 23, 24, 25, 26, 27, 28, 29, 30, 31, 32, 33, 34, 35, 36, 37, 38, 39, 40, 41, 42, 43] rfl
  refine lv_aload_n hx hb dX6_cost_0 rfl (lv_at hl 0 rfl) ?_
  refine lv_iload_n hx hb dX6_cost_1 rfl (lv_at hl 1 rfl) ?_
  refine vp_callSi (rd_wV (wc := [((a 0), .inr (5, [.ref (a 1), .ref (a 3), .ref (a 16), .ref (a 29), .ref (a 33), .ref (a 41), .ref (a 43)])), ((a 1), .inr (4, [.ref (a 2), .int 0, .int 0, .int 0, .int 0, .int 0, .int 0])), ((a 2), .inl (q 0, 400, .inl (fun _ => 0))), ((a 3), .inr (0, [.int 0, .int 0, .int 0, .int 0, .int 0, .int 0, .ref (a 4), .ref (a 5), .ref (a 6), .ref (a 7), .ref (a 8), .ref (a 9), .ref (a 10), .ref (a 11), .ref (a 12), .ref (a 13), .ref (a 14), .ref (a 15)])), ((a 4), .inl (q 0, 4, .inl (fun _ => 0))), ((a 5), .inl (q 0, 4, .inl (fun _ => 0))), ((a 6), .inl (q 0, 160, .inl (fun _ => 0))), ((a 7), .inl (q 0, 40, .inl (fun _ => 0))), ((a 8), .inl (q 0, 40, .inl (fun _ => 0))), ((a 9), .inl (q 0, 40, .inl (fun _ => 0))), ((a 10), .inl (q 0, 40, .inl (fun _ => 0))), ((a 11), .inl (q 0, 40, .inl (fun _ => 0))), ((a 12), .inl (q 0, 40, .inl (fun _ => 0))), ((a 13), .inl (q 0, 40, .inl (fun _ => 0))), ((a 14), .inl (q 1, 40, .inr (.inl (fun _ => 0)))), ((a 15), .inl (q 0, 0, .inl (fun _ => 0))), ((a 16), .inr (0, [.int 0, .int 0, .int 0, .int 0, .int 0, .int 0, .ref (a 17), .ref (a 18), .ref (a 19), .ref (a 20), .ref (a 21), .ref (a 22), .ref (a 23), .ref (a 24), .ref (a 25), .ref (a 26), .ref (a 27), .ref (a 28)])), ((a 17), .inl (q 0, 4, .inl (fun _ => 0))), ((a 18), .inl (q 0, 4, .inl (fun _ => 0))), ((a 19), .inl (q 0, 160, .inl (fun _ => 0))), ((a 20), .inl (q 0, 40, .inl (fun _ => 0))), ((a 21), .inl (q 0, 40, .inl (fun _ => 0))), ((a 22), .inl (q 0, 40, .inl (fun _ => 0))), ((a 23), .inl (q 0, 40, .inl (fun _ => 0))), ((a 24), .inl (q 0, 40, .inl (fun _ => 0))), ((a 25), .inl (q 0, 40, .inl (fun _ => 0))), ((a 26), .inl (q 0, 40, .inl (fun _ => 0))), ((a 27), .inl (q 1, 40, .inr (.inl (fun _ => 0)))), ((a 28), .inl (q 0, 0, .inl (fun _ => 0))), ((a 29), .inr (1, [.ref (a 30), .ref (a 31), .ref (a 32), .int 0, .int 0, .int 0, .int 0, .int 0, .int 0, .int 0, .int 0, .int 0])), ((a 30), .inl (q 0, 40, .inl (fun _ => 0))), ((a 31), .inl (q 0, 40, .inl (fun _ => 0))), ((a 32), .inl (q 0, 40, .inl (fun _ => 0))), ((a 33), .inr (3, [.ref (a 34), .ref (a 35), .ref (a 36), .ref (a 37), .ref (a 38), .ref (a 39), .ref (a 40), .int 0, .int 0, .int 0])), ((a 34), .inl (q 0, 80, .inl (fun _ => 0))), ((a 35), .inl (q 0, 80, .inl (fun _ => 0))), ((a 36), .inl (q 0, 80, .inl (fun _ => 0))), ((a 37), .inl (q 0, 80, .inl (fun _ => 0))), ((a 38), .inl (q 0, 80, .inl (fun _ => 0))), ((a 39), .inl (q 0, 3, .inl (fun _ => 0))), ((a 40), .inl (q 0, 3, .inl (fun _ => 0))), ((a 41), .inr (2, [.ref (a 42), .int 0, .int 0])), ((a 42), .inl (q 4, 10, .inr (.inr (.inr (.inr (fun _ => none)))))), ((a 43), .inl (q 4, 2, .inr (.inr (.inr (.inr (fun _ => none))))))]) (As := [.int x]) (rest := []) hx hb hml hown ht (cf_whyNotRow) wd_X6_whyNotRow mw_617 hQ (hP.sub [0, 1, 2, 3, 4, 5, 6, 7, 8, 9, 10, 11, 12, 13, 14, 15, 16, 17, 18, 19, 20, 21, 22, 23, 24, 25, 26, 27, 28, 29, 30, 31, 32, 33, 34, 35, 36, 37, 38, 39, 40, 41, 42, 43] rfl) rfl rfl rfl hl.1 rfl (Nat.le_of_ble_eq_true rfl) dX6_cost_2 ⟨Nat.le_of_ble_eq_true rfl, Nat.le_of_ble_eq_true rfl, rfl, rfl⟩ ⟨Nat.le_of_ble_eq_true rfl, Nat.le_of_ble_eq_true rfl⟩) (fun r_1 er_1 => ?_)
  obtain rfl : r_1 = (-1) := er_1
  refine lv_istore_n (lv' := [(2, .int (-1)), (0, .ref (a 0)), (1, .int x)]) hx hb dX6_cost_5 rfl hl (by decide) rfl (fun ls hl => ?_)
  refine lv_iload_n hx hb dX6_cost_6 rfl (lv_at hl 0 rfl) ?_
  refine lv_if_ne (tgt := 34) hx hb dX6_cost_7 (by decide) (fun c_2 => ?_) (fun c9 => absurd c9 (by decide))
  refine lv_iload_n hx hb dX6_cost_34 rfl (lv_at hl 0 rfl) ?_
  exact rd_iret hx hb hr hk (rfl) dX6_cost_35

set_option maxHeartbeats 4000000 in
set_option maxRecDepth 100000 in
theorem cf_best {l : Launch} {D : va_G} {q : Nat → ClassId} {a : Nat → Nat} {x : Int32} {y : Int32} : Met l yX6_best (Cond.code yX6_best cX6_best 12 (some .int) :: w_all) ({ frames := 1, cells := 0, slots := 0, locals := 21 }) (rd_P D q [.ref (a 0), .int x, .int y] (fb_w a q)) (vp_Si (fun r => r = (-1))) 0 0 (fun _ => False) := by
  refine rd_start (by decide) (Nat.le_of_ble_eq_true rfl) ?_
  intro p e s m below meth c ls hx hb hr hml hown ht hk hP hQ hl
  have hK := hQ.1
  have hown : s.vm.findClass RX6 = some m.cls := hown
  have hl : lv_has ls 12 [(0, .ref (a 0)), (1, .int x), (2, .int y)] := hl
  have hP := hP.sub (ws' := [((a 0), .inr (5, [.ref (a 1), .ref (a 3), .ref (a 16), .ref (a 29), .ref (a 33), .ref (a 41), .ref (a 43)])), ((a 3), .inr (0, [.int 0, .int 0, .int 0, .int 0, .int 0, .int 0, .ref (a 4), .ref (a 5), .ref (a 6), .ref (a 7), .ref (a 8), .ref (a 9), .ref (a 10), .ref (a 11), .ref (a 12), .ref (a 13), .ref (a 14), .ref (a 15)]))]) [0, 3] rfl
  refine lv_aload_n hx hb dX6_best_0 rfl (lv_at hl 0 rfl) ?_
  refine fl_get (C := RX6) (T := TX6) (N := 7) (ci := 5) (v := .ref (a 3)) hx hb ht in_X6 hown hK hP 0 rfl rfl 1 (by decide) mw_356 rfl dX6_best_1 ?_
  refine lv_iload_n hx hb dX6_best_4 rfl (lv_at hl 1 rfl) ?_
  refine vp_callSi (rd_wV (wc := [((a 3), .inr (0, [.int 0, .int 0, .int 0, .int 0, .int 0, .int 0, .ref (a 4), .ref (a 5), .ref (a 6), .ref (a 7), .ref (a 8), .ref (a 9), .ref (a 10), .ref (a 11), .ref (a 12), .ref (a 13), .ref (a 14), .ref (a 15)]))]) (As := [.int x]) (rest := []) hx hb hml hown ht (ct_Board_hasRow) wd_X0_hasRow mw_621 hQ (hP.sub [1] rfl) rfl rfl rfl hl.1 rfl (Nat.le_of_ble_eq_true rfl) dX6_best_5 ⟨Nat.le_of_ble_eq_true rfl, Nat.le_of_ble_eq_true rfl, rfl, rfl⟩ ⟨Nat.le_of_ble_eq_true rfl, Nat.le_of_ble_eq_true rfl⟩) (fun r_1 er_1 => ?_)
  obtain rfl : r_1 = 0 := er_1
  refine lv_if_eq (tgt := 20) hx hb dX6_best_8 (by decide) (fun c_2 => ?_) (fun c9 => absurd (by decide) c9)
  refine lv_iconst (v := (-1)) hx hb dX6_best_20 (by decide) ?_
  exact rd_iret hx hb hr hk (rfl) dX6_best_21

set_option maxHeartbeats 4000000 in
set_option maxRecDepth 100000 in
theorem cf_place {l : Launch} {D : va_G} {q : Nat → ClassId} {a : Nat → Nat} {x : Int32} {y : Int32} : Met l yX6_place (Cond.code yX6_place cX6_place 10 (some .int) :: w_all) ({ frames := 1, cells := 0, slots := 0, locals := 21 }) (rd_P D q [.ref (a 0), .int x, .int y] (fb_w a q)) (vp_Si (fun r => r = (-1))) 0 0 (fun _ => False) := by
  refine rd_start (by decide) (Nat.le_of_ble_eq_true rfl) ?_
  intro p e s m below meth c ls hx hb hr hml hown ht hk hP hQ hl
  have hK := hQ.1
  have hown : s.vm.findClass RX6 = some m.cls := hown
  have hl : lv_has ls 10 [(0, .ref (a 0)), (1, .int x), (2, .int y)] := hl
  have hP := hP.sub (ws' := [((a 0), .inr (5, [.ref (a 1), .ref (a 3), .ref (a 16), .ref (a 29), .ref (a 33), .ref (a 41), .ref (a 43)])), ((a 3), .inr (0, [.int 0, .int 0, .int 0, .int 0, .int 0, .int 0, .ref (a 4), .ref (a 5), .ref (a 6), .ref (a 7), .ref (a 8), .ref (a 9), .ref (a 10), .ref (a 11), .ref (a 12), .ref (a 13), .ref (a 14), .ref (a 15)]))]) [0, 3] rfl
  refine lv_aload_n hx hb dX6_place_0 rfl (lv_at hl 0 rfl) ?_
  refine fl_get (C := RX6) (T := TX6) (N := 7) (ci := 5) (v := .ref (a 3)) hx hb ht in_X6 hown hK hP 0 rfl rfl 1 (by decide) mw_356 rfl dX6_place_1 ?_
  refine lv_iload_n hx hb dX6_place_4 rfl (lv_at hl 1 rfl) ?_
  refine vp_callSi (rd_wV (wc := [((a 3), .inr (0, [.int 0, .int 0, .int 0, .int 0, .int 0, .int 0, .ref (a 4), .ref (a 5), .ref (a 6), .ref (a 7), .ref (a 8), .ref (a 9), .ref (a 10), .ref (a 11), .ref (a 12), .ref (a 13), .ref (a 14), .ref (a 15)]))]) (As := [.int x]) (rest := []) hx hb hml hown ht (ct_Board_hasRow) wd_X0_hasRow mw_621 hQ (hP.sub [1] rfl) rfl rfl rfl hl.1 rfl (Nat.le_of_ble_eq_true rfl) dX6_place_5 ⟨Nat.le_of_ble_eq_true rfl, Nat.le_of_ble_eq_true rfl, rfl, rfl⟩ ⟨Nat.le_of_ble_eq_true rfl, Nat.le_of_ble_eq_true rfl⟩) (fun r_1 er_1 => ?_)
  obtain rfl : r_1 = 0 := er_1
  refine lv_if_eq (tgt := 20) hx hb dX6_place_8 (by decide) (fun c_2 => ?_) (fun c9 => absurd (by decide) c9)
  refine lv_iconst (v := (-1)) hx hb dX6_place_20 (by decide) ?_
  exact rd_iret hx hb hr hk (rfl) dX6_place_21

set_option maxHeartbeats 4000000 in
set_option maxRecDepth 100000 in
theorem cf_log {l : Launch} {D : va_G} {q : Nat → ClassId} {a : Nat → Nat} {x : Int32} {y : Int32} : Met l yX6_log (Cond.code yX6_log cX6_log 3 (some .int) :: w_all) ({ frames := 1, cells := 0, slots := 0, locals := 21 }) (rd_P D q [.ref (a 0), .int x, .int y] (fb_w a q)) (vp_Si (fun r => r = (-1))) 0 0 (fun _ => False) := by
  refine rd_start (by decide) (Nat.le_of_ble_eq_true rfl) ?_
  intro p e s m below meth c ls hx hb hr hml hown ht hk hP hQ hl
  have hK := hQ.1
  have hown : s.vm.findClass RX6 = some m.cls := hown
  have hl : lv_has ls 3 [(0, .ref (a 0)), (1, .int x), (2, .int y)] := hl
  have hP := hP.sub (ws' := [((a 0), .inr (5, [.ref (a 1), .ref (a 3), .ref (a 16), .ref (a 29), .ref (a 33), .ref (a 41), .ref (a 43)])), ((a 3), .inr (0, [.int 0, .int 0, .int 0, .int 0, .int 0, .int 0, .ref (a 4), .ref (a 5), .ref (a 6), .ref (a 7), .ref (a 8), .ref (a 9), .ref (a 10), .ref (a 11), .ref (a 12), .ref (a 13), .ref (a 14), .ref (a 15)]))]) [0, 3] rfl
  refine lv_aload_n hx hb dX6_log_0 rfl (lv_at hl 0 rfl) ?_
  refine fl_get (C := RX6) (T := TX6) (N := 7) (ci := 5) (v := .ref (a 3)) hx hb ht in_X6 hown hK hP 0 rfl rfl 1 (by decide) mw_356 rfl dX6_log_1 ?_
  refine lv_iload_n hx hb dX6_log_4 rfl (lv_at hl 1 rfl) ?_
  refine vp_callSi (rd_wV (wc := [((a 3), .inr (0, [.int 0, .int 0, .int 0, .int 0, .int 0, .int 0, .ref (a 4), .ref (a 5), .ref (a 6), .ref (a 7), .ref (a 8), .ref (a 9), .ref (a 10), .ref (a 11), .ref (a 12), .ref (a 13), .ref (a 14), .ref (a 15)]))]) (As := [.int x]) (rest := []) hx hb hml hown ht (ct_Board_hasDrum) wd_X0_hasDrum mw_904 hQ (hP.sub [1] rfl) rfl rfl rfl hl.1 rfl (Nat.le_of_ble_eq_true rfl) dX6_log_5 ⟨Nat.le_of_ble_eq_true rfl, Nat.le_of_ble_eq_true rfl, rfl, rfl⟩ ⟨Nat.le_of_ble_eq_true rfl, Nat.le_of_ble_eq_true rfl⟩) (fun r_1 er_1 => ?_)
  obtain rfl : r_1 = 0 := er_1
  refine lv_if_ne (tgt := 13) hx hb dX6_log_8 (by decide) (fun c9 => absurd c9 (by decide)) (fun c_2 => ?_)
  refine lv_iconst (v := (-1)) hx hb dX6_log_11 (by decide) ?_
  exact rd_iret hx hb hr hk (rfl) dX6_log_12

set_option maxHeartbeats 4000000 in
set_option maxRecDepth 100000 in
theorem cf_usual {l : Launch} {D : va_G} {q : Nat → ClassId} {a : Nat → Nat} {x : Int32} {y : Int32} : Met l yX6_usual (Cond.code yX6_usual cX6_usual 7 (some .int) :: w_all) ({ frames := 1, cells := 0, slots := 0, locals := 21 }) (rd_P D q [.ref (a 0), .int x, .int y] (fb_w a q)) (vp_Si (fun r => r = (-1))) 0 0 (fun _ => False) := by
  refine rd_start (by decide) (Nat.le_of_ble_eq_true rfl) ?_
  intro p e s m below meth c ls hx hb hr hml hown ht hk hP hQ hl
  have hK := hQ.1
  have hown : s.vm.findClass RX6 = some m.cls := hown
  have hl : lv_has ls 7 [(0, .ref (a 0)), (1, .int x), (2, .int y)] := hl
  have hP := hP.sub (ws' := [((a 0), .inr (5, [.ref (a 1), .ref (a 3), .ref (a 16), .ref (a 29), .ref (a 33), .ref (a 41), .ref (a 43)])), ((a 3), .inr (0, [.int 0, .int 0, .int 0, .int 0, .int 0, .int 0, .ref (a 4), .ref (a 5), .ref (a 6), .ref (a 7), .ref (a 8), .ref (a 9), .ref (a 10), .ref (a 11), .ref (a 12), .ref (a 13), .ref (a 14), .ref (a 15)]))]) [0, 3] rfl
  refine lv_aload_n hx hb dX6_usual_0 rfl (lv_at hl 0 rfl) ?_
  refine fl_get (C := RX6) (T := TX6) (N := 7) (ci := 5) (v := .ref (a 3)) hx hb ht in_X6 hown hK hP 0 rfl rfl 1 (by decide) mw_356 rfl dX6_usual_1 ?_
  refine lv_iload_n hx hb dX6_usual_4 rfl (lv_at hl 1 rfl) ?_
  refine vp_callSi (rd_wV (wc := [((a 3), .inr (0, [.int 0, .int 0, .int 0, .int 0, .int 0, .int 0, .ref (a 4), .ref (a 5), .ref (a 6), .ref (a 7), .ref (a 8), .ref (a 9), .ref (a 10), .ref (a 11), .ref (a 12), .ref (a 13), .ref (a 14), .ref (a 15)]))]) (As := [.int x]) (rest := []) hx hb hml hown ht (ct_Board_hasDrum) wd_X0_hasDrum mw_904 hQ (hP.sub [1] rfl) rfl rfl rfl hl.1 rfl (Nat.le_of_ble_eq_true rfl) dX6_usual_5 ⟨Nat.le_of_ble_eq_true rfl, Nat.le_of_ble_eq_true rfl, rfl, rfl⟩ ⟨Nat.le_of_ble_eq_true rfl, Nat.le_of_ble_eq_true rfl⟩) (fun r_1 er_1 => ?_)
  obtain rfl : r_1 = 0 := er_1
  refine lv_if_eq (tgt := 20) hx hb dX6_usual_8 (by decide) (fun c_2 => ?_) (fun c9 => absurd (by decide) c9)
  refine lv_iconst (v := (-1)) hx hb dX6_usual_20 (by decide) ?_
  exact rd_iret hx hb hr hk (rfl) dX6_usual_21

set_option maxHeartbeats 4000000 in
set_option maxRecDepth 100000 in
theorem cf_better {l : Launch} {D : va_G} {q : Nat → ClassId} {a : Nat → Nat} {x : Int32} {y : Int32} : Met l yX6_better (Cond.code yX6_better cX6_better 10 (some .int) :: w_all) ({ frames := 1, cells := 0, slots := 0, locals := 21 }) (rd_P D q [.ref (a 0), .int x, .int y] (fb_w a q)) (vp_Si (fun r => r = (-1))) 0 0 (fun _ => False) := by
  refine rd_start (by decide) (Nat.le_of_ble_eq_true rfl) ?_
  intro p e s m below meth c ls hx hb hr hml hown ht hk hP hQ hl
  have hK := hQ.1
  have hown : s.vm.findClass RX6 = some m.cls := hown
  have hl : lv_has ls 10 [(0, .ref (a 0)), (1, .int x), (2, .int y)] := hl
  have hP := hP.sub (ws' := [((a 0), .inr (5, [.ref (a 1), .ref (a 3), .ref (a 16), .ref (a 29), .ref (a 33), .ref (a 41), .ref (a 43)])), ((a 3), .inr (0, [.int 0, .int 0, .int 0, .int 0, .int 0, .int 0, .ref (a 4), .ref (a 5), .ref (a 6), .ref (a 7), .ref (a 8), .ref (a 9), .ref (a 10), .ref (a 11), .ref (a 12), .ref (a 13), .ref (a 14), .ref (a 15)]))]) [0, 3] rfl
  refine lv_aload_n hx hb dX6_better_0 rfl (lv_at hl 0 rfl) ?_
  refine fl_get (C := RX6) (T := TX6) (N := 7) (ci := 5) (v := .ref (a 3)) hx hb ht in_X6 hown hK hP 0 rfl rfl 1 (by decide) mw_356 rfl dX6_better_1 ?_
  refine lv_iload_n hx hb dX6_better_4 rfl (lv_at hl 1 rfl) ?_
  refine vp_callSi (rd_wV (wc := [((a 3), .inr (0, [.int 0, .int 0, .int 0, .int 0, .int 0, .int 0, .ref (a 4), .ref (a 5), .ref (a 6), .ref (a 7), .ref (a 8), .ref (a 9), .ref (a 10), .ref (a 11), .ref (a 12), .ref (a 13), .ref (a 14), .ref (a 15)]))]) (As := [.int x]) (rest := []) hx hb hml hown ht (ct_Board_hasDrum) wd_X0_hasDrum mw_904 hQ (hP.sub [1] rfl) rfl rfl rfl hl.1 rfl (Nat.le_of_ble_eq_true rfl) dX6_better_5 ⟨Nat.le_of_ble_eq_true rfl, Nat.le_of_ble_eq_true rfl, rfl, rfl⟩ ⟨Nat.le_of_ble_eq_true rfl, Nat.le_of_ble_eq_true rfl⟩) (fun r_1 er_1 => ?_)
  obtain rfl : r_1 = 0 := er_1
  refine lv_if_eq (tgt := 20) hx hb dX6_better_8 (by decide) (fun c_2 => ?_) (fun c9 => absurd (by decide) c9)
  refine lv_iconst (v := (-1)) hx hb dX6_better_20 (by decide) ?_
  exact rd_iret hx hb hr hk (rfl) dX6_better_21

set_option maxHeartbeats 4000000 in
set_option maxRecDepth 100000 in
theorem cf_farthest {l : Launch} {D : va_G} {q : Nat → ClassId} {a : Nat → Nat} {x : Int32} {y : Int32} : Met l yX6_farthest (Cond.code yX6_farthest cX6_farthest 8 (some .int) :: w_all) ({ frames := 2, cells := 0, slots := 0, locals := 41 }) (rd_P D q [.ref (a 0), .int x, .int y] (fb_w a q)) (vp_Si (fun r => r = (-1))) 0 0 (fun _ => False) := by
  refine rd_start (by decide) (Nat.le_of_ble_eq_true rfl) ?_
  intro p e s m below meth c ls hx hb hr hml hown ht hk hP hQ hl
  have hK := hQ.1
  have hown : s.vm.findClass RX6 = some m.cls := hown
  have hl : lv_has ls 8 [(0, .ref (a 0)), (1, .int x), (2, .int y)] := hl
  have hP := hP.sub (ws' := [((a 0), .inr (5, [.ref (a 1), .ref (a 3), .ref (a 16), .ref (a 29), .ref (a 33), .ref (a 41), .ref (a 43)])), ((a 3), .inr (0, [.int 0, .int 0, .int 0, .int 0, .int 0, .int 0, .ref (a 4), .ref (a 5), .ref (a 6), .ref (a 7), .ref (a 8), .ref (a 9), .ref (a 10), .ref (a 11), .ref (a 12), .ref (a 13), .ref (a 14), .ref (a 15)]))]) [0, 3] rfl
  refine lv_aload_n hx hb dX6_farthest_0 rfl (lv_at hl 0 rfl) ?_
  refine fl_get (C := RX6) (T := TX6) (N := 7) (ci := 5) (v := .ref (a 3)) hx hb ht in_X6 hown hK hP 0 rfl rfl 1 (by decide) mw_356 rfl dX6_farthest_1 ?_
  refine lv_iload_n hx hb dX6_farthest_4 rfl (lv_at hl 1 rfl) ?_
  refine vp_callSi (rd_wV (wc := [((a 3), .inr (0, [.int 0, .int 0, .int 0, .int 0, .int 0, .int 0, .ref (a 4), .ref (a 5), .ref (a 6), .ref (a 7), .ref (a 8), .ref (a 9), .ref (a 10), .ref (a 11), .ref (a 12), .ref (a 13), .ref (a 14), .ref (a 15)]))]) (As := [.int x]) (rest := []) hx hb hml hown ht (ct_Board_hasCell) wd_X0_hasCell mw_730 hQ (hP.sub [1] rfl) rfl rfl rfl hl.1 rfl (Nat.le_of_ble_eq_true rfl) dX6_farthest_5 ⟨Nat.le_of_ble_eq_true rfl, Nat.le_of_ble_eq_true rfl, rfl, rfl⟩ ⟨Nat.le_of_ble_eq_true rfl, Nat.le_of_ble_eq_true rfl⟩) (fun r_1 er_1 => ?_)
  obtain rfl : r_1 = 0 := er_1
  refine lv_if_eq (tgt := 20) hx hb dX6_farthest_8 (by decide) (fun c_2 => ?_) (fun c9 => absurd (by decide) c9)
  refine lv_iconst (v := (-1)) hx hb dX6_farthest_20 (by decide) ?_
  exact rd_iret hx hb hr hk (rfl) dX6_farthest_21

set_option maxHeartbeats 4000000 in
set_option maxRecDepth 100000 in
theorem cf_lacks {l : Launch} {D : va_G} {q : Nat → ClassId} {a : Nat → Nat} {x : Int32} {y : Int32} : Met l yX6_lacks (Cond.code yX6_lacks cX6_lacks 3 (some .int) :: w_all) ({ frames := 2, cells := 0, slots := 0, locals := 41 }) (rd_P D q [.ref (a 0), .int x, .int y] (fb_w a q)) (vp_Si (fun r => r = (-1))) 0 0 (fun _ => False) := by
  refine rd_start (by decide) (Nat.le_of_ble_eq_true rfl) ?_
  intro p e s m below meth c ls hx hb hr hml hown ht hk hP hQ hl
  have hK := hQ.1
  have hown : s.vm.findClass RX6 = some m.cls := hown
  have hl : lv_has ls 3 [(0, .ref (a 0)), (1, .int x), (2, .int y)] := hl
  have hP := hP.sub (ws' := [((a 0), .inr (5, [.ref (a 1), .ref (a 3), .ref (a 16), .ref (a 29), .ref (a 33), .ref (a 41), .ref (a 43)])), ((a 3), .inr (0, [.int 0, .int 0, .int 0, .int 0, .int 0, .int 0, .ref (a 4), .ref (a 5), .ref (a 6), .ref (a 7), .ref (a 8), .ref (a 9), .ref (a 10), .ref (a 11), .ref (a 12), .ref (a 13), .ref (a 14), .ref (a 15)]))]) [0, 3] rfl
  refine lv_aload_n hx hb dX6_lacks_0 rfl (lv_at hl 0 rfl) ?_
  refine fl_get (C := RX6) (T := TX6) (N := 7) (ci := 5) (v := .ref (a 3)) hx hb ht in_X6 hown hK hP 0 rfl rfl 1 (by decide) mw_356 rfl dX6_lacks_1 ?_
  refine lv_iload_n hx hb dX6_lacks_4 rfl (lv_at hl 1 rfl) ?_
  refine vp_callSi (rd_wV (wc := [((a 3), .inr (0, [.int 0, .int 0, .int 0, .int 0, .int 0, .int 0, .ref (a 4), .ref (a 5), .ref (a 6), .ref (a 7), .ref (a 8), .ref (a 9), .ref (a 10), .ref (a 11), .ref (a 12), .ref (a 13), .ref (a 14), .ref (a 15)]))]) (As := [.int x]) (rest := []) hx hb hml hown ht (ct_Board_hasCell) wd_X0_hasCell mw_730 hQ (hP.sub [1] rfl) rfl rfl rfl hl.1 rfl (Nat.le_of_ble_eq_true rfl) dX6_lacks_5 ⟨Nat.le_of_ble_eq_true rfl, Nat.le_of_ble_eq_true rfl, rfl, rfl⟩ ⟨Nat.le_of_ble_eq_true rfl, Nat.le_of_ble_eq_true rfl⟩) (fun r_1 er_1 => ?_)
  obtain rfl : r_1 = 0 := er_1
  refine lv_if_eq (tgt := 20) hx hb dX6_lacks_8 (by decide) (fun c_2 => ?_) (fun c9 => absurd (by decide) c9)
  refine lv_iconst (v := (-1)) hx hb dX6_lacks_20 (by decide) ?_
  exact rd_iret hx hb hr hk (rfl) dX6_lacks_21

set_option maxHeartbeats 4000000 in
set_option maxRecDepth 100000 in
theorem cf_unlike {l : Launch} {D : va_G} {q : Nat → ClassId} {a : Nat → Nat} {x : Int32} {y : Int32} : Met l yX6_unlike (Cond.code yX6_unlike cX6_unlike 7 (some .int) :: w_all) ({ frames := 1, cells := 0, slots := 0, locals := 21 }) (rd_P D q [.ref (a 0), .int x, .int y] (fb_w a q)) (vp_Si (fun r => r = (-1))) 0 0 (fun _ => False) := by
  refine rd_start (by decide) (Nat.le_of_ble_eq_true rfl) ?_
  intro p e s m below meth c ls hx hb hr hml hown ht hk hP hQ hl
  have hK := hQ.1
  have hown : s.vm.findClass RX6 = some m.cls := hown
  have hl : lv_has ls 7 [(0, .ref (a 0)), (1, .int x), (2, .int y)] := hl
  have hP := hP.sub (ws' := [((a 0), .inr (5, [.ref (a 1), .ref (a 3), .ref (a 16), .ref (a 29), .ref (a 33), .ref (a 41), .ref (a 43)])), ((a 3), .inr (0, [.int 0, .int 0, .int 0, .int 0, .int 0, .int 0, .ref (a 4), .ref (a 5), .ref (a 6), .ref (a 7), .ref (a 8), .ref (a 9), .ref (a 10), .ref (a 11), .ref (a 12), .ref (a 13), .ref (a 14), .ref (a 15)]))]) [0, 3] rfl
  refine lv_aload_n hx hb dX6_unlike_0 rfl (lv_at hl 0 rfl) ?_
  refine fl_get (C := RX6) (T := TX6) (N := 7) (ci := 5) (v := .ref (a 3)) hx hb ht in_X6 hown hK hP 0 rfl rfl 1 (by decide) mw_356 rfl dX6_unlike_1 ?_
  refine lv_iload_n hx hb dX6_unlike_4 rfl (lv_at hl 1 rfl) ?_
  refine vp_callSi (rd_wV (wc := [((a 3), .inr (0, [.int 0, .int 0, .int 0, .int 0, .int 0, .int 0, .ref (a 4), .ref (a 5), .ref (a 6), .ref (a 7), .ref (a 8), .ref (a 9), .ref (a 10), .ref (a 11), .ref (a 12), .ref (a 13), .ref (a 14), .ref (a 15)]))]) (As := [.int x]) (rest := []) hx hb hml hown ht (ct_Board_hasRow) wd_X0_hasRow mw_621 hQ (hP.sub [1] rfl) rfl rfl rfl hl.1 rfl (Nat.le_of_ble_eq_true rfl) dX6_unlike_5 ⟨Nat.le_of_ble_eq_true rfl, Nat.le_of_ble_eq_true rfl, rfl, rfl⟩ ⟨Nat.le_of_ble_eq_true rfl, Nat.le_of_ble_eq_true rfl⟩) (fun r_1 er_1 => ?_)
  obtain rfl : r_1 = 0 := er_1
  refine lv_if_eq (tgt := 27) hx hb dX6_unlike_8 (by decide) (fun c_2 => ?_) (fun c9 => absurd (by decide) c9)
  refine lv_iconst (v := (-1)) hx hb dX6_unlike_27 (by decide) ?_
  exact rd_iret hx hb hr hk (rfl) dX6_unlike_28

set_option maxHeartbeats 4000000 in
set_option maxRecDepth 100000 in
theorem cf_worn {l : Launch} {D : va_G} {q : Nat → ClassId} {a : Nat → Nat} {x : Int32} : Met l yX6_worn (Cond.code yX6_worn cX6_worn 2 (some .long) :: w_all) ({ frames := 2, cells := 0, slots := 0, locals := 41 }) (rd_P D q [.ref (a 0), .int x] (fb_w a q)) (vp_Sl (fun r => r = (-1))) 0 0 (fun _ => False) := by
  refine rd_start (by decide) (Nat.le_of_ble_eq_true rfl) ?_
  intro p e s m below meth c ls hx hb hr hml hown ht hk hP hQ hl
  have hK := hQ.1
  have hown : s.vm.findClass RX6 = some m.cls := hown
  have hl : lv_has ls 2 [(0, .ref (a 0)), (1, .int x)] := hl
  have hP := hP.sub (ws' := [((a 0), .inr (5, [.ref (a 1), .ref (a 3), .ref (a 16), .ref (a 29), .ref (a 33), .ref (a 41), .ref (a 43)])), ((a 3), .inr (0, [.int 0, .int 0, .int 0, .int 0, .int 0, .int 0, .ref (a 4), .ref (a 5), .ref (a 6), .ref (a 7), .ref (a 8), .ref (a 9), .ref (a 10), .ref (a 11), .ref (a 12), .ref (a 13), .ref (a 14), .ref (a 15)]))]) [0, 3] rfl
  refine lv_aload_n hx hb dX6_worn_0 rfl (lv_at hl 0 rfl) ?_
  refine fl_get (C := RX6) (T := TX6) (N := 7) (ci := 5) (v := .ref (a 3)) hx hb ht in_X6 hown hK hP 0 rfl rfl 1 (by decide) mw_356 rfl dX6_worn_1 ?_
  refine lv_iload_n hx hb dX6_worn_4 rfl (lv_at hl 1 rfl) ?_
  refine vp_callSi (rd_wV (wc := [((a 3), .inr (0, [.int 0, .int 0, .int 0, .int 0, .int 0, .int 0, .ref (a 4), .ref (a 5), .ref (a 6), .ref (a 7), .ref (a 8), .ref (a 9), .ref (a 10), .ref (a 11), .ref (a 12), .ref (a 13), .ref (a 14), .ref (a 15)]))]) (As := [.int x]) (rest := []) hx hb hml hown ht (ct_Board_hasCell) wd_X0_hasCell mw_730 hQ (hP.sub [1] rfl) rfl rfl rfl hl.1 rfl (Nat.le_of_ble_eq_true rfl) dX6_worn_5 ⟨Nat.le_of_ble_eq_true rfl, Nat.le_of_ble_eq_true rfl, rfl, rfl⟩ ⟨Nat.le_of_ble_eq_true rfl, Nat.le_of_ble_eq_true rfl⟩) (fun r_1 er_1 => ?_)
  obtain rfl : r_1 = 0 := er_1
  refine lv_if_eq (tgt := 23) hx hb dX6_worn_8 (by decide) (fun c_2 => ?_) (fun c9 => absurd (by decide) c9)
  refine lv_ldc2 (v := (-1)) hx hb hown (ht _ mw_899) dX6_worn_23 ?_
  exact rd_lret hx hb hr hk (rfl) dX6_worn_26

set_option maxHeartbeats 4000000 in
set_option maxRecDepth 100000 in
theorem cf_which {l : Launch} {D : va_G} {q : Nat → ClassId} {a : Nat → Nat} {x : Int32} : Met l yX6_which (Cond.code yX6_which cX6_which 5 (some .long) :: w_all) ({ frames := 1, cells := 0, slots := 0, locals := 20 }) (rd_P D q [.ref (a 0), .int x] (fb_w a q)) (vp_Sl (fun r => r = (-1))) 0 0 (fun _ => False) := by
  refine rd_start (by decide) (Nat.le_of_ble_eq_true rfl) ?_
  intro p e s m below meth c ls hx hb hr hml hown ht hk hP hQ hl
  have hK := hQ.1
  have hown : s.vm.findClass RX6 = some m.cls := hown
  have hl : lv_has ls 5 [(0, .ref (a 0)), (1, .int x)] := hl
  have hP := hP.sub (ws' := [((a 0), .inr (5, [.ref (a 1), .ref (a 3), .ref (a 16), .ref (a 29), .ref (a 33), .ref (a 41), .ref (a 43)])), ((a 3), .inr (0, [.int 0, .int 0, .int 0, .int 0, .int 0, .int 0, .ref (a 4), .ref (a 5), .ref (a 6), .ref (a 7), .ref (a 8), .ref (a 9), .ref (a 10), .ref (a 11), .ref (a 12), .ref (a 13), .ref (a 14), .ref (a 15)]))]) [0, 3] rfl
  refine lv_aload_n hx hb dX6_which_0 rfl (lv_at hl 0 rfl) ?_
  refine fl_get (C := RX6) (T := TX6) (N := 7) (ci := 5) (v := .ref (a 3)) hx hb ht in_X6 hown hK hP 0 rfl rfl 1 (by decide) mw_356 rfl dX6_which_1 ?_
  refine vp_callSi (rd_wV (wc := [((a 3), .inr (0, [.int 0, .int 0, .int 0, .int 0, .int 0, .int 0, .ref (a 4), .ref (a 5), .ref (a 6), .ref (a 7), .ref (a 8), .ref (a 9), .ref (a 10), .ref (a 11), .ref (a 12), .ref (a 13), .ref (a 14), .ref (a 15)]))]) (As := []) (rest := []) hx hb hml hown ht (ct_Board_isThere) wd_X0_isThere mw_677 hQ (hP.sub [1] rfl) rfl rfl rfl hl.1 rfl (Nat.le_of_ble_eq_true rfl) dX6_which_4 ⟨Nat.le_of_ble_eq_true rfl, Nat.le_of_ble_eq_true rfl, rfl, rfl⟩ ⟨Nat.le_of_ble_eq_true rfl, Nat.le_of_ble_eq_true rfl⟩) (fun r_1 er_1 => ?_)
  obtain rfl : r_1 = 0 := er_1
  refine lv_if_eq (tgt := 19) hx hb dX6_which_7 (by decide) (fun c_2 => ?_) (fun c9 => absurd (by decide) c9)
  refine lv_ldc2 (v := (-1)) hx hb hown (ht _ mw_899) dX6_which_19 ?_
  exact rd_lret hx hb hr hk (rfl) dX6_which_22

set_option maxHeartbeats 4000000 in
set_option maxRecDepth 100000 in
theorem cf_often {l : Launch} {D : va_G} {q : Nat → ClassId} {a : Nat → Nat} {x : Int32} {y : Int32} {z : Int32} : Met l yX6_often (Cond.code yX6_often cX6_often 4 (some .int) :: w_all) ({ frames := 1, cells := 0, slots := 0, locals := 21 }) (rd_P D q [.ref (a 0), .int x, .int y, .int z] (fb_w a q)) (vp_Si (fun r => r = (-1))) 0 0 (fun _ => False) := by
  refine rd_start (by decide) (Nat.le_of_ble_eq_true rfl) ?_
  intro p e s m below meth c ls hx hb hr hml hown ht hk hP hQ hl
  have hK := hQ.1
  have hown : s.vm.findClass RX6 = some m.cls := hown
  have hl : lv_has ls 4 [(0, .ref (a 0)), (1, .int x), (2, .int y), (3, .int z)] := hl
  have hP := hP.sub (ws' := [((a 0), .inr (5, [.ref (a 1), .ref (a 3), .ref (a 16), .ref (a 29), .ref (a 33), .ref (a 41), .ref (a 43)])), ((a 3), .inr (0, [.int 0, .int 0, .int 0, .int 0, .int 0, .int 0, .ref (a 4), .ref (a 5), .ref (a 6), .ref (a 7), .ref (a 8), .ref (a 9), .ref (a 10), .ref (a 11), .ref (a 12), .ref (a 13), .ref (a 14), .ref (a 15)]))]) [0, 3] rfl
  refine lv_aload_n hx hb dX6_often_0 rfl (lv_at hl 0 rfl) ?_
  refine fl_get (C := RX6) (T := TX6) (N := 7) (ci := 5) (v := .ref (a 3)) hx hb ht in_X6 hown hK hP 0 rfl rfl 1 (by decide) mw_356 rfl dX6_often_1 ?_
  refine lv_iload_n hx hb dX6_often_4 rfl (lv_at hl 1 rfl) ?_
  refine vp_callSi (rd_wV (wc := [((a 3), .inr (0, [.int 0, .int 0, .int 0, .int 0, .int 0, .int 0, .ref (a 4), .ref (a 5), .ref (a 6), .ref (a 7), .ref (a 8), .ref (a 9), .ref (a 10), .ref (a 11), .ref (a 12), .ref (a 13), .ref (a 14), .ref (a 15)]))]) (As := [.int x]) (rest := []) hx hb hml hown ht (ct_Board_hasDrum) wd_X0_hasDrum mw_904 hQ (hP.sub [1] rfl) rfl rfl rfl hl.1 rfl (Nat.le_of_ble_eq_true rfl) dX6_often_5 ⟨Nat.le_of_ble_eq_true rfl, Nat.le_of_ble_eq_true rfl, rfl, rfl⟩ ⟨Nat.le_of_ble_eq_true rfl, Nat.le_of_ble_eq_true rfl⟩) (fun r_1 er_1 => ?_)
  obtain rfl : r_1 = 0 := er_1
  refine lv_if_eq (tgt := 27) hx hb dX6_often_8 (by decide) (fun c_2 => ?_) (fun c9 => absurd (by decide) c9)
  refine lv_iconst (v := (-1)) hx hb dX6_often_27 (by decide) ?_
  exact rd_iret hx hb hr hk (rfl) dX6_often_28

set_option maxHeartbeats 4000000 in
set_option maxRecDepth 100000 in
theorem cf_undo {l : Launch} {D : va_G} {q : Nat → ClassId} {a : Nat → Nat} : Met l yX6_undo (Cond.code yX6_undo cX6_undo 1 (some .int) :: w_all) ({ frames := 1, cells := 0, slots := 0, locals := 22 }) (rd_P D q [.ref (a 0)] (fb_w a q)) (vp_Si (fun r => r = (-1))) 0 0 (fun _ => False) := by
  refine rd_start (by decide) (Nat.le_of_ble_eq_true rfl) ?_
  intro p e s m below meth c ls hx hb hr hml hown ht hk hP hQ hl
  have hK := hQ.1
  have hown : s.vm.findClass RX6 = some m.cls := hown
  have hl : lv_has ls 1 [(0, .ref (a 0))] := hl
  have hP := hP.sub (ws' := [((a 0), .inr (5, [.ref (a 1), .ref (a 3), .ref (a 16), .ref (a 29), .ref (a 33), .ref (a 41), .ref (a 43)])), ((a 41), .inr (2, [.ref (a 42), .int 0, .int 0]))]) [0, 41] rfl
  refine lv_aload_n hx hb dX6_undo_0 rfl (lv_at hl 0 rfl) ?_
  refine fl_get (C := RX6) (T := TX6) (N := 7) (ci := 5) (v := .ref (a 41)) hx hb ht in_X6 hown hK hP 0 rfl rfl 5 (by decide) mw_360 rfl dX6_undo_1 ?_
  refine lv_aload_n hx hb dX6_undo_4 rfl (lv_at hl 0 rfl) ?_
  refine fl_get (C := RX6) (T := TX6) (N := 7) (ci := 5) (v := .ref (a 3)) hx hb ht in_X6 hown hK hP 0 rfl rfl 1 (by decide) mw_356 rfl dX6_undo_5 ?_
  refine vp_callSi (rd_wV (wc := [((a 41), .inr (2, [.ref (a 42), .int 0, .int 0]))]) (As := [.ref (a 3)]) (rest := []) hx hb hml hown ht (ct_Past_pop) wd_X3_pop mw_873 hQ (hP.sub [1] rfl) rfl rfl rfl hl.1 rfl (Nat.le_of_ble_eq_true rfl) dX6_undo_8 ⟨Nat.le_of_ble_eq_true rfl, Nat.le_of_ble_eq_true rfl, rfl, rfl⟩ ⟨Nat.le_of_ble_eq_true rfl, Nat.le_of_ble_eq_true rfl⟩) (fun r_1 er_1 => ?_)
  obtain rfl : r_1 = 0 := er_1
  refine lv_if_eq (tgt := 24) hx hb dX6_undo_11 (by decide) (fun c_2 => ?_) (fun c9 => absurd (by decide) c9)
  refine lv_iconst (v := (-1)) hx hb dX6_undo_24 (by decide) ?_
  exact rd_iret hx hb hr hk (rfl) dX6_undo_25

set_option maxHeartbeats 4000000 in
set_option maxRecDepth 100000 in
theorem cf_digest {l : Launch} {D : va_G} {q : Nat → ClassId} {a : Nat → Nat} : Met l yX6_digest (Cond.code yX6_digest cX6_digest 4 (some .long) :: w_all) ({ frames := 1, cells := 0, slots := 0, locals := 20 }) (rd_P D q [.ref (a 0)] (fb_w a q)) (vp_Sl (fun r => r = 17)) 0 0 (fun _ => False) := by
  refine rd_start (by decide) (Nat.le_of_ble_eq_true rfl) ?_
  intro p e s m below meth c ls hx hb hr hml hown ht hk hP hQ hl
  have hK := hQ.1
  have hown : s.vm.findClass RX6 = some m.cls := hown
  have hl : lv_has ls 4 [(0, .ref (a 0))] := hl
  have hP := hP.sub (ws' := [((a 0), .inr (5, [.ref (a 1), .ref (a 3), .ref (a 16), .ref (a 29), .ref (a 33), .ref (a 41), .ref (a 43)])), ((a 3), .inr (0, [.int 0, .int 0, .int 0, .int 0, .int 0, .int 0, .ref (a 4), .ref (a 5), .ref (a 6), .ref (a 7), .ref (a 8), .ref (a 9), .ref (a 10), .ref (a 11), .ref (a 12), .ref (a 13), .ref (a 14), .ref (a 15)]))]) [0, 3] rfl
  refine lv_ldc2 (v := 17) hx hb hown (ht _ mw_1113) dX6_digest_0 ?_
  refine lv_lstore_n (lv' := [(1, .long 17), (0, .ref (a 0))]) hx hb dX6_digest_3 rfl hl (by decide) rfl (fun ls hl => ?_)
  refine lv_iconst (v := 0) hx hb dX6_digest_4 (by decide) ?_
  refine lv_istore_n (lv' := [(3, .int 0), (1, .long 17), (0, .ref (a 0))]) hx hb dX6_digest_5 rfl hl (by decide) rfl (fun ls hl => ?_)
  refine lv_iload_n hx hb dX6_digest_6 rfl (lv_at hl 0 rfl) ?_
  refine lv_aload_n hx hb dX6_digest_7 rfl (lv_at hl 2 rfl) ?_
  refine fl_get (C := RX6) (T := TX6) (N := 7) (ci := 5) (v := .ref (a 3)) hx hb ht in_X6 hown hK hP 0 rfl rfl 1 (by decide) mw_356 rfl dX6_digest_8 ?_
  refine vp_callSi (rd_wV (wc := [((a 3), .inr (0, [.int 0, .int 0, .int 0, .int 0, .int 0, .int 0, .ref (a 4), .ref (a 5), .ref (a 6), .ref (a 7), .ref (a 8), .ref (a 9), .ref (a 10), .ref (a 11), .ref (a 12), .ref (a 13), .ref (a 14), .ref (a 15)]))]) (As := []) (rest := [.int 0]) hx hb hml hown ht (ct_Board_cells) wd_X0_cells mw_885 hQ (hP.sub [1] rfl) rfl rfl rfl hl.1 rfl (Nat.le_of_ble_eq_true rfl) dX6_digest_11 ⟨Nat.le_of_ble_eq_true rfl, Nat.le_of_ble_eq_true rfl, rfl, rfl⟩ ⟨Nat.le_of_ble_eq_true rfl, Nat.le_of_ble_eq_true rfl⟩) (fun r_1 er_1 => ?_)
  obtain rfl : r_1 = 0 := er_1
  refine lv_icmp_ge (tgt := 124) hx hb dX6_digest_14 (by decide) (fun c_2 => ?_) (fun c9 => absurd (by decide) c9)
  refine lv_lload_n hx hb dX6_digest_124 rfl (lv_at hl 1 rfl) ?_
  exact rd_lret hx hb hr hk (rfl) dX6_digest_125

set_option maxHeartbeats 4000000 in
set_option maxRecDepth 100000 in
theorem cf_end {l : Launch} {D : va_G} {q : Nat → ClassId} {sz : Nat} {a : Nat → Nat} {x : Int32} : Met l yX6_end (Cond.code yX6_end cX6_end 2 (some .int) :: w_all) ({ frames := 0, cells := 0, slots := 0, locals := 0 }) (mt_P D q [.ref (a 0), .int x] (fb_w a q) sz) (va_Qi (fun r (u : Unit) => (x = 0 → r = 0) ∧ (¬ (x = 0) → r = (-1))) (mt_B D (fb_w a q) sz (fun _ => [])) (va_A (fb_w a q) sz)) 0 0 (va_A (fb_w a q) sz) := by
  refine mt_start (by decide) (Nat.le_of_ble_eq_true rfl) ?_
  intro p e s m below meth c ls hx hb hr hml hown ht hk hin hP hQ hD hA hS hl
  have hK := hQ.1
  have hown : s.vm.findClass RX6 = some m.cls := hown
  have hl : lv_has ls 2 [(0, .ref (a 0)), (1, .int x)] := hl
  have hP := hP.sub (ws' := [((a 0), .inr (5, [.ref (a 1), .ref (a 3), .ref (a 16), .ref (a 29), .ref (a 33), .ref (a 41), .ref (a 43)])), ((a 1), .inr (4, [.ref (a 2), .int 0, .int 0, .int 0, .int 0, .int 0, .int 0]))]) [0, 1] rfl
  have hD := hD.sub (ws' := [((a 0), .inr (5, [.ref (a 1), .ref (a 3), .ref (a 16), .ref (a 29), .ref (a 33), .ref (a 41), .ref (a 43)])), ((a 1), .inr (4, [.ref (a 2), .int 0, .int 0, .int 0, .int 0, .int 0, .int 0]))]) [0, 1] (by decide) rfl
  refine lv_iload_n hx hb dX6_end_0 rfl (lv_at hl 1 rfl) ?_
  refine lv_if_lt (tgt := 15) hx hb dX6_end_1 (by decide) (fun c_1 => ?_) (fun c_1 => ?_)
  · refine lv_iconst (v := (-1)) hx hb dX6_end_15 (by decide) ?_
    have hP := hP.sub (ws' := []) [] rfl
    have hD := hD.sub (ws' := []) [] (by decide) rfl
    exact mt_iret () hx hb hr hk (by refine ⟨fun h9 => ?_, fun h9 => ?_⟩ <;> first | rfl | exact h9 | (exfalso; have g0 := c_1; have g1 := h9; (try simp only [lg_cmp_ge, lg_cmp_le, lg_cmp_gt, lg_cmp_lt, lg_cmp_eq] at g0 g1); (try simp only [Int32.lt_iff_toInt_lt, Int32.le_iff_toInt_le, ← Int32.toInt_inj, Int32.reduceToInt, Int64.lt_iff_toInt_lt, Int64.le_iff_toInt_le, ← Int64.toInt_inj, Int64.reduceToInt, Int32.toInt_toInt64] at g0 g1); omega)) hP hD hS dX6_end_16
  · refine lv_iload_n hx hb dX6_end_4 rfl (lv_at hl 1 rfl) ?_
    refine lv_aload_n hx hb dX6_end_5 rfl (lv_at hl 0 rfl) ?_
    refine fl_get (C := RX6) (T := TX6) (N := 7) (ci := 5) (v := .ref (a 1)) hx hb ht in_X6 hown hK hP 0 rfl rfl 0 (by decide) mw_355 rfl dX6_end_6 ?_
    refine fl_get (C := RX5) (T := TX5) (N := 7) (ci := 4) (v := .int 0) hx hb ht in_X5 hown hK hP 1 rfl rfl 1 (by decide) mw_129 rfl dX6_end_9 ?_
    refine lv_icmp_le (tgt := 17) hx hb dX6_end_12 (by decide) (fun c_2 => ?_) (fun c_2 => ?_)
    · refine lv_aload_n hx hb dX6_end_17 rfl (lv_at hl 0 rfl) ?_
      refine fl_get (C := RX6) (T := TX6) (N := 7) (ci := 5) (v := .ref (a 1)) hx hb ht in_X6 hown hK hP 0 rfl rfl 0 (by decide) mw_355 rfl dX6_end_18 ?_
      refine lv_iload_n hx hb dX6_end_21 rfl (lv_at hl 1 rfl) ?_
      refine fl_put (C := RX5) (T := TX5) (N := 7) (ci := 4) (v := .int x) (ws2 := [((a 0), .inr (5, [.ref (a 1), .ref (a 3), .ref (a 16), .ref (a 29), .ref (a 33), .ref (a 41), .ref (a 43)])), ((a 1), .inr (4, [.ref (a 2), .int x, .int 0, .int 0, .int 0, .int 0, .int 0]))]) hx hb ht in_X5 tyX5_ok nmX5 hown hK hP hD hS 1 rfl rfl 1 (by decide) mw_129 rfl rfl rfl (Nat.le_of_ble_eq_true rfl) dX6_end_22 rfl (fun H locs hP hD hS => ?_)
      refine lv_iload_n hx hb dX6_end_25 rfl (lv_at hl 1 rfl) ?_
      have hP := hP.sub (ws' := []) [] rfl
      have hD := hD.sub (ws' := []) [] (by decide) rfl
      exact mt_iret () hx hb hr hk (by refine ⟨fun h9 => ?_, fun h9 => ?_⟩ <;> first | rfl | exact h9 | (exfalso; have g0 := c_1; have g1 := c_2; have g2 := h9; (try simp only [lg_cmp_ge, lg_cmp_le, lg_cmp_gt, lg_cmp_lt, lg_cmp_eq] at g0 g1 g2); (try simp only [Int32.lt_iff_toInt_lt, Int32.le_iff_toInt_le, ← Int32.toInt_inj, Int32.reduceToInt, Int64.lt_iff_toInt_lt, Int64.le_iff_toInt_le, ← Int64.toInt_inj, Int64.reduceToInt, Int32.toInt_toInt64] at g0 g1 g2); omega)) hP hD hS dX6_end_26
    · refine lv_iconst (v := (-1)) hx hb dX6_end_15 (by decide) ?_
      have hP := hP.sub (ws' := []) [] rfl
      have hD := hD.sub (ws' := []) [] (by decide) rfl
      exact mt_iret () hx hb hr hk (by refine ⟨fun h9 => ?_, fun h9 => ?_⟩ <;> first | rfl | exact h9 | (exfalso; have g0 := c_1; have g1 := c_2; have g2 := h9; (try simp only [lg_cmp_ge, lg_cmp_le, lg_cmp_gt, lg_cmp_lt, lg_cmp_eq] at g0 g1 g2); (try simp only [Int32.lt_iff_toInt_lt, Int32.le_iff_toInt_le, ← Int32.toInt_inj, Int32.reduceToInt, Int64.lt_iff_toInt_lt, Int64.le_iff_toInt_le, ← Int64.toInt_inj, Int64.reduceToInt, Int32.toInt_toInt64] at g0 g1 g2); omega)) hP hD hS dX6_end_16

set_option maxHeartbeats 4000000 in
set_option maxRecDepth 100000 in
theorem cf_row {l : Launch} {D : va_G} {q : Nat → ClassId} {sz : Nat} {a : Nat → Nat} {x : Int32} : Met l yX6_row (Cond.code yX6_row cX6_row 3 (some .int) :: w_all) ({ frames := 2, cells := 0, slots := 0, locals := 42 }) (mt_P D q [.ref (a 0), .int x] (fb_w a q) sz) (va_Qi (fun r (u : Unit) => r = (-1)) (mt_B D (fb_w a q) sz (fun _ => [])) (va_A (fb_w a q) sz)) 0 0 (va_A (fb_w a q) sz) := by
  refine mt_start (by decide) (Nat.le_of_ble_eq_true rfl) ?_
  intro p e s m below meth c ls hx hb hr hml hown ht hk hin hP hQ hD hA hS hl
  have hK := hQ.1
  have hown : s.vm.findClass RX6 = some m.cls := hown
  have hl : lv_has ls 3 [(0, .ref (a 0)), (1, .int x)] := hl
  have hP := hP.sub (ws' := [((a 0), .inr (5, [.ref (a 1), .ref (a 3), .ref (a 16), .ref (a 29), .ref (a 33), .ref (a 41), .ref (a 43)])), ((a 1), .inr (4, [.ref (a 2), .int 0, .int 0, .int 0, .int 0, .int 0, .int 0])), ((a 2), .inl (q 0, 400, .inl (fun _ => 0))), ((a 3), .inr (0, [.int 0, .int 0, .int 0, .int 0, .int 0, .int 0, .ref (a 4), .ref (a 5), .ref (a 6), .ref (a 7), .ref (a 8), .ref (a 9), .ref (a 10), .ref (a 11), .ref (a 12), .ref (a 13), .ref (a 14), .ref (a 15)])), ((a 4), .inl (q 0, 4, .inl (fun _ => 0))), ((a 5), .inl (q 0, 4, .inl (fun _ => 0))), ((a 6), .inl (q 0, 160, .inl (fun _ => 0))), ((a 7), .inl (q 0, 40, .inl (fun _ => 0))), ((a 8), .inl (q 0, 40, .inl (fun _ => 0))), ((a 9), .inl (q 0, 40, .inl (fun _ => 0))), ((a 10), .inl (q 0, 40, .inl (fun _ => 0))), ((a 11), .inl (q 0, 40, .inl (fun _ => 0))), ((a 12), .inl (q 0, 40, .inl (fun _ => 0))), ((a 13), .inl (q 0, 40, .inl (fun _ => 0))), ((a 14), .inl (q 1, 40, .inr (.inl (fun _ => 0)))), ((a 15), .inl (q 0, 0, .inl (fun _ => 0))), ((a 16), .inr (0, [.int 0, .int 0, .int 0, .int 0, .int 0, .int 0, .ref (a 17), .ref (a 18), .ref (a 19), .ref (a 20), .ref (a 21), .ref (a 22), .ref (a 23), .ref (a 24), .ref (a 25), .ref (a 26), .ref (a 27), .ref (a 28)])), ((a 17), .inl (q 0, 4, .inl (fun _ => 0))), ((a 18), .inl (q 0, 4, .inl (fun _ => 0))), ((a 19), .inl (q 0, 160, .inl (fun _ => 0))), ((a 20), .inl (q 0, 40, .inl (fun _ => 0))), ((a 21), .inl (q 0, 40, .inl (fun _ => 0))), ((a 22), .inl (q 0, 40, .inl (fun _ => 0))), ((a 23), .inl (q 0, 40, .inl (fun _ => 0))), ((a 24), .inl (q 0, 40, .inl (fun _ => 0))), ((a 25), .inl (q 0, 40, .inl (fun _ => 0))), ((a 26), .inl (q 0, 40, .inl (fun _ => 0))), ((a 27), .inl (q 1, 40, .inr (.inl (fun _ => 0)))), ((a 28), .inl (q 0, 0, .inl (fun _ => 0))), ((a 29), .inr (1, [.ref (a 30), .ref (a 31), .ref (a 32), .int 0, .int 0, .int 0, .int 0, .int 0, .int 0, .int 0, .int 0, .int 0])), ((a 30), .inl (q 0, 40, .inl (fun _ => 0))), ((a 31), .inl (q 0, 40, .inl (fun _ => 0))), ((a 32), .inl (q 0, 40, .inl (fun _ => 0))), ((a 33), .inr (3, [.ref (a 34), .ref (a 35), .ref (a 36), .ref (a 37), .ref (a 38), .ref (a 39), .ref (a 40), .int 0, .int 0, .int 0])), ((a 34), .inl (q 0, 80, .inl (fun _ => 0))), ((a 35), .inl (q 0, 80, .inl (fun _ => 0))), ((a 36), .inl (q 0, 80, .inl (fun _ => 0))), ((a 37), .inl (q 0, 80, .inl (fun _ => 0))), ((a 38), .inl (q 0, 80, .inl (fun _ => 0))), ((a 39), .inl (q 0, 3, .inl (fun _ => 0))), ((a 40), .inl (q 0, 3, .inl (fun _ => 0))), ((a 41), .inr (2, [.ref (a 42), .int 0, .int 0])), ((a 42), .inl (q 4, 10, .inr (.inr (.inr (.inr (fun _ => none)))))), ((a 43), .inl (q 4, 2, .inr (.inr (.inr (.inr (fun _ => none))))))]) [0, 1, 2, 3, 4, 5, 6, 7, 8, 9, 10, 11, 12, 13, 14, 15, 16, 17, 18, 19, 20, 21, 22, 23, 24, 25, 26, 27, 28, 29, 30, 31, 32, 33, 34, 35, 36, 37, 38, 39, 40, 41, 42, 43] rfl
  have hD := hD.sub (ws' := [((a 0), .inr (5, [.ref (a 1), .ref (a 3), .ref (a 16), .ref (a 29), .ref (a 33), .ref (a 41), .ref (a 43)])), ((a 1), .inr (4, [.ref (a 2), .int 0, .int 0, .int 0, .int 0, .int 0, .int 0])), ((a 2), .inl (q 0, 400, .inl (fun _ => 0))), ((a 3), .inr (0, [.int 0, .int 0, .int 0, .int 0, .int 0, .int 0, .ref (a 4), .ref (a 5), .ref (a 6), .ref (a 7), .ref (a 8), .ref (a 9), .ref (a 10), .ref (a 11), .ref (a 12), .ref (a 13), .ref (a 14), .ref (a 15)])), ((a 4), .inl (q 0, 4, .inl (fun _ => 0))), ((a 5), .inl (q 0, 4, .inl (fun _ => 0))), ((a 6), .inl (q 0, 160, .inl (fun _ => 0))), ((a 7), .inl (q 0, 40, .inl (fun _ => 0))), ((a 8), .inl (q 0, 40, .inl (fun _ => 0))), ((a 9), .inl (q 0, 40, .inl (fun _ => 0))), ((a 10), .inl (q 0, 40, .inl (fun _ => 0))), ((a 11), .inl (q 0, 40, .inl (fun _ => 0))), ((a 12), .inl (q 0, 40, .inl (fun _ => 0))), ((a 13), .inl (q 0, 40, .inl (fun _ => 0))), ((a 14), .inl (q 1, 40, .inr (.inl (fun _ => 0)))), ((a 15), .inl (q 0, 0, .inl (fun _ => 0))), ((a 16), .inr (0, [.int 0, .int 0, .int 0, .int 0, .int 0, .int 0, .ref (a 17), .ref (a 18), .ref (a 19), .ref (a 20), .ref (a 21), .ref (a 22), .ref (a 23), .ref (a 24), .ref (a 25), .ref (a 26), .ref (a 27), .ref (a 28)])), ((a 17), .inl (q 0, 4, .inl (fun _ => 0))), ((a 18), .inl (q 0, 4, .inl (fun _ => 0))), ((a 19), .inl (q 0, 160, .inl (fun _ => 0))), ((a 20), .inl (q 0, 40, .inl (fun _ => 0))), ((a 21), .inl (q 0, 40, .inl (fun _ => 0))), ((a 22), .inl (q 0, 40, .inl (fun _ => 0))), ((a 23), .inl (q 0, 40, .inl (fun _ => 0))), ((a 24), .inl (q 0, 40, .inl (fun _ => 0))), ((a 25), .inl (q 0, 40, .inl (fun _ => 0))), ((a 26), .inl (q 0, 40, .inl (fun _ => 0))), ((a 27), .inl (q 1, 40, .inr (.inl (fun _ => 0)))), ((a 28), .inl (q 0, 0, .inl (fun _ => 0))), ((a 29), .inr (1, [.ref (a 30), .ref (a 31), .ref (a 32), .int 0, .int 0, .int 0, .int 0, .int 0, .int 0, .int 0, .int 0, .int 0])), ((a 30), .inl (q 0, 40, .inl (fun _ => 0))), ((a 31), .inl (q 0, 40, .inl (fun _ => 0))), ((a 32), .inl (q 0, 40, .inl (fun _ => 0))), ((a 33), .inr (3, [.ref (a 34), .ref (a 35), .ref (a 36), .ref (a 37), .ref (a 38), .ref (a 39), .ref (a 40), .int 0, .int 0, .int 0])), ((a 34), .inl (q 0, 80, .inl (fun _ => 0))), ((a 35), .inl (q 0, 80, .inl (fun _ => 0))), ((a 36), .inl (q 0, 80, .inl (fun _ => 0))), ((a 37), .inl (q 0, 80, .inl (fun _ => 0))), ((a 38), .inl (q 0, 80, .inl (fun _ => 0))), ((a 39), .inl (q 0, 3, .inl (fun _ => 0))), ((a 40), .inl (q 0, 3, .inl (fun _ => 0))), ((a 41), .inr (2, [.ref (a 42), .int 0, .int 0])), ((a 42), .inl (q 4, 10, .inr (.inr (.inr (.inr (fun _ => none)))))), ((a 43), .inl (q 4, 2, .inr (.inr (.inr (.inr (fun _ => none))))))]) [0, 1, 2, 3, 4, 5, 6, 7, 8, 9, 10, 11, 12, 13, 14, 15, 16, 17, 18, 19, 20, 21, 22, 23, 24, 25, 26, 27, 28, 29, 30, 31, 32, 33, 34, 35, 36, 37, 38, 39, 40, 41, 42, 43] (by decide) rfl
  refine lv_aload_n hx hb dX6_row_0 rfl (lv_at hl 0 rfl) ?_
  refine lv_iload_n hx hb dX6_row_1 rfl (lv_at hl 1 rfl) ?_
  refine vp_callSi (rd_wV (wc := [((a 0), .inr (5, [.ref (a 1), .ref (a 3), .ref (a 16), .ref (a 29), .ref (a 33), .ref (a 41), .ref (a 43)])), ((a 1), .inr (4, [.ref (a 2), .int 0, .int 0, .int 0, .int 0, .int 0, .int 0])), ((a 2), .inl (q 0, 400, .inl (fun _ => 0))), ((a 3), .inr (0, [.int 0, .int 0, .int 0, .int 0, .int 0, .int 0, .ref (a 4), .ref (a 5), .ref (a 6), .ref (a 7), .ref (a 8), .ref (a 9), .ref (a 10), .ref (a 11), .ref (a 12), .ref (a 13), .ref (a 14), .ref (a 15)])), ((a 4), .inl (q 0, 4, .inl (fun _ => 0))), ((a 5), .inl (q 0, 4, .inl (fun _ => 0))), ((a 6), .inl (q 0, 160, .inl (fun _ => 0))), ((a 7), .inl (q 0, 40, .inl (fun _ => 0))), ((a 8), .inl (q 0, 40, .inl (fun _ => 0))), ((a 9), .inl (q 0, 40, .inl (fun _ => 0))), ((a 10), .inl (q 0, 40, .inl (fun _ => 0))), ((a 11), .inl (q 0, 40, .inl (fun _ => 0))), ((a 12), .inl (q 0, 40, .inl (fun _ => 0))), ((a 13), .inl (q 0, 40, .inl (fun _ => 0))), ((a 14), .inl (q 1, 40, .inr (.inl (fun _ => 0)))), ((a 15), .inl (q 0, 0, .inl (fun _ => 0))), ((a 16), .inr (0, [.int 0, .int 0, .int 0, .int 0, .int 0, .int 0, .ref (a 17), .ref (a 18), .ref (a 19), .ref (a 20), .ref (a 21), .ref (a 22), .ref (a 23), .ref (a 24), .ref (a 25), .ref (a 26), .ref (a 27), .ref (a 28)])), ((a 17), .inl (q 0, 4, .inl (fun _ => 0))), ((a 18), .inl (q 0, 4, .inl (fun _ => 0))), ((a 19), .inl (q 0, 160, .inl (fun _ => 0))), ((a 20), .inl (q 0, 40, .inl (fun _ => 0))), ((a 21), .inl (q 0, 40, .inl (fun _ => 0))), ((a 22), .inl (q 0, 40, .inl (fun _ => 0))), ((a 23), .inl (q 0, 40, .inl (fun _ => 0))), ((a 24), .inl (q 0, 40, .inl (fun _ => 0))), ((a 25), .inl (q 0, 40, .inl (fun _ => 0))), ((a 26), .inl (q 0, 40, .inl (fun _ => 0))), ((a 27), .inl (q 1, 40, .inr (.inl (fun _ => 0)))), ((a 28), .inl (q 0, 0, .inl (fun _ => 0))), ((a 29), .inr (1, [.ref (a 30), .ref (a 31), .ref (a 32), .int 0, .int 0, .int 0, .int 0, .int 0, .int 0, .int 0, .int 0, .int 0])), ((a 30), .inl (q 0, 40, .inl (fun _ => 0))), ((a 31), .inl (q 0, 40, .inl (fun _ => 0))), ((a 32), .inl (q 0, 40, .inl (fun _ => 0))), ((a 33), .inr (3, [.ref (a 34), .ref (a 35), .ref (a 36), .ref (a 37), .ref (a 38), .ref (a 39), .ref (a 40), .int 0, .int 0, .int 0])), ((a 34), .inl (q 0, 80, .inl (fun _ => 0))), ((a 35), .inl (q 0, 80, .inl (fun _ => 0))), ((a 36), .inl (q 0, 80, .inl (fun _ => 0))), ((a 37), .inl (q 0, 80, .inl (fun _ => 0))), ((a 38), .inl (q 0, 80, .inl (fun _ => 0))), ((a 39), .inl (q 0, 3, .inl (fun _ => 0))), ((a 40), .inl (q 0, 3, .inl (fun _ => 0))), ((a 41), .inr (2, [.ref (a 42), .int 0, .int 0])), ((a 42), .inl (q 4, 10, .inr (.inr (.inr (.inr (fun _ => none)))))), ((a 43), .inl (q 4, 2, .inr (.inr (.inr (.inr (fun _ => none))))))]) (As := [.int x]) (rest := []) hx hb hml hown ht (cf_whyNotRow) wd_X6_whyNotRow mw_617 hQ (hP.sub [0, 1, 2, 3, 4, 5, 6, 7, 8, 9, 10, 11, 12, 13, 14, 15, 16, 17, 18, 19, 20, 21, 22, 23, 24, 25, 26, 27, 28, 29, 30, 31, 32, 33, 34, 35, 36, 37, 38, 39, 40, 41, 42, 43] rfl) rfl rfl rfl hl.1 rfl (Nat.le_of_ble_eq_true rfl) dX6_row_2 ⟨Nat.le_of_ble_eq_true rfl, Nat.le_of_ble_eq_true rfl, rfl, rfl⟩ ⟨Nat.le_of_ble_eq_true rfl, Nat.le_of_ble_eq_true rfl⟩) (fun r_1 er_1 => ?_)
  obtain rfl : r_1 = (-1) := er_1
  refine lv_istore_n (lv' := [(2, .int (-1)), (0, .ref (a 0)), (1, .int x)]) hx hb dX6_row_5 rfl hl (by decide) rfl (fun ls hl => ?_)
  refine lv_iload_n hx hb dX6_row_6 rfl (lv_at hl 0 rfl) ?_
  refine lv_if_ne (tgt := 42) hx hb dX6_row_7 (by decide) (fun c_2 => ?_) (fun c9 => absurd c9 (by decide))
  refine lv_aload_n hx hb dX6_row_42 rfl (lv_at hl 1 rfl) ?_
  refine fl_get (C := RX6) (T := TX6) (N := 7) (ci := 5) (v := .ref (a 1)) hx hb ht in_X6 hown hK hP 0 rfl rfl 0 (by decide) mw_355 rfl dX6_row_43 ?_
  refine lv_iconst (v := 0) hx hb dX6_row_46 (by decide) ?_
  refine fl_put (C := RX5) (T := TX5) (N := 7) (ci := 4) (v := .int 0) (ws2 := [((a 0), .inr (5, [.ref (a 1), .ref (a 3), .ref (a 16), .ref (a 29), .ref (a 33), .ref (a 41), .ref (a 43)])), ((a 1), .inr (4, [.ref (a 2), .int 0, .int 0, .int 0, .int 0, .int 0, .int 0])), ((a 2), .inl (q 0, 400, .inl (fun _ => 0))), ((a 3), .inr (0, [.int 0, .int 0, .int 0, .int 0, .int 0, .int 0, .ref (a 4), .ref (a 5), .ref (a 6), .ref (a 7), .ref (a 8), .ref (a 9), .ref (a 10), .ref (a 11), .ref (a 12), .ref (a 13), .ref (a 14), .ref (a 15)])), ((a 4), .inl (q 0, 4, .inl (fun _ => 0))), ((a 5), .inl (q 0, 4, .inl (fun _ => 0))), ((a 6), .inl (q 0, 160, .inl (fun _ => 0))), ((a 7), .inl (q 0, 40, .inl (fun _ => 0))), ((a 8), .inl (q 0, 40, .inl (fun _ => 0))), ((a 9), .inl (q 0, 40, .inl (fun _ => 0))), ((a 10), .inl (q 0, 40, .inl (fun _ => 0))), ((a 11), .inl (q 0, 40, .inl (fun _ => 0))), ((a 12), .inl (q 0, 40, .inl (fun _ => 0))), ((a 13), .inl (q 0, 40, .inl (fun _ => 0))), ((a 14), .inl (q 1, 40, .inr (.inl (fun _ => 0)))), ((a 15), .inl (q 0, 0, .inl (fun _ => 0))), ((a 16), .inr (0, [.int 0, .int 0, .int 0, .int 0, .int 0, .int 0, .ref (a 17), .ref (a 18), .ref (a 19), .ref (a 20), .ref (a 21), .ref (a 22), .ref (a 23), .ref (a 24), .ref (a 25), .ref (a 26), .ref (a 27), .ref (a 28)])), ((a 17), .inl (q 0, 4, .inl (fun _ => 0))), ((a 18), .inl (q 0, 4, .inl (fun _ => 0))), ((a 19), .inl (q 0, 160, .inl (fun _ => 0))), ((a 20), .inl (q 0, 40, .inl (fun _ => 0))), ((a 21), .inl (q 0, 40, .inl (fun _ => 0))), ((a 22), .inl (q 0, 40, .inl (fun _ => 0))), ((a 23), .inl (q 0, 40, .inl (fun _ => 0))), ((a 24), .inl (q 0, 40, .inl (fun _ => 0))), ((a 25), .inl (q 0, 40, .inl (fun _ => 0))), ((a 26), .inl (q 0, 40, .inl (fun _ => 0))), ((a 27), .inl (q 1, 40, .inr (.inl (fun _ => 0)))), ((a 28), .inl (q 0, 0, .inl (fun _ => 0))), ((a 29), .inr (1, [.ref (a 30), .ref (a 31), .ref (a 32), .int 0, .int 0, .int 0, .int 0, .int 0, .int 0, .int 0, .int 0, .int 0])), ((a 30), .inl (q 0, 40, .inl (fun _ => 0))), ((a 31), .inl (q 0, 40, .inl (fun _ => 0))), ((a 32), .inl (q 0, 40, .inl (fun _ => 0))), ((a 33), .inr (3, [.ref (a 34), .ref (a 35), .ref (a 36), .ref (a 37), .ref (a 38), .ref (a 39), .ref (a 40), .int 0, .int 0, .int 0])), ((a 34), .inl (q 0, 80, .inl (fun _ => 0))), ((a 35), .inl (q 0, 80, .inl (fun _ => 0))), ((a 36), .inl (q 0, 80, .inl (fun _ => 0))), ((a 37), .inl (q 0, 80, .inl (fun _ => 0))), ((a 38), .inl (q 0, 80, .inl (fun _ => 0))), ((a 39), .inl (q 0, 3, .inl (fun _ => 0))), ((a 40), .inl (q 0, 3, .inl (fun _ => 0))), ((a 41), .inr (2, [.ref (a 42), .int 0, .int 0])), ((a 42), .inl (q 4, 10, .inr (.inr (.inr (.inr (fun _ => none)))))), ((a 43), .inl (q 4, 2, .inr (.inr (.inr (.inr (fun _ => none))))))]) hx hb ht in_X5 tyX5_ok nmX5 hown hK hP hD hS 1 rfl rfl 1 (by decide) mw_129 rfl rfl rfl (Nat.le_of_ble_eq_true rfl) dX6_row_47 rfl (fun H locs hP hD hS => ?_)
  refine lv_iload_n hx hb dX6_row_50 rfl (lv_at hl 0 rfl) ?_
  have hP := hP.sub (ws' := []) [] rfl
  have hD := hD.sub (ws' := []) [] (by decide) rfl
  exact mt_iret () hx hb hr hk (rfl) hP hD hS dX6_row_51

set_option maxHeartbeats 4000000 in
set_option maxRecDepth 100000 in
theorem cf_scroll {l : Launch} {D : va_G} {q : Nat → ClassId} {sz : Nat} {a : Nat → Nat} : Met l yX6_scroll (Cond.code yX6_scroll cX6_scroll 2 (some .int) :: w_all) ({ frames := 2, cells := 0, slots := 0, locals := 42 }) (mt_P D q [.ref (a 0)] (fb_w a q) sz) (va_Qi (fun r (u : Unit) => r = (-1)) (mt_B D (fb_w a q) sz (fun _ => [])) (va_A (fb_w a q) sz)) 0 0 (va_A (fb_w a q) sz) := by
  refine mt_start (by decide) (Nat.le_of_ble_eq_true rfl) ?_
  intro p e s m below meth c ls hx hb hr hml hown ht hk hin hP hQ hD hA hS hl
  have hK := hQ.1
  have hown : s.vm.findClass RX6 = some m.cls := hown
  have hl : lv_has ls 2 [(0, .ref (a 0))] := hl
  have hP := hP.sub (ws' := [((a 0), .inr (5, [.ref (a 1), .ref (a 3), .ref (a 16), .ref (a 29), .ref (a 33), .ref (a 41), .ref (a 43)])), ((a 1), .inr (4, [.ref (a 2), .int 0, .int 0, .int 0, .int 0, .int 0, .int 0])), ((a 2), .inl (q 0, 400, .inl (fun _ => 0))), ((a 3), .inr (0, [.int 0, .int 0, .int 0, .int 0, .int 0, .int 0, .ref (a 4), .ref (a 5), .ref (a 6), .ref (a 7), .ref (a 8), .ref (a 9), .ref (a 10), .ref (a 11), .ref (a 12), .ref (a 13), .ref (a 14), .ref (a 15)])), ((a 4), .inl (q 0, 4, .inl (fun _ => 0))), ((a 5), .inl (q 0, 4, .inl (fun _ => 0))), ((a 6), .inl (q 0, 160, .inl (fun _ => 0))), ((a 7), .inl (q 0, 40, .inl (fun _ => 0))), ((a 8), .inl (q 0, 40, .inl (fun _ => 0))), ((a 9), .inl (q 0, 40, .inl (fun _ => 0))), ((a 10), .inl (q 0, 40, .inl (fun _ => 0))), ((a 11), .inl (q 0, 40, .inl (fun _ => 0))), ((a 12), .inl (q 0, 40, .inl (fun _ => 0))), ((a 13), .inl (q 0, 40, .inl (fun _ => 0))), ((a 14), .inl (q 1, 40, .inr (.inl (fun _ => 0)))), ((a 15), .inl (q 0, 0, .inl (fun _ => 0))), ((a 16), .inr (0, [.int 0, .int 0, .int 0, .int 0, .int 0, .int 0, .ref (a 17), .ref (a 18), .ref (a 19), .ref (a 20), .ref (a 21), .ref (a 22), .ref (a 23), .ref (a 24), .ref (a 25), .ref (a 26), .ref (a 27), .ref (a 28)])), ((a 17), .inl (q 0, 4, .inl (fun _ => 0))), ((a 18), .inl (q 0, 4, .inl (fun _ => 0))), ((a 19), .inl (q 0, 160, .inl (fun _ => 0))), ((a 20), .inl (q 0, 40, .inl (fun _ => 0))), ((a 21), .inl (q 0, 40, .inl (fun _ => 0))), ((a 22), .inl (q 0, 40, .inl (fun _ => 0))), ((a 23), .inl (q 0, 40, .inl (fun _ => 0))), ((a 24), .inl (q 0, 40, .inl (fun _ => 0))), ((a 25), .inl (q 0, 40, .inl (fun _ => 0))), ((a 26), .inl (q 0, 40, .inl (fun _ => 0))), ((a 27), .inl (q 1, 40, .inr (.inl (fun _ => 0)))), ((a 28), .inl (q 0, 0, .inl (fun _ => 0))), ((a 29), .inr (1, [.ref (a 30), .ref (a 31), .ref (a 32), .int 0, .int 0, .int 0, .int 0, .int 0, .int 0, .int 0, .int 0, .int 0])), ((a 30), .inl (q 0, 40, .inl (fun _ => 0))), ((a 31), .inl (q 0, 40, .inl (fun _ => 0))), ((a 32), .inl (q 0, 40, .inl (fun _ => 0))), ((a 33), .inr (3, [.ref (a 34), .ref (a 35), .ref (a 36), .ref (a 37), .ref (a 38), .ref (a 39), .ref (a 40), .int 0, .int 0, .int 0])), ((a 34), .inl (q 0, 80, .inl (fun _ => 0))), ((a 35), .inl (q 0, 80, .inl (fun _ => 0))), ((a 36), .inl (q 0, 80, .inl (fun _ => 0))), ((a 37), .inl (q 0, 80, .inl (fun _ => 0))), ((a 38), .inl (q 0, 80, .inl (fun _ => 0))), ((a 39), .inl (q 0, 3, .inl (fun _ => 0))), ((a 40), .inl (q 0, 3, .inl (fun _ => 0))), ((a 41), .inr (2, [.ref (a 42), .int 0, .int 0])), ((a 42), .inl (q 4, 10, .inr (.inr (.inr (.inr (fun _ => none)))))), ((a 43), .inl (q 4, 2, .inr (.inr (.inr (.inr (fun _ => none))))))]) [0, 1, 2, 3, 4, 5, 6, 7, 8, 9, 10, 11, 12, 13, 14, 15, 16, 17, 18, 19, 20, 21, 22, 23, 24, 25, 26, 27, 28, 29, 30, 31, 32, 33, 34, 35, 36, 37, 38, 39, 40, 41, 42, 43] rfl
  have hD := hD.sub (ws' := [((a 0), .inr (5, [.ref (a 1), .ref (a 3), .ref (a 16), .ref (a 29), .ref (a 33), .ref (a 41), .ref (a 43)])), ((a 1), .inr (4, [.ref (a 2), .int 0, .int 0, .int 0, .int 0, .int 0, .int 0])), ((a 2), .inl (q 0, 400, .inl (fun _ => 0))), ((a 3), .inr (0, [.int 0, .int 0, .int 0, .int 0, .int 0, .int 0, .ref (a 4), .ref (a 5), .ref (a 6), .ref (a 7), .ref (a 8), .ref (a 9), .ref (a 10), .ref (a 11), .ref (a 12), .ref (a 13), .ref (a 14), .ref (a 15)])), ((a 4), .inl (q 0, 4, .inl (fun _ => 0))), ((a 5), .inl (q 0, 4, .inl (fun _ => 0))), ((a 6), .inl (q 0, 160, .inl (fun _ => 0))), ((a 7), .inl (q 0, 40, .inl (fun _ => 0))), ((a 8), .inl (q 0, 40, .inl (fun _ => 0))), ((a 9), .inl (q 0, 40, .inl (fun _ => 0))), ((a 10), .inl (q 0, 40, .inl (fun _ => 0))), ((a 11), .inl (q 0, 40, .inl (fun _ => 0))), ((a 12), .inl (q 0, 40, .inl (fun _ => 0))), ((a 13), .inl (q 0, 40, .inl (fun _ => 0))), ((a 14), .inl (q 1, 40, .inr (.inl (fun _ => 0)))), ((a 15), .inl (q 0, 0, .inl (fun _ => 0))), ((a 16), .inr (0, [.int 0, .int 0, .int 0, .int 0, .int 0, .int 0, .ref (a 17), .ref (a 18), .ref (a 19), .ref (a 20), .ref (a 21), .ref (a 22), .ref (a 23), .ref (a 24), .ref (a 25), .ref (a 26), .ref (a 27), .ref (a 28)])), ((a 17), .inl (q 0, 4, .inl (fun _ => 0))), ((a 18), .inl (q 0, 4, .inl (fun _ => 0))), ((a 19), .inl (q 0, 160, .inl (fun _ => 0))), ((a 20), .inl (q 0, 40, .inl (fun _ => 0))), ((a 21), .inl (q 0, 40, .inl (fun _ => 0))), ((a 22), .inl (q 0, 40, .inl (fun _ => 0))), ((a 23), .inl (q 0, 40, .inl (fun _ => 0))), ((a 24), .inl (q 0, 40, .inl (fun _ => 0))), ((a 25), .inl (q 0, 40, .inl (fun _ => 0))), ((a 26), .inl (q 0, 40, .inl (fun _ => 0))), ((a 27), .inl (q 1, 40, .inr (.inl (fun _ => 0)))), ((a 28), .inl (q 0, 0, .inl (fun _ => 0))), ((a 29), .inr (1, [.ref (a 30), .ref (a 31), .ref (a 32), .int 0, .int 0, .int 0, .int 0, .int 0, .int 0, .int 0, .int 0, .int 0])), ((a 30), .inl (q 0, 40, .inl (fun _ => 0))), ((a 31), .inl (q 0, 40, .inl (fun _ => 0))), ((a 32), .inl (q 0, 40, .inl (fun _ => 0))), ((a 33), .inr (3, [.ref (a 34), .ref (a 35), .ref (a 36), .ref (a 37), .ref (a 38), .ref (a 39), .ref (a 40), .int 0, .int 0, .int 0])), ((a 34), .inl (q 0, 80, .inl (fun _ => 0))), ((a 35), .inl (q 0, 80, .inl (fun _ => 0))), ((a 36), .inl (q 0, 80, .inl (fun _ => 0))), ((a 37), .inl (q 0, 80, .inl (fun _ => 0))), ((a 38), .inl (q 0, 80, .inl (fun _ => 0))), ((a 39), .inl (q 0, 3, .inl (fun _ => 0))), ((a 40), .inl (q 0, 3, .inl (fun _ => 0))), ((a 41), .inr (2, [.ref (a 42), .int 0, .int 0])), ((a 42), .inl (q 4, 10, .inr (.inr (.inr (.inr (fun _ => none)))))), ((a 43), .inl (q 4, 2, .inr (.inr (.inr (.inr (fun _ => none))))))]) [0, 1, 2, 3, 4, 5, 6, 7, 8, 9, 10, 11, 12, 13, 14, 15, 16, 17, 18, 19, 20, 21, 22, 23, 24, 25, 26, 27, 28, 29, 30, 31, 32, 33, 34, 35, 36, 37, 38, 39, 40, 41, 42, 43] (by decide) rfl
  refine lv_aload_n hx hb dX6_scroll_0 rfl (lv_at hl 0 rfl) ?_
  refine lv_aload_n hx hb dX6_scroll_1 rfl (lv_at hl 0 rfl) ?_
  refine fl_get (C := RX6) (T := TX6) (N := 7) (ci := 5) (v := .ref (a 3)) hx hb ht in_X6 hown hK hP 0 rfl rfl 1 (by decide) mw_356 rfl dX6_scroll_2 ?_
  refine fl_get (C := RX0) (T := TX0) (N := 18) (ci := 0) (v := .int 0) hx hb ht in_X0 hown hK hP 3 rfl rfl 0 (by decide) mw_169 rfl dX6_scroll_5 ?_
  refine lv_iconst (v := 1) hx hb dX6_scroll_8 (by decide) ?_
  refine lv_isub hx hb dX6_scroll_9 ?_
  refine ab_i (v := (-1)) (by decide) ?_
  refine vp_callSi (rd_wV (wc := [((a 0), .inr (5, [.ref (a 1), .ref (a 3), .ref (a 16), .ref (a 29), .ref (a 33), .ref (a 41), .ref (a 43)])), ((a 1), .inr (4, [.ref (a 2), .int 0, .int 0, .int 0, .int 0, .int 0, .int 0])), ((a 2), .inl (q 0, 400, .inl (fun _ => 0))), ((a 3), .inr (0, [.int 0, .int 0, .int 0, .int 0, .int 0, .int 0, .ref (a 4), .ref (a 5), .ref (a 6), .ref (a 7), .ref (a 8), .ref (a 9), .ref (a 10), .ref (a 11), .ref (a 12), .ref (a 13), .ref (a 14), .ref (a 15)])), ((a 4), .inl (q 0, 4, .inl (fun _ => 0))), ((a 5), .inl (q 0, 4, .inl (fun _ => 0))), ((a 6), .inl (q 0, 160, .inl (fun _ => 0))), ((a 7), .inl (q 0, 40, .inl (fun _ => 0))), ((a 8), .inl (q 0, 40, .inl (fun _ => 0))), ((a 9), .inl (q 0, 40, .inl (fun _ => 0))), ((a 10), .inl (q 0, 40, .inl (fun _ => 0))), ((a 11), .inl (q 0, 40, .inl (fun _ => 0))), ((a 12), .inl (q 0, 40, .inl (fun _ => 0))), ((a 13), .inl (q 0, 40, .inl (fun _ => 0))), ((a 14), .inl (q 1, 40, .inr (.inl (fun _ => 0)))), ((a 15), .inl (q 0, 0, .inl (fun _ => 0))), ((a 16), .inr (0, [.int 0, .int 0, .int 0, .int 0, .int 0, .int 0, .ref (a 17), .ref (a 18), .ref (a 19), .ref (a 20), .ref (a 21), .ref (a 22), .ref (a 23), .ref (a 24), .ref (a 25), .ref (a 26), .ref (a 27), .ref (a 28)])), ((a 17), .inl (q 0, 4, .inl (fun _ => 0))), ((a 18), .inl (q 0, 4, .inl (fun _ => 0))), ((a 19), .inl (q 0, 160, .inl (fun _ => 0))), ((a 20), .inl (q 0, 40, .inl (fun _ => 0))), ((a 21), .inl (q 0, 40, .inl (fun _ => 0))), ((a 22), .inl (q 0, 40, .inl (fun _ => 0))), ((a 23), .inl (q 0, 40, .inl (fun _ => 0))), ((a 24), .inl (q 0, 40, .inl (fun _ => 0))), ((a 25), .inl (q 0, 40, .inl (fun _ => 0))), ((a 26), .inl (q 0, 40, .inl (fun _ => 0))), ((a 27), .inl (q 1, 40, .inr (.inl (fun _ => 0)))), ((a 28), .inl (q 0, 0, .inl (fun _ => 0))), ((a 29), .inr (1, [.ref (a 30), .ref (a 31), .ref (a 32), .int 0, .int 0, .int 0, .int 0, .int 0, .int 0, .int 0, .int 0, .int 0])), ((a 30), .inl (q 0, 40, .inl (fun _ => 0))), ((a 31), .inl (q 0, 40, .inl (fun _ => 0))), ((a 32), .inl (q 0, 40, .inl (fun _ => 0))), ((a 33), .inr (3, [.ref (a 34), .ref (a 35), .ref (a 36), .ref (a 37), .ref (a 38), .ref (a 39), .ref (a 40), .int 0, .int 0, .int 0])), ((a 34), .inl (q 0, 80, .inl (fun _ => 0))), ((a 35), .inl (q 0, 80, .inl (fun _ => 0))), ((a 36), .inl (q 0, 80, .inl (fun _ => 0))), ((a 37), .inl (q 0, 80, .inl (fun _ => 0))), ((a 38), .inl (q 0, 80, .inl (fun _ => 0))), ((a 39), .inl (q 0, 3, .inl (fun _ => 0))), ((a 40), .inl (q 0, 3, .inl (fun _ => 0))), ((a 41), .inr (2, [.ref (a 42), .int 0, .int 0])), ((a 42), .inl (q 4, 10, .inr (.inr (.inr (.inr (fun _ => none)))))), ((a 43), .inl (q 4, 2, .inr (.inr (.inr (.inr (fun _ => none))))))]) (As := [.int (-1)]) (rest := []) hx hb hml hown ht (cf_whyNotRow) wd_X6_whyNotRow mw_617 hQ (hP.sub [0, 1, 2, 3, 4, 5, 6, 7, 8, 9, 10, 11, 12, 13, 14, 15, 16, 17, 18, 19, 20, 21, 22, 23, 24, 25, 26, 27, 28, 29, 30, 31, 32, 33, 34, 35, 36, 37, 38, 39, 40, 41, 42, 43] rfl) rfl rfl rfl hl.1 rfl (Nat.le_of_ble_eq_true rfl) dX6_scroll_10 ⟨Nat.le_of_ble_eq_true rfl, Nat.le_of_ble_eq_true rfl, rfl, rfl⟩ ⟨Nat.le_of_ble_eq_true rfl, Nat.le_of_ble_eq_true rfl⟩) (fun r_1 er_1 => ?_)
  obtain rfl : r_1 = (-1) := er_1
  refine lv_istore_n (lv' := [(1, .int (-1)), (0, .ref (a 0))]) hx hb dX6_scroll_13 rfl hl (by decide) rfl (fun ls hl => ?_)
  refine lv_iload_n hx hb dX6_scroll_14 rfl (lv_at hl 0 rfl) ?_
  refine lv_if_ne (tgt := 49) hx hb dX6_scroll_15 (by decide) (fun c_2 => ?_) (fun c9 => absurd c9 (by decide))
  refine lv_aload_n hx hb dX6_scroll_49 rfl (lv_at hl 1 rfl) ?_
  refine fl_get (C := RX6) (T := TX6) (N := 7) (ci := 5) (v := .ref (a 1)) hx hb ht in_X6 hown hK hP 0 rfl rfl 0 (by decide) mw_355 rfl dX6_scroll_50 ?_
  refine lv_iconst (v := 0) hx hb dX6_scroll_53 (by decide) ?_
  refine fl_put (C := RX5) (T := TX5) (N := 7) (ci := 4) (v := .int 0) (ws2 := [((a 0), .inr (5, [.ref (a 1), .ref (a 3), .ref (a 16), .ref (a 29), .ref (a 33), .ref (a 41), .ref (a 43)])), ((a 1), .inr (4, [.ref (a 2), .int 0, .int 0, .int 0, .int 0, .int 0, .int 0])), ((a 2), .inl (q 0, 400, .inl (fun _ => 0))), ((a 3), .inr (0, [.int 0, .int 0, .int 0, .int 0, .int 0, .int 0, .ref (a 4), .ref (a 5), .ref (a 6), .ref (a 7), .ref (a 8), .ref (a 9), .ref (a 10), .ref (a 11), .ref (a 12), .ref (a 13), .ref (a 14), .ref (a 15)])), ((a 4), .inl (q 0, 4, .inl (fun _ => 0))), ((a 5), .inl (q 0, 4, .inl (fun _ => 0))), ((a 6), .inl (q 0, 160, .inl (fun _ => 0))), ((a 7), .inl (q 0, 40, .inl (fun _ => 0))), ((a 8), .inl (q 0, 40, .inl (fun _ => 0))), ((a 9), .inl (q 0, 40, .inl (fun _ => 0))), ((a 10), .inl (q 0, 40, .inl (fun _ => 0))), ((a 11), .inl (q 0, 40, .inl (fun _ => 0))), ((a 12), .inl (q 0, 40, .inl (fun _ => 0))), ((a 13), .inl (q 0, 40, .inl (fun _ => 0))), ((a 14), .inl (q 1, 40, .inr (.inl (fun _ => 0)))), ((a 15), .inl (q 0, 0, .inl (fun _ => 0))), ((a 16), .inr (0, [.int 0, .int 0, .int 0, .int 0, .int 0, .int 0, .ref (a 17), .ref (a 18), .ref (a 19), .ref (a 20), .ref (a 21), .ref (a 22), .ref (a 23), .ref (a 24), .ref (a 25), .ref (a 26), .ref (a 27), .ref (a 28)])), ((a 17), .inl (q 0, 4, .inl (fun _ => 0))), ((a 18), .inl (q 0, 4, .inl (fun _ => 0))), ((a 19), .inl (q 0, 160, .inl (fun _ => 0))), ((a 20), .inl (q 0, 40, .inl (fun _ => 0))), ((a 21), .inl (q 0, 40, .inl (fun _ => 0))), ((a 22), .inl (q 0, 40, .inl (fun _ => 0))), ((a 23), .inl (q 0, 40, .inl (fun _ => 0))), ((a 24), .inl (q 0, 40, .inl (fun _ => 0))), ((a 25), .inl (q 0, 40, .inl (fun _ => 0))), ((a 26), .inl (q 0, 40, .inl (fun _ => 0))), ((a 27), .inl (q 1, 40, .inr (.inl (fun _ => 0)))), ((a 28), .inl (q 0, 0, .inl (fun _ => 0))), ((a 29), .inr (1, [.ref (a 30), .ref (a 31), .ref (a 32), .int 0, .int 0, .int 0, .int 0, .int 0, .int 0, .int 0, .int 0, .int 0])), ((a 30), .inl (q 0, 40, .inl (fun _ => 0))), ((a 31), .inl (q 0, 40, .inl (fun _ => 0))), ((a 32), .inl (q 0, 40, .inl (fun _ => 0))), ((a 33), .inr (3, [.ref (a 34), .ref (a 35), .ref (a 36), .ref (a 37), .ref (a 38), .ref (a 39), .ref (a 40), .int 0, .int 0, .int 0])), ((a 34), .inl (q 0, 80, .inl (fun _ => 0))), ((a 35), .inl (q 0, 80, .inl (fun _ => 0))), ((a 36), .inl (q 0, 80, .inl (fun _ => 0))), ((a 37), .inl (q 0, 80, .inl (fun _ => 0))), ((a 38), .inl (q 0, 80, .inl (fun _ => 0))), ((a 39), .inl (q 0, 3, .inl (fun _ => 0))), ((a 40), .inl (q 0, 3, .inl (fun _ => 0))), ((a 41), .inr (2, [.ref (a 42), .int 0, .int 0])), ((a 42), .inl (q 4, 10, .inr (.inr (.inr (.inr (fun _ => none)))))), ((a 43), .inl (q 4, 2, .inr (.inr (.inr (.inr (fun _ => none))))))]) hx hb ht in_X5 tyX5_ok nmX5 hown hK hP hD hS 1 rfl rfl 1 (by decide) mw_129 rfl rfl rfl (Nat.le_of_ble_eq_true rfl) dX6_scroll_54 rfl (fun H locs hP hD hS => ?_)
  refine lv_iload_n hx hb dX6_scroll_57 rfl (lv_at hl 0 rfl) ?_
  have hP := hP.sub (ws' := []) [] rfl
  have hD := hD.sub (ws' := []) [] (by decide) rfl
  exact mt_iret () hx hb hr hk (rfl) hP hD hS dX6_scroll_58

set_option maxHeartbeats 4000000 in
set_option maxRecDepth 100000 in
theorem cf_whyNotProgram {l : Launch} {D : va_G} {q : Nat → ClassId} {a : Nat → Nat} : Met l yX6_whyNotProgram (Cond.code yX6_whyNotProgram cX6_whyNotProgram 1 (some .int) :: w_all) ({ frames := 1, cells := 0, slots := 0, locals := 20 }) (rd_P D q [.ref (a 0)] (fb_w a q)) (vp_Si (fun r => r = (-1))) 0 0 (fun _ => False) := by
  refine rd_start (by decide) (Nat.le_of_ble_eq_true rfl) ?_
  intro p e s m below meth c ls hx hb hr hml hown ht hk hP hQ hl
  have hK := hQ.1
  have hown : s.vm.findClass RX6 = some m.cls := hown
  have hl : lv_has ls 1 [(0, .ref (a 0))] := hl
  have hP := hP.sub (ws' := [((a 0), .inr (5, [.ref (a 1), .ref (a 3), .ref (a 16), .ref (a 29), .ref (a 33), .ref (a 41), .ref (a 43)])), ((a 3), .inr (0, [.int 0, .int 0, .int 0, .int 0, .int 0, .int 0, .ref (a 4), .ref (a 5), .ref (a 6), .ref (a 7), .ref (a 8), .ref (a 9), .ref (a 10), .ref (a 11), .ref (a 12), .ref (a 13), .ref (a 14), .ref (a 15)]))]) [0, 3] rfl
  refine lv_aload_n hx hb dX6_whyNotProgram_0 rfl (lv_at hl 0 rfl) ?_
  refine fl_get (C := RX6) (T := TX6) (N := 7) (ci := 5) (v := .ref (a 3)) hx hb ht in_X6 hown hK hP 0 rfl rfl 1 (by decide) mw_356 rfl dX6_whyNotProgram_1 ?_
  refine vp_callSi (rd_wV (wc := [((a 3), .inr (0, [.int 0, .int 0, .int 0, .int 0, .int 0, .int 0, .ref (a 4), .ref (a 5), .ref (a 6), .ref (a 7), .ref (a 8), .ref (a 9), .ref (a 10), .ref (a 11), .ref (a 12), .ref (a 13), .ref (a 14), .ref (a 15)]))]) (As := []) (rest := []) hx hb hml hown ht (ct_Board_isThere) wd_X0_isThere mw_677 hQ (hP.sub [1] rfl) rfl rfl rfl hl.1 rfl (Nat.le_of_ble_eq_true rfl) dX6_whyNotProgram_4 ⟨Nat.le_of_ble_eq_true rfl, Nat.le_of_ble_eq_true rfl, rfl, rfl⟩ ⟨Nat.le_of_ble_eq_true rfl, Nat.le_of_ble_eq_true rfl⟩) (fun r_1 er_1 => ?_)
  obtain rfl : r_1 = 0 := er_1
  refine lv_if_ne (tgt := 12) hx hb dX6_whyNotProgram_7 (by decide) (fun c9 => absurd c9 (by decide)) (fun c_2 => ?_)
  refine lv_iconst (v := (-1)) hx hb dX6_whyNotProgram_10 (by decide) ?_
  exact rd_iret hx hb hr hk (rfl) dX6_whyNotProgram_11

set_option maxHeartbeats 4000000 in
set_option maxRecDepth 100000 in
theorem cf_run {l : Launch} {D : va_G} {q : Nat → ClassId} {sz : Nat} {a : Nat → Nat} : Met l yX6_run (Cond.code yX6_run cX6_run 2 (some .int) :: w_all) ({ frames := 2, cells := 0, slots := 0, locals := 40 }) (mt_P D q [.ref (a 0)] (fb_w a q) sz) (va_Qi (fun r (u : Unit) => r = (-1)) (mt_B D (fb_w a q) sz (fun _ => [])) (va_A (fb_w a q) sz)) 0 0 (va_A (fb_w a q) sz) := by
  refine mt_start (by decide) (Nat.le_of_ble_eq_true rfl) ?_
  intro p e s m below meth c ls hx hb hr hml hown ht hk hin hP hQ hD hA hS hl
  have hK := hQ.1
  have hown : s.vm.findClass RX6 = some m.cls := hown
  have hl : lv_has ls 2 [(0, .ref (a 0))] := hl
  have hP := hP.sub (ws' := [((a 0), .inr (5, [.ref (a 1), .ref (a 3), .ref (a 16), .ref (a 29), .ref (a 33), .ref (a 41), .ref (a 43)])), ((a 1), .inr (4, [.ref (a 2), .int 0, .int 0, .int 0, .int 0, .int 0, .int 0])), ((a 2), .inl (q 0, 400, .inl (fun _ => 0))), ((a 3), .inr (0, [.int 0, .int 0, .int 0, .int 0, .int 0, .int 0, .ref (a 4), .ref (a 5), .ref (a 6), .ref (a 7), .ref (a 8), .ref (a 9), .ref (a 10), .ref (a 11), .ref (a 12), .ref (a 13), .ref (a 14), .ref (a 15)])), ((a 4), .inl (q 0, 4, .inl (fun _ => 0))), ((a 5), .inl (q 0, 4, .inl (fun _ => 0))), ((a 6), .inl (q 0, 160, .inl (fun _ => 0))), ((a 7), .inl (q 0, 40, .inl (fun _ => 0))), ((a 8), .inl (q 0, 40, .inl (fun _ => 0))), ((a 9), .inl (q 0, 40, .inl (fun _ => 0))), ((a 10), .inl (q 0, 40, .inl (fun _ => 0))), ((a 11), .inl (q 0, 40, .inl (fun _ => 0))), ((a 12), .inl (q 0, 40, .inl (fun _ => 0))), ((a 13), .inl (q 0, 40, .inl (fun _ => 0))), ((a 14), .inl (q 1, 40, .inr (.inl (fun _ => 0)))), ((a 15), .inl (q 0, 0, .inl (fun _ => 0))), ((a 16), .inr (0, [.int 0, .int 0, .int 0, .int 0, .int 0, .int 0, .ref (a 17), .ref (a 18), .ref (a 19), .ref (a 20), .ref (a 21), .ref (a 22), .ref (a 23), .ref (a 24), .ref (a 25), .ref (a 26), .ref (a 27), .ref (a 28)])), ((a 17), .inl (q 0, 4, .inl (fun _ => 0))), ((a 18), .inl (q 0, 4, .inl (fun _ => 0))), ((a 19), .inl (q 0, 160, .inl (fun _ => 0))), ((a 20), .inl (q 0, 40, .inl (fun _ => 0))), ((a 21), .inl (q 0, 40, .inl (fun _ => 0))), ((a 22), .inl (q 0, 40, .inl (fun _ => 0))), ((a 23), .inl (q 0, 40, .inl (fun _ => 0))), ((a 24), .inl (q 0, 40, .inl (fun _ => 0))), ((a 25), .inl (q 0, 40, .inl (fun _ => 0))), ((a 26), .inl (q 0, 40, .inl (fun _ => 0))), ((a 27), .inl (q 1, 40, .inr (.inl (fun _ => 0)))), ((a 28), .inl (q 0, 0, .inl (fun _ => 0))), ((a 29), .inr (1, [.ref (a 30), .ref (a 31), .ref (a 32), .int 0, .int 0, .int 0, .int 0, .int 0, .int 0, .int 0, .int 0, .int 0])), ((a 30), .inl (q 0, 40, .inl (fun _ => 0))), ((a 31), .inl (q 0, 40, .inl (fun _ => 0))), ((a 32), .inl (q 0, 40, .inl (fun _ => 0))), ((a 33), .inr (3, [.ref (a 34), .ref (a 35), .ref (a 36), .ref (a 37), .ref (a 38), .ref (a 39), .ref (a 40), .int 0, .int 0, .int 0])), ((a 34), .inl (q 0, 80, .inl (fun _ => 0))), ((a 35), .inl (q 0, 80, .inl (fun _ => 0))), ((a 36), .inl (q 0, 80, .inl (fun _ => 0))), ((a 37), .inl (q 0, 80, .inl (fun _ => 0))), ((a 38), .inl (q 0, 80, .inl (fun _ => 0))), ((a 39), .inl (q 0, 3, .inl (fun _ => 0))), ((a 40), .inl (q 0, 3, .inl (fun _ => 0))), ((a 41), .inr (2, [.ref (a 42), .int 0, .int 0])), ((a 42), .inl (q 4, 10, .inr (.inr (.inr (.inr (fun _ => none)))))), ((a 43), .inl (q 4, 2, .inr (.inr (.inr (.inr (fun _ => none))))))]) [0, 1, 2, 3, 4, 5, 6, 7, 8, 9, 10, 11, 12, 13, 14, 15, 16, 17, 18, 19, 20, 21, 22, 23, 24, 25, 26, 27, 28, 29, 30, 31, 32, 33, 34, 35, 36, 37, 38, 39, 40, 41, 42, 43] rfl
  have hD := hD.sub (ws' := [((a 0), .inr (5, [.ref (a 1), .ref (a 3), .ref (a 16), .ref (a 29), .ref (a 33), .ref (a 41), .ref (a 43)])), ((a 1), .inr (4, [.ref (a 2), .int 0, .int 0, .int 0, .int 0, .int 0, .int 0])), ((a 2), .inl (q 0, 400, .inl (fun _ => 0))), ((a 3), .inr (0, [.int 0, .int 0, .int 0, .int 0, .int 0, .int 0, .ref (a 4), .ref (a 5), .ref (a 6), .ref (a 7), .ref (a 8), .ref (a 9), .ref (a 10), .ref (a 11), .ref (a 12), .ref (a 13), .ref (a 14), .ref (a 15)])), ((a 4), .inl (q 0, 4, .inl (fun _ => 0))), ((a 5), .inl (q 0, 4, .inl (fun _ => 0))), ((a 6), .inl (q 0, 160, .inl (fun _ => 0))), ((a 7), .inl (q 0, 40, .inl (fun _ => 0))), ((a 8), .inl (q 0, 40, .inl (fun _ => 0))), ((a 9), .inl (q 0, 40, .inl (fun _ => 0))), ((a 10), .inl (q 0, 40, .inl (fun _ => 0))), ((a 11), .inl (q 0, 40, .inl (fun _ => 0))), ((a 12), .inl (q 0, 40, .inl (fun _ => 0))), ((a 13), .inl (q 0, 40, .inl (fun _ => 0))), ((a 14), .inl (q 1, 40, .inr (.inl (fun _ => 0)))), ((a 15), .inl (q 0, 0, .inl (fun _ => 0))), ((a 16), .inr (0, [.int 0, .int 0, .int 0, .int 0, .int 0, .int 0, .ref (a 17), .ref (a 18), .ref (a 19), .ref (a 20), .ref (a 21), .ref (a 22), .ref (a 23), .ref (a 24), .ref (a 25), .ref (a 26), .ref (a 27), .ref (a 28)])), ((a 17), .inl (q 0, 4, .inl (fun _ => 0))), ((a 18), .inl (q 0, 4, .inl (fun _ => 0))), ((a 19), .inl (q 0, 160, .inl (fun _ => 0))), ((a 20), .inl (q 0, 40, .inl (fun _ => 0))), ((a 21), .inl (q 0, 40, .inl (fun _ => 0))), ((a 22), .inl (q 0, 40, .inl (fun _ => 0))), ((a 23), .inl (q 0, 40, .inl (fun _ => 0))), ((a 24), .inl (q 0, 40, .inl (fun _ => 0))), ((a 25), .inl (q 0, 40, .inl (fun _ => 0))), ((a 26), .inl (q 0, 40, .inl (fun _ => 0))), ((a 27), .inl (q 1, 40, .inr (.inl (fun _ => 0)))), ((a 28), .inl (q 0, 0, .inl (fun _ => 0))), ((a 29), .inr (1, [.ref (a 30), .ref (a 31), .ref (a 32), .int 0, .int 0, .int 0, .int 0, .int 0, .int 0, .int 0, .int 0, .int 0])), ((a 30), .inl (q 0, 40, .inl (fun _ => 0))), ((a 31), .inl (q 0, 40, .inl (fun _ => 0))), ((a 32), .inl (q 0, 40, .inl (fun _ => 0))), ((a 33), .inr (3, [.ref (a 34), .ref (a 35), .ref (a 36), .ref (a 37), .ref (a 38), .ref (a 39), .ref (a 40), .int 0, .int 0, .int 0])), ((a 34), .inl (q 0, 80, .inl (fun _ => 0))), ((a 35), .inl (q 0, 80, .inl (fun _ => 0))), ((a 36), .inl (q 0, 80, .inl (fun _ => 0))), ((a 37), .inl (q 0, 80, .inl (fun _ => 0))), ((a 38), .inl (q 0, 80, .inl (fun _ => 0))), ((a 39), .inl (q 0, 3, .inl (fun _ => 0))), ((a 40), .inl (q 0, 3, .inl (fun _ => 0))), ((a 41), .inr (2, [.ref (a 42), .int 0, .int 0])), ((a 42), .inl (q 4, 10, .inr (.inr (.inr (.inr (fun _ => none)))))), ((a 43), .inl (q 4, 2, .inr (.inr (.inr (.inr (fun _ => none))))))]) [0, 1, 2, 3, 4, 5, 6, 7, 8, 9, 10, 11, 12, 13, 14, 15, 16, 17, 18, 19, 20, 21, 22, 23, 24, 25, 26, 27, 28, 29, 30, 31, 32, 33, 34, 35, 36, 37, 38, 39, 40, 41, 42, 43] (by decide) rfl
  refine lv_aload_n hx hb dX6_run_0 rfl (lv_at hl 0 rfl) ?_
  refine vp_callSi (rd_wV (wc := [((a 0), .inr (5, [.ref (a 1), .ref (a 3), .ref (a 16), .ref (a 29), .ref (a 33), .ref (a 41), .ref (a 43)])), ((a 1), .inr (4, [.ref (a 2), .int 0, .int 0, .int 0, .int 0, .int 0, .int 0])), ((a 2), .inl (q 0, 400, .inl (fun _ => 0))), ((a 3), .inr (0, [.int 0, .int 0, .int 0, .int 0, .int 0, .int 0, .ref (a 4), .ref (a 5), .ref (a 6), .ref (a 7), .ref (a 8), .ref (a 9), .ref (a 10), .ref (a 11), .ref (a 12), .ref (a 13), .ref (a 14), .ref (a 15)])), ((a 4), .inl (q 0, 4, .inl (fun _ => 0))), ((a 5), .inl (q 0, 4, .inl (fun _ => 0))), ((a 6), .inl (q 0, 160, .inl (fun _ => 0))), ((a 7), .inl (q 0, 40, .inl (fun _ => 0))), ((a 8), .inl (q 0, 40, .inl (fun _ => 0))), ((a 9), .inl (q 0, 40, .inl (fun _ => 0))), ((a 10), .inl (q 0, 40, .inl (fun _ => 0))), ((a 11), .inl (q 0, 40, .inl (fun _ => 0))), ((a 12), .inl (q 0, 40, .inl (fun _ => 0))), ((a 13), .inl (q 0, 40, .inl (fun _ => 0))), ((a 14), .inl (q 1, 40, .inr (.inl (fun _ => 0)))), ((a 15), .inl (q 0, 0, .inl (fun _ => 0))), ((a 16), .inr (0, [.int 0, .int 0, .int 0, .int 0, .int 0, .int 0, .ref (a 17), .ref (a 18), .ref (a 19), .ref (a 20), .ref (a 21), .ref (a 22), .ref (a 23), .ref (a 24), .ref (a 25), .ref (a 26), .ref (a 27), .ref (a 28)])), ((a 17), .inl (q 0, 4, .inl (fun _ => 0))), ((a 18), .inl (q 0, 4, .inl (fun _ => 0))), ((a 19), .inl (q 0, 160, .inl (fun _ => 0))), ((a 20), .inl (q 0, 40, .inl (fun _ => 0))), ((a 21), .inl (q 0, 40, .inl (fun _ => 0))), ((a 22), .inl (q 0, 40, .inl (fun _ => 0))), ((a 23), .inl (q 0, 40, .inl (fun _ => 0))), ((a 24), .inl (q 0, 40, .inl (fun _ => 0))), ((a 25), .inl (q 0, 40, .inl (fun _ => 0))), ((a 26), .inl (q 0, 40, .inl (fun _ => 0))), ((a 27), .inl (q 1, 40, .inr (.inl (fun _ => 0)))), ((a 28), .inl (q 0, 0, .inl (fun _ => 0))), ((a 29), .inr (1, [.ref (a 30), .ref (a 31), .ref (a 32), .int 0, .int 0, .int 0, .int 0, .int 0, .int 0, .int 0, .int 0, .int 0])), ((a 30), .inl (q 0, 40, .inl (fun _ => 0))), ((a 31), .inl (q 0, 40, .inl (fun _ => 0))), ((a 32), .inl (q 0, 40, .inl (fun _ => 0))), ((a 33), .inr (3, [.ref (a 34), .ref (a 35), .ref (a 36), .ref (a 37), .ref (a 38), .ref (a 39), .ref (a 40), .int 0, .int 0, .int 0])), ((a 34), .inl (q 0, 80, .inl (fun _ => 0))), ((a 35), .inl (q 0, 80, .inl (fun _ => 0))), ((a 36), .inl (q 0, 80, .inl (fun _ => 0))), ((a 37), .inl (q 0, 80, .inl (fun _ => 0))), ((a 38), .inl (q 0, 80, .inl (fun _ => 0))), ((a 39), .inl (q 0, 3, .inl (fun _ => 0))), ((a 40), .inl (q 0, 3, .inl (fun _ => 0))), ((a 41), .inr (2, [.ref (a 42), .int 0, .int 0])), ((a 42), .inl (q 4, 10, .inr (.inr (.inr (.inr (fun _ => none)))))), ((a 43), .inl (q 4, 2, .inr (.inr (.inr (.inr (fun _ => none))))))]) (As := []) (rest := []) hx hb hml hown ht (cf_whyNotProgram) wd_X6_whyNotProgram mw_785 hQ (hP.sub [0, 1, 2, 3, 4, 5, 6, 7, 8, 9, 10, 11, 12, 13, 14, 15, 16, 17, 18, 19, 20, 21, 22, 23, 24, 25, 26, 27, 28, 29, 30, 31, 32, 33, 34, 35, 36, 37, 38, 39, 40, 41, 42, 43] rfl) rfl rfl rfl hl.1 rfl (Nat.le_of_ble_eq_true rfl) dX6_run_1 ⟨Nat.le_of_ble_eq_true rfl, Nat.le_of_ble_eq_true rfl, rfl, rfl⟩ ⟨Nat.le_of_ble_eq_true rfl, Nat.le_of_ble_eq_true rfl⟩) (fun r_1 er_1 => ?_)
  obtain rfl : r_1 = (-1) := er_1
  refine lv_istore_n (lv' := [(1, .int (-1)), (0, .ref (a 0))]) hx hb dX6_run_4 rfl hl (by decide) rfl (fun ls hl => ?_)
  refine lv_iload_n hx hb dX6_run_5 rfl (lv_at hl 0 rfl) ?_
  refine lv_if_ne (tgt := 25) hx hb dX6_run_6 (by decide) (fun c_2 => ?_) (fun c9 => absurd c9 (by decide))
  refine lv_aload_n hx hb dX6_run_25 rfl (lv_at hl 1 rfl) ?_
  refine fl_get (C := RX6) (T := TX6) (N := 7) (ci := 5) (v := .ref (a 1)) hx hb ht in_X6 hown hK hP 0 rfl rfl 0 (by decide) mw_355 rfl dX6_run_26 ?_
  refine lv_iconst (v := 0) hx hb dX6_run_29 (by decide) ?_
  refine fl_put (C := RX5) (T := TX5) (N := 7) (ci := 4) (v := .int 0) (ws2 := [((a 0), .inr (5, [.ref (a 1), .ref (a 3), .ref (a 16), .ref (a 29), .ref (a 33), .ref (a 41), .ref (a 43)])), ((a 1), .inr (4, [.ref (a 2), .int 0, .int 0, .int 0, .int 0, .int 0, .int 0])), ((a 2), .inl (q 0, 400, .inl (fun _ => 0))), ((a 3), .inr (0, [.int 0, .int 0, .int 0, .int 0, .int 0, .int 0, .ref (a 4), .ref (a 5), .ref (a 6), .ref (a 7), .ref (a 8), .ref (a 9), .ref (a 10), .ref (a 11), .ref (a 12), .ref (a 13), .ref (a 14), .ref (a 15)])), ((a 4), .inl (q 0, 4, .inl (fun _ => 0))), ((a 5), .inl (q 0, 4, .inl (fun _ => 0))), ((a 6), .inl (q 0, 160, .inl (fun _ => 0))), ((a 7), .inl (q 0, 40, .inl (fun _ => 0))), ((a 8), .inl (q 0, 40, .inl (fun _ => 0))), ((a 9), .inl (q 0, 40, .inl (fun _ => 0))), ((a 10), .inl (q 0, 40, .inl (fun _ => 0))), ((a 11), .inl (q 0, 40, .inl (fun _ => 0))), ((a 12), .inl (q 0, 40, .inl (fun _ => 0))), ((a 13), .inl (q 0, 40, .inl (fun _ => 0))), ((a 14), .inl (q 1, 40, .inr (.inl (fun _ => 0)))), ((a 15), .inl (q 0, 0, .inl (fun _ => 0))), ((a 16), .inr (0, [.int 0, .int 0, .int 0, .int 0, .int 0, .int 0, .ref (a 17), .ref (a 18), .ref (a 19), .ref (a 20), .ref (a 21), .ref (a 22), .ref (a 23), .ref (a 24), .ref (a 25), .ref (a 26), .ref (a 27), .ref (a 28)])), ((a 17), .inl (q 0, 4, .inl (fun _ => 0))), ((a 18), .inl (q 0, 4, .inl (fun _ => 0))), ((a 19), .inl (q 0, 160, .inl (fun _ => 0))), ((a 20), .inl (q 0, 40, .inl (fun _ => 0))), ((a 21), .inl (q 0, 40, .inl (fun _ => 0))), ((a 22), .inl (q 0, 40, .inl (fun _ => 0))), ((a 23), .inl (q 0, 40, .inl (fun _ => 0))), ((a 24), .inl (q 0, 40, .inl (fun _ => 0))), ((a 25), .inl (q 0, 40, .inl (fun _ => 0))), ((a 26), .inl (q 0, 40, .inl (fun _ => 0))), ((a 27), .inl (q 1, 40, .inr (.inl (fun _ => 0)))), ((a 28), .inl (q 0, 0, .inl (fun _ => 0))), ((a 29), .inr (1, [.ref (a 30), .ref (a 31), .ref (a 32), .int 0, .int 0, .int 0, .int 0, .int 0, .int 0, .int 0, .int 0, .int 0])), ((a 30), .inl (q 0, 40, .inl (fun _ => 0))), ((a 31), .inl (q 0, 40, .inl (fun _ => 0))), ((a 32), .inl (q 0, 40, .inl (fun _ => 0))), ((a 33), .inr (3, [.ref (a 34), .ref (a 35), .ref (a 36), .ref (a 37), .ref (a 38), .ref (a 39), .ref (a 40), .int 0, .int 0, .int 0])), ((a 34), .inl (q 0, 80, .inl (fun _ => 0))), ((a 35), .inl (q 0, 80, .inl (fun _ => 0))), ((a 36), .inl (q 0, 80, .inl (fun _ => 0))), ((a 37), .inl (q 0, 80, .inl (fun _ => 0))), ((a 38), .inl (q 0, 80, .inl (fun _ => 0))), ((a 39), .inl (q 0, 3, .inl (fun _ => 0))), ((a 40), .inl (q 0, 3, .inl (fun _ => 0))), ((a 41), .inr (2, [.ref (a 42), .int 0, .int 0])), ((a 42), .inl (q 4, 10, .inr (.inr (.inr (.inr (fun _ => none)))))), ((a 43), .inl (q 4, 2, .inr (.inr (.inr (.inr (fun _ => none))))))]) hx hb ht in_X5 tyX5_ok nmX5 hown hK hP hD hS 1 rfl rfl 1 (by decide) mw_129 rfl rfl rfl (Nat.le_of_ble_eq_true rfl) dX6_run_30 rfl (fun H locs hP hD hS => ?_)
  refine lv_iload_n hx hb dX6_run_33 rfl (lv_at hl 0 rfl) ?_
  have hP := hP.sub (ws' := []) [] rfl
  have hD := hD.sub (ws' := []) [] (by decide) rfl
  exact mt_iret () hx hb hr hk (rfl) hP hD hS dX6_run_34

set_option maxHeartbeats 4000000 in
set_option maxRecDepth 100000 in
theorem cf_back {l : Launch} {D : va_G} {q : Nat → ClassId} {a : Nat → Nat} {x : Int32} : Met l yX6_back (Cond.code yX6_back cX6_back 3 (some .int) :: w_all) ({ frames := 1, cells := 0, slots := 0, locals := 20 }) (rd_P D q [.ref (a 0), .int x] (fb_w a q)) (vp_Si (fun r => (0 ≤ x ∧ x ≤ 1 → r = (-2)) ∧ (¬ (0 ≤ x ∧ x ≤ 1) → r = (-1)))) 0 0 (fun _ => False) := by
  refine rd_start (by decide) (Nat.le_of_ble_eq_true rfl) ?_
  intro p e s m below meth c ls hx hb hr hml hown ht hk hP hQ hl
  have hK := hQ.1
  have hown : s.vm.findClass RX6 = some m.cls := hown
  have hl : lv_has ls 3 [(0, .ref (a 0)), (1, .int x)] := hl
  have hP := hP.sub (ws' := [((a 0), .inr (5, [.ref (a 1), .ref (a 3), .ref (a 16), .ref (a 29), .ref (a 33), .ref (a 41), .ref (a 43)])), ((a 43), .inl (q 4, 2, .inr (.inr (.inr (.inr (fun _ => none))))))]) [0, 43] rfl
  refine lv_iload_n hx hb dX6_back_0 rfl (lv_at hl 1 rfl) ?_
  by_cases k_1 : 0 ≤ x ∧ x ≤ 1
  · refine vp_callSi (rd_wS (wc := []) (As := [.int x]) (rest := []) hx hb hml hown ht (ct_isShelf_T k_1) wd_X6_isShelf mw_881 hQ (hP.sub [] rfl) rfl hl.1 rfl (Nat.le_of_ble_eq_true rfl) dX6_back_1 ⟨Nat.le_of_ble_eq_true rfl, Nat.le_of_ble_eq_true rfl, rfl, rfl⟩ ⟨Nat.le_of_ble_eq_true rfl, Nat.le_of_ble_eq_true rfl⟩) (fun r_2 er_2 => ?_)
    obtain rfl : r_2 = 1 := er_2
    refine lv_if_ne (tgt := 9) hx hb dX6_back_4 (by decide) (fun c_3 => ?_) (fun c9 => absurd c9 (by decide))
    refine lv_aload_n hx hb dX6_back_9 rfl (lv_at hl 0 rfl) ?_
    refine fl_get (C := RX6) (T := TX6) (N := 7) (ci := 5) (v := .ref (a 43)) hx hb ht in_X6 hown hK hP 0 rfl rfl 6 (by decide) mw_361 rfl dX6_back_10 ?_
    refine lv_iload_n hx hb dX6_back_13 rfl (lv_at hl 1 rfl) ?_
    refine va_aldq hx hb hK hP 1 4 rfl rfl (in_r (by have g0 := k_1; have g1 := c_3; (try simp only [lg_cmp_ge, lg_cmp_le, lg_cmp_gt, lg_cmp_lt, lg_cmp_eq] at g0 g1); (try simp only [Int32.lt_iff_toInt_lt, Int32.le_iff_toInt_le, ← Int32.toInt_inj, Int32.reduceToInt, Int64.lt_iff_toInt_lt, Int64.le_iff_toInt_le, ← Int64.toInt_inj, Int64.reduceToInt, Int32.toInt_toInt64] at g0 g1 ⊢); omega) (by have g0 := k_1; have g1 := c_3; (try simp only [lg_cmp_ge, lg_cmp_le, lg_cmp_gt, lg_cmp_lt, lg_cmp_eq] at g0 g1); (try simp only [Int32.lt_iff_toInt_lt, Int32.le_iff_toInt_le, ← Int32.toInt_inj, Int32.reduceToInt, Int64.lt_iff_toInt_lt, Int64.le_iff_toInt_le, ← Int64.toInt_inj, Int64.reduceToInt, Int32.toInt_toInt64] at g0 g1 ⊢); omega)) dX6_back_14 ?_
    refine ab_null ?_
    refine lv_astore_nN (lv' := [(2, .null), (0, .ref (a 0)), (1, .int x)]) hx hb dX6_back_15 rfl hl (by decide) rfl (fun ls hl => ?_)
    refine lv_aload_nN hx hb dX6_back_16 rfl (lv_at hl 0 rfl) ?_
    refine lv_ifnonnullN hx hb dX6_back_17 ?_
    refine lv_bipush (v := (-2)) hx hb dX6_back_20 (by decide) ?_
    exact rd_iret hx hb hr hk (by refine ⟨fun h9 => ?_, fun h9 => ?_⟩ <;> first | rfl | exact h9 | (exfalso; have g0 := k_1; have g1 := c_3; have g2 := h9; (try simp only [lg_cmp_ge, lg_cmp_le, lg_cmp_gt, lg_cmp_lt, lg_cmp_eq] at g0 g1 g2); (try simp only [Int32.lt_iff_toInt_lt, Int32.le_iff_toInt_le, ← Int32.toInt_inj, Int32.reduceToInt, Int64.lt_iff_toInt_lt, Int64.le_iff_toInt_le, ← Int64.toInt_inj, Int64.reduceToInt, Int32.toInt_toInt64] at g0 g1 g2); omega)) dX6_back_22
  · refine vp_callSi (rd_wS (wc := []) (As := [.int x]) (rest := []) hx hb hml hown ht (ct_isShelf_F k_1) wd_X6_isShelf mw_881 hQ (hP.sub [] rfl) rfl hl.1 rfl (Nat.le_of_ble_eq_true rfl) dX6_back_1 ⟨Nat.le_of_ble_eq_true rfl, Nat.le_of_ble_eq_true rfl, rfl, rfl⟩ ⟨Nat.le_of_ble_eq_true rfl, Nat.le_of_ble_eq_true rfl⟩) (fun r_4 er_4 => ?_)
    obtain rfl : r_4 = 0 := er_4
    refine lv_if_ne (tgt := 9) hx hb dX6_back_4 (by decide) (fun c9 => absurd c9 (by decide)) (fun c_5 => ?_)
    refine lv_iconst (v := (-1)) hx hb dX6_back_7 (by decide) ?_
    exact rd_iret hx hb hr hk (by refine ⟨fun h9 => ?_, fun h9 => ?_⟩ <;> first | rfl | exact h9 | (exfalso; have g0 := k_1; have g1 := c_5; have g2 := h9; (try simp only [lg_cmp_ge, lg_cmp_le, lg_cmp_gt, lg_cmp_lt, lg_cmp_eq] at g0 g1 g2); (try simp only [Int32.lt_iff_toInt_lt, Int32.le_iff_toInt_le, ← Int32.toInt_inj, Int32.reduceToInt, Int64.lt_iff_toInt_lt, Int64.le_iff_toInt_le, ← Int64.toInt_inj, Int64.reduceToInt, Int32.toInt_toInt64] at g0 g1 g2); omega)) dX6_back_8

set_option maxHeartbeats 4000000 in
set_option maxRecDepth 100000 in
theorem cf_letter {l : Launch} {D : va_G} {q : Nat → ClassId} {a : Nat → Nat} {x : Int32} {y : Int32} : Met l yX6_letter (Cond.code yX6_letter cX6_letter 6 (some .int) :: w_all) ({ frames := 1, cells := 0, slots := 0, locals := 20 }) (rd_P D q [.ref (a 0), .int x, .int y] (fb_w a q)) (vp_Si (fun r => (¬ (0 ≤ x ∧ x ≤ 1) ∨ y < (-1) → r = (-1)) ∧ ((0 ≤ x ∧ x ≤ 1) ∧ y = (-1) → r = 0) ∧ ((0 ≤ x ∧ x ≤ 1) ∧ 0 ≤ y → r = (-2)))) 0 0 (fun _ => False) := by
  refine rd_start (by decide) (Nat.le_of_ble_eq_true rfl) ?_
  intro p e s m below meth c ls hx hb hr hml hown ht hk hP hQ hl
  have hK := hQ.1
  have hown : s.vm.findClass RX6 = some m.cls := hown
  have hl : lv_has ls 6 [(0, .ref (a 0)), (1, .int x), (2, .int y)] := hl
  have hP := hP.sub (ws' := [((a 0), .inr (5, [.ref (a 1), .ref (a 3), .ref (a 16), .ref (a 29), .ref (a 33), .ref (a 41), .ref (a 43)])), ((a 3), .inr (0, [.int 0, .int 0, .int 0, .int 0, .int 0, .int 0, .ref (a 4), .ref (a 5), .ref (a 6), .ref (a 7), .ref (a 8), .ref (a 9), .ref (a 10), .ref (a 11), .ref (a 12), .ref (a 13), .ref (a 14), .ref (a 15)]))]) [0, 3] rfl
  refine lv_iload_n hx hb dX6_letter_0 rfl (lv_at hl 1 rfl) ?_
  refine lv_if_lt (tgt := 14) hx hb dX6_letter_1 (by decide) (fun c_1 => ?_) (fun c_1 => ?_)
  · refine lv_iconst (v := (-1)) hx hb dX6_letter_14 (by decide) ?_
    exact rd_iret hx hb hr hk (by refine ⟨fun h9 => ?_, fun h9 => ?_, fun h9 => ?_⟩ <;> first | rfl | (exfalso; have g0 := c_1; have g1 := h9; (try simp only [lg_cmp_ge, lg_cmp_le, lg_cmp_gt, lg_cmp_lt, lg_cmp_eq] at g0 g1); (try simp only [Int32.lt_iff_toInt_lt, Int32.le_iff_toInt_le, ← Int32.toInt_inj, Int32.reduceToInt, Int64.lt_iff_toInt_lt, Int64.le_iff_toInt_le, ← Int64.toInt_inj, Int64.reduceToInt, Int32.toInt_toInt64] at g0 g1); omega)) dX6_letter_15
  · refine lv_iload_n hx hb dX6_letter_4 rfl (lv_at hl 1 rfl) ?_
    refine lv_iconst (v := 1) hx hb dX6_letter_5 (by decide) ?_
    refine lv_icmp_gt (tgt := 14) hx hb dX6_letter_6 (by decide) (fun c_2 => ?_) (fun c_2 => ?_)
    · refine lv_iconst (v := (-1)) hx hb dX6_letter_14 (by decide) ?_
      exact rd_iret hx hb hr hk (by refine ⟨fun h9 => ?_, fun h9 => ?_, fun h9 => ?_⟩ <;> first | rfl | (exfalso; have g0 := c_1; have g1 := c_2; have g2 := h9; (try simp only [lg_cmp_ge, lg_cmp_le, lg_cmp_gt, lg_cmp_lt, lg_cmp_eq] at g0 g1 g2); (try simp only [Int32.lt_iff_toInt_lt, Int32.le_iff_toInt_le, ← Int32.toInt_inj, Int32.reduceToInt, Int64.lt_iff_toInt_lt, Int64.le_iff_toInt_le, ← Int64.toInt_inj, Int64.reduceToInt, Int32.toInt_toInt64] at g0 g1 g2); omega)) dX6_letter_15
    · refine lv_iload_n hx hb dX6_letter_9 rfl (lv_at hl 2 rfl) ?_
      refine lv_iconst (v := (-1)) hx hb dX6_letter_10 (by decide) ?_
      refine lv_icmp_ge (tgt := 16) hx hb dX6_letter_11 (by decide) (fun c_3 => ?_) (fun c_3 => ?_)
      · refine lv_aload_n hx hb dX6_letter_16 rfl (lv_at hl 0 rfl) ?_
        refine fl_get (C := RX6) (T := TX6) (N := 7) (ci := 5) (v := .ref (a 3)) hx hb ht in_X6 hown hK hP 0 rfl rfl 1 (by decide) mw_356 rfl dX6_letter_17 ?_
        refine vp_callSi (rd_wV (wc := [((a 3), .inr (0, [.int 0, .int 0, .int 0, .int 0, .int 0, .int 0, .ref (a 4), .ref (a 5), .ref (a 6), .ref (a 7), .ref (a 8), .ref (a 9), .ref (a 10), .ref (a 11), .ref (a 12), .ref (a 13), .ref (a 14), .ref (a 15)]))]) (As := []) (rest := []) hx hb hml hown ht (ct_Board_isThere) wd_X0_isThere mw_677 hQ (hP.sub [1] rfl) rfl rfl rfl hl.1 rfl (Nat.le_of_ble_eq_true rfl) dX6_letter_20 ⟨Nat.le_of_ble_eq_true rfl, Nat.le_of_ble_eq_true rfl, rfl, rfl⟩ ⟨Nat.le_of_ble_eq_true rfl, Nat.le_of_ble_eq_true rfl⟩) (fun r_4 er_4 => ?_)
        obtain rfl : r_4 = 0 := er_4
        refine lv_if_eq (tgt := 46) hx hb dX6_letter_23 (by decide) (fun c_5 => ?_) (fun c9 => absurd (by decide) c9)
        refine lv_iconst (v := 0) hx hb dX6_letter_46 (by decide) ?_
        refine lv_istore_n (lv' := [(3, .int 0), (0, .ref (a 0)), (1, .int x), (2, .int y)]) hx hb dX6_letter_47 rfl hl (by decide) rfl (fun ls hl => ?_)
        refine lv_iload_n hx hb dX6_letter_48 rfl (lv_at hl 3 rfl) ?_
        refine lv_iconst (v := (-1)) hx hb dX6_letter_49 (by decide) ?_
        refine lv_icmp_ne (tgt := 55) hx hb dX6_letter_50 (by decide) (fun c_6 => ?_) (fun c_6 => ?_)
        · refine lv_iload_n hx hb dX6_letter_55 rfl (lv_at hl 3 rfl) ?_
          refine lv_iload_n hx hb dX6_letter_56 rfl (lv_at hl 0 rfl) ?_
          refine lv_icmp_lt (tgt := 63) hx hb dX6_letter_57 (by decide) (fun c9 => by have g0 := c_1; have g1 := c_2; have g2 := c_3; have g3 := c_5; have g4 := c_6; have g5 := c9; (try simp only [lg_cmp_ge, lg_cmp_le, lg_cmp_gt, lg_cmp_lt, lg_cmp_eq] at g0 g1 g2 g3 g4 g5); (try simp only [Int32.lt_iff_toInt_lt, Int32.le_iff_toInt_le, ← Int32.toInt_inj, Int32.reduceToInt, Int64.lt_iff_toInt_lt, Int64.le_iff_toInt_le, ← Int64.toInt_inj, Int64.reduceToInt, Int32.toInt_toInt64] at g0 g1 g2 g3 g4 g5); omega) (fun c_7 => ?_)
          refine lv_bipush (v := (-2)) hx hb dX6_letter_60 (by decide) ?_
          exact rd_iret hx hb hr hk (by refine ⟨fun h9 => ?_, fun h9 => ?_, fun h9 => ?_⟩ <;> first | rfl | (exfalso; have g0 := c_1; have g1 := c_2; have g2 := c_3; have g3 := c_5; have g4 := c_6; have g5 := c_7; have g6 := h9; (try simp only [lg_cmp_ge, lg_cmp_le, lg_cmp_gt, lg_cmp_lt, lg_cmp_eq] at g0 g1 g2 g3 g4 g5 g6); (try simp only [Int32.lt_iff_toInt_lt, Int32.le_iff_toInt_le, ← Int32.toInt_inj, Int32.reduceToInt, Int64.lt_iff_toInt_lt, Int64.le_iff_toInt_le, ← Int64.toInt_inj, Int64.reduceToInt, Int32.toInt_toInt64] at g0 g1 g2 g3 g4 g5 g6); omega)) dX6_letter_62
        · refine lv_iload_n hx hb dX6_letter_53 rfl (lv_at hl 0 rfl) ?_
          exact rd_iret hx hb hr hk (by refine ⟨fun h9 => ?_, fun h9 => ?_, fun h9 => ?_⟩ <;> first | rfl | (exfalso; have g0 := c_1; have g1 := c_2; have g2 := c_3; have g3 := c_5; have g4 := c_6; have g5 := h9; (try simp only [lg_cmp_ge, lg_cmp_le, lg_cmp_gt, lg_cmp_lt, lg_cmp_eq] at g0 g1 g2 g3 g4 g5); (try simp only [Int32.lt_iff_toInt_lt, Int32.le_iff_toInt_le, ← Int32.toInt_inj, Int32.reduceToInt, Int64.lt_iff_toInt_lt, Int64.le_iff_toInt_le, ← Int64.toInt_inj, Int64.reduceToInt, Int32.toInt_toInt64] at g0 g1 g2 g3 g4 g5); omega)) dX6_letter_54
      · refine lv_iconst (v := (-1)) hx hb dX6_letter_14 (by decide) ?_
        exact rd_iret hx hb hr hk (by refine ⟨fun h9 => ?_, fun h9 => ?_, fun h9 => ?_⟩ <;> first | rfl | (exfalso; have g0 := c_1; have g1 := c_2; have g2 := c_3; have g3 := h9; (try simp only [lg_cmp_ge, lg_cmp_le, lg_cmp_gt, lg_cmp_lt, lg_cmp_eq] at g0 g1 g2 g3); (try simp only [Int32.lt_iff_toInt_lt, Int32.le_iff_toInt_le, ← Int32.toInt_inj, Int32.reduceToInt, Int64.lt_iff_toInt_lt, Int64.le_iff_toInt_le, ← Int64.toInt_inj, Int64.reduceToInt, Int32.toInt_toInt64] at g0 g1 g2 g3); omega)) dX6_letter_15
end
section
set_option maxHeartbeats 4000000 in
set_option maxRecDepth 100000 in
theorem cf_feed {l : Launch} {D : va_G} {q : Nat → ClassId} {sz : Nat} {a : Nat → Nat} {x : Int32} {y : Int32} {z : Int32} {v : Int32} {w : Int32} : Met l yX6_feed (Cond.code yX6_feed cX6_feed 6 (some .int) :: w_all) ({ frames := 1, cells := 0, slots := 0, locals := 22 }) (mt_P D q [.ref (a 0), .int x, .int y, .int z, .int v, .int w] (fb_w a q) sz) (va_Qi (fun r (u : Unit) => r = 20) (mt_B D (fb_w a q) sz (fun _ => [])) (va_A (fb_w a q) sz)) 0 0 (va_A (fb_w a q) sz) := by
  refine mt_start (by decide) (Nat.le_of_ble_eq_true rfl) ?_
  intro p e s m below meth c ls hx hb hr hml hown ht hk hin hP hQ hD hA hS hl
  have hK := hQ.1
  have hown : s.vm.findClass RX6 = some m.cls := hown
  have hl : lv_has ls 6 [(0, .ref (a 0)), (1, .int x), (2, .int y), (3, .int z), (4, .int v), (5, .int w)] := hl
  have hP := hP.sub (ws' := [((a 0), .inr (5, [.ref (a 1), .ref (a 3), .ref (a 16), .ref (a 29), .ref (a 33), .ref (a 41), .ref (a 43)])), ((a 1), .inr (4, [.ref (a 2), .int 0, .int 0, .int 0, .int 0, .int 0, .int 0])), ((a 2), .inl (q 0, 400, .inl (fun _ => 0)))]) [0, 1, 2] rfl
  have hD := hD.sub (ws' := [((a 0), .inr (5, [.ref (a 1), .ref (a 3), .ref (a 16), .ref (a 29), .ref (a 33), .ref (a 41), .ref (a 43)])), ((a 1), .inr (4, [.ref (a 2), .int 0, .int 0, .int 0, .int 0, .int 0, .int 0])), ((a 2), .inl (q 0, 400, .inl (fun _ => 0)))]) [0, 1, 2] (by decide) rfl
  refine lv_aload_n hx hb dX6_feed_0 rfl (lv_at hl 0 rfl) ?_
  refine fl_get (C := RX6) (T := TX6) (N := 7) (ci := 5) (v := .ref (a 1)) hx hb ht in_X6 hown hK hP 0 rfl rfl 0 (by decide) mw_355 rfl dX6_feed_1 ?_
  refine fl_get (C := RX5) (T := TX5) (N := 7) (ci := 4) (v := .int 0) hx hb ht in_X5 hown hK hP 1 rfl rfl 1 (by decide) mw_129 rfl dX6_feed_4 ?_
  refine lv_bipush (v := 20) hx hb dX6_feed_7 (by decide) ?_
  refine lv_iadd hx hb dX6_feed_9 ?_
  refine ab_i (v := 20) (by decide) ?_
  refine lv_sipush (v := 400) hx hb dX6_feed_10 (by decide) ?_
  refine lv_icmp_le (tgt := 18) hx hb dX6_feed_13 (by decide) (fun c_1 => ?_) (fun c9 => absurd (by decide) c9)
  refine lv_aload_n hx hb dX6_feed_18 rfl (lv_at hl 0 rfl) ?_
  refine fl_get (C := RX6) (T := TX6) (N := 7) (ci := 5) (v := .ref (a 1)) hx hb ht in_X6 hown hK hP 0 rfl rfl 0 (by decide) mw_355 rfl dX6_feed_19 ?_
  refine lv_iload_n hx hb dX6_feed_22 rfl (lv_at hl 1 rfl) ?_
  refine mt_gov (mt_wV (wc := [((a 1), .inr (4, [.ref (a 2), .int 0, .int 0, .int 0, .int 0, .int 0, .int 0])), ((a 2), .inl (q 0, 400, .inl (fun _ => 0)))]) (As := [.int x]) (rest := []) hx hb hml hown ht (ct_addNumber_0) wd_X5_addNumber mw_381 hQ (hP.sub [1, 2] rfl) (hD.sub [1, 2] (by decide) rfl) rfl rfl rfl hl.1 rfl (Nat.le_of_ble_eq_true rfl) dX6_feed_23 ⟨Nat.le_of_ble_eq_true rfl, Nat.le_of_ble_eq_true rfl, rfl, rfl⟩ ⟨Nat.le_of_ble_eq_true rfl, Nat.le_of_ble_eq_true rfl⟩) (wr := [((a 0), .inr (5, [.ref (a 1), .ref (a 3), .ref (a 16), .ref (a 29), .ref (a 33), .ref (a 41), .ref (a 43)]))]) hP hD hS hA [1, 2] [0] rfl rfl (by decide) (by decide) (fun u_2 H locs hw hP hD hS => ?_)
  have hP : va_P D vwCl [((a 0), .inr (5, [.ref (a 1), .ref (a 3), .ref (a 16), .ref (a 29), .ref (a 33), .ref (a 41), .ref (a 43)])), ((a 1), .inr (4, [.ref (a 2), .int 4, .int 0, .int 0, .int 0, .int 0, .int 0])), ((a 2), .inl (q 0, 400, .inl u_2))] H := hP
  have hD : va_D _ [((a 0), .inr (5, [.ref (a 1), .ref (a 3), .ref (a 16), .ref (a 29), .ref (a 33), .ref (a 41), .ref (a 43)])), ((a 1), .inr (4, [.ref (a 2), .int 4, .int 0, .int 0, .int 0, .int 0, .int 0])), ((a 2), .inl (q 0, 400, .inl u_2))] := hD
  refine lv_aload_n hx hb dX6_feed_26 rfl (lv_at hl 0 rfl) ?_
  refine fl_get (C := RX6) (T := TX6) (N := 7) (ci := 5) (v := .ref (a 1)) hx hb ht in_X6 hown hK hP 0 rfl rfl 0 (by decide) mw_355 rfl dX6_feed_27 ?_
  refine lv_iload_n hx hb dX6_feed_30 rfl (lv_at hl 2 rfl) ?_
  refine mt_gov (mt_wV (wc := [((a 1), .inr (4, [.ref (a 2), .int 4, .int 0, .int 0, .int 0, .int 0, .int 0])), ((a 2), .inl (q 0, 400, .inl u_2))]) (As := [.int y]) (rest := []) hx hb hml hown ht (ct_addNumber_4) wd_X5_addNumber mw_381 hQ (hP.sub [1, 2] rfl) (hD.sub [1, 2] (by decide) rfl) rfl rfl rfl hl.1 rfl (Nat.le_of_ble_eq_true rfl) dX6_feed_31 ⟨Nat.le_of_ble_eq_true rfl, Nat.le_of_ble_eq_true rfl, rfl, rfl⟩ ⟨Nat.le_of_ble_eq_true rfl, Nat.le_of_ble_eq_true rfl⟩) (wr := [((a 0), .inr (5, [.ref (a 1), .ref (a 3), .ref (a 16), .ref (a 29), .ref (a 33), .ref (a 41), .ref (a 43)]))]) hP hD hS hA [1, 2] [0] rfl rfl (by decide) (by decide) (fun u_4 H locs hw hP hD hS => ?_)
  have hP : va_P D vwCl [((a 0), .inr (5, [.ref (a 1), .ref (a 3), .ref (a 16), .ref (a 29), .ref (a 33), .ref (a 41), .ref (a 43)])), ((a 1), .inr (4, [.ref (a 2), .int 8, .int 0, .int 0, .int 0, .int 0, .int 0])), ((a 2), .inl (q 0, 400, .inl u_4))] H := hP
  have hD : va_D _ [((a 0), .inr (5, [.ref (a 1), .ref (a 3), .ref (a 16), .ref (a 29), .ref (a 33), .ref (a 41), .ref (a 43)])), ((a 1), .inr (4, [.ref (a 2), .int 8, .int 0, .int 0, .int 0, .int 0, .int 0])), ((a 2), .inl (q 0, 400, .inl u_4))] := hD
  refine lv_aload_n hx hb dX6_feed_34 rfl (lv_at hl 0 rfl) ?_
  refine fl_get (C := RX6) (T := TX6) (N := 7) (ci := 5) (v := .ref (a 1)) hx hb ht in_X6 hown hK hP 0 rfl rfl 0 (by decide) mw_355 rfl dX6_feed_35 ?_
  refine lv_iload_n hx hb dX6_feed_38 rfl (lv_at hl 3 rfl) ?_
  refine mt_gov (mt_wV (wc := [((a 1), .inr (4, [.ref (a 2), .int 8, .int 0, .int 0, .int 0, .int 0, .int 0])), ((a 2), .inl (q 0, 400, .inl u_4))]) (As := [.int z]) (rest := []) hx hb hml hown ht (ct_addNumber_8) wd_X5_addNumber mw_381 hQ (hP.sub [1, 2] rfl) (hD.sub [1, 2] (by decide) rfl) rfl rfl rfl hl.1 rfl (Nat.le_of_ble_eq_true rfl) dX6_feed_39 ⟨Nat.le_of_ble_eq_true rfl, Nat.le_of_ble_eq_true rfl, rfl, rfl⟩ ⟨Nat.le_of_ble_eq_true rfl, Nat.le_of_ble_eq_true rfl⟩) (wr := [((a 0), .inr (5, [.ref (a 1), .ref (a 3), .ref (a 16), .ref (a 29), .ref (a 33), .ref (a 41), .ref (a 43)]))]) hP hD hS hA [1, 2] [0] rfl rfl (by decide) (by decide) (fun u_6 H locs hw hP hD hS => ?_)
  have hP : va_P D vwCl [((a 0), .inr (5, [.ref (a 1), .ref (a 3), .ref (a 16), .ref (a 29), .ref (a 33), .ref (a 41), .ref (a 43)])), ((a 1), .inr (4, [.ref (a 2), .int 12, .int 0, .int 0, .int 0, .int 0, .int 0])), ((a 2), .inl (q 0, 400, .inl u_6))] H := hP
  have hD : va_D _ [((a 0), .inr (5, [.ref (a 1), .ref (a 3), .ref (a 16), .ref (a 29), .ref (a 33), .ref (a 41), .ref (a 43)])), ((a 1), .inr (4, [.ref (a 2), .int 12, .int 0, .int 0, .int 0, .int 0, .int 0])), ((a 2), .inl (q 0, 400, .inl u_6))] := hD
  refine lv_aload_n hx hb dX6_feed_42 rfl (lv_at hl 0 rfl) ?_
  refine fl_get (C := RX6) (T := TX6) (N := 7) (ci := 5) (v := .ref (a 1)) hx hb ht in_X6 hown hK hP 0 rfl rfl 0 (by decide) mw_355 rfl dX6_feed_43 ?_
  refine lv_iload hx hb dX6_feed_46 (lv_at hl 4 rfl) ?_
  refine mt_gov (mt_wV (wc := [((a 1), .inr (4, [.ref (a 2), .int 12, .int 0, .int 0, .int 0, .int 0, .int 0])), ((a 2), .inl (q 0, 400, .inl u_6))]) (As := [.int v]) (rest := []) hx hb hml hown ht (ct_addNumber_12) wd_X5_addNumber mw_381 hQ (hP.sub [1, 2] rfl) (hD.sub [1, 2] (by decide) rfl) rfl rfl rfl hl.1 rfl (Nat.le_of_ble_eq_true rfl) dX6_feed_48 ⟨Nat.le_of_ble_eq_true rfl, Nat.le_of_ble_eq_true rfl, rfl, rfl⟩ ⟨Nat.le_of_ble_eq_true rfl, Nat.le_of_ble_eq_true rfl⟩) (wr := [((a 0), .inr (5, [.ref (a 1), .ref (a 3), .ref (a 16), .ref (a 29), .ref (a 33), .ref (a 41), .ref (a 43)]))]) hP hD hS hA [1, 2] [0] rfl rfl (by decide) (by decide) (fun u_8 H locs hw hP hD hS => ?_)
  have hP : va_P D vwCl [((a 0), .inr (5, [.ref (a 1), .ref (a 3), .ref (a 16), .ref (a 29), .ref (a 33), .ref (a 41), .ref (a 43)])), ((a 1), .inr (4, [.ref (a 2), .int 16, .int 0, .int 0, .int 0, .int 0, .int 0])), ((a 2), .inl (q 0, 400, .inl u_8))] H := hP
  have hD : va_D _ [((a 0), .inr (5, [.ref (a 1), .ref (a 3), .ref (a 16), .ref (a 29), .ref (a 33), .ref (a 41), .ref (a 43)])), ((a 1), .inr (4, [.ref (a 2), .int 16, .int 0, .int 0, .int 0, .int 0, .int 0])), ((a 2), .inl (q 0, 400, .inl u_8))] := hD
  refine lv_aload_n hx hb dX6_feed_51 rfl (lv_at hl 0 rfl) ?_
  refine fl_get (C := RX6) (T := TX6) (N := 7) (ci := 5) (v := .ref (a 1)) hx hb ht in_X6 hown hK hP 0 rfl rfl 0 (by decide) mw_355 rfl dX6_feed_52 ?_
  refine lv_iload hx hb dX6_feed_55 (lv_at hl 5 rfl) ?_
  refine mt_gov (mt_wV (wc := [((a 1), .inr (4, [.ref (a 2), .int 16, .int 0, .int 0, .int 0, .int 0, .int 0])), ((a 2), .inl (q 0, 400, .inl u_8))]) (As := [.int w]) (rest := []) hx hb hml hown ht (ct_addNumber_16) wd_X5_addNumber mw_381 hQ (hP.sub [1, 2] rfl) (hD.sub [1, 2] (by decide) rfl) rfl rfl rfl hl.1 rfl (Nat.le_of_ble_eq_true rfl) dX6_feed_57 ⟨Nat.le_of_ble_eq_true rfl, Nat.le_of_ble_eq_true rfl, rfl, rfl⟩ ⟨Nat.le_of_ble_eq_true rfl, Nat.le_of_ble_eq_true rfl⟩) (wr := [((a 0), .inr (5, [.ref (a 1), .ref (a 3), .ref (a 16), .ref (a 29), .ref (a 33), .ref (a 41), .ref (a 43)]))]) hP hD hS hA [1, 2] [0] rfl rfl (by decide) (by decide) (fun u_10 H locs hw hP hD hS => ?_)
  have hP : va_P D vwCl [((a 0), .inr (5, [.ref (a 1), .ref (a 3), .ref (a 16), .ref (a 29), .ref (a 33), .ref (a 41), .ref (a 43)])), ((a 1), .inr (4, [.ref (a 2), .int 20, .int 0, .int 0, .int 0, .int 0, .int 0])), ((a 2), .inl (q 0, 400, .inl u_10))] H := hP
  have hD : va_D _ [((a 0), .inr (5, [.ref (a 1), .ref (a 3), .ref (a 16), .ref (a 29), .ref (a 33), .ref (a 41), .ref (a 43)])), ((a 1), .inr (4, [.ref (a 2), .int 20, .int 0, .int 0, .int 0, .int 0, .int 0])), ((a 2), .inl (q 0, 400, .inl u_10))] := hD
  refine lv_aload_n hx hb dX6_feed_60 rfl (lv_at hl 0 rfl) ?_
  refine fl_get (C := RX6) (T := TX6) (N := 7) (ci := 5) (v := .ref (a 1)) hx hb ht in_X6 hown hK hP 0 rfl rfl 0 (by decide) mw_355 rfl dX6_feed_61 ?_
  refine fl_get (C := RX5) (T := TX5) (N := 7) (ci := 4) (v := .int 20) hx hb ht in_X5 hown hK hP 1 rfl rfl 1 (by decide) mw_129 rfl dX6_feed_64 ?_
  have hP := hP.sub (ws' := []) [] rfl
  have hD := hD.sub (ws' := []) [] (by decide) rfl
  exact mt_iret () hx hb hr hk (rfl) hP hD hS dX6_feed_67

set_option maxHeartbeats 4000000 in
set_option maxRecDepth 100000 in
theorem cf_count {l : Launch} {D : va_G} {q : Nat → ClassId} {sz : Nat} {a : Nat → Nat} {x : Int32} : Met l yX6_count (Cond.code yX6_count cX6_count 2 (some .int) :: w_all) ({ frames := 3, cells := 0, slots := 0, locals := 73 }) (mt_P D q [.ref (a 0), .int x] (fb_w a q) sz) (va_Qi (fun r (u : Unit) => (0 ≤ x ∧ x ≤ 8 → r = 0) ∧ (¬ (0 ≤ x ∧ x ≤ 8) → r = (-1))) (mt_B D (fb_w a q) sz (fun _ => [])) (va_A (fb_w a q) sz)) 0 0 (va_A (fb_w a q) sz) := by
  refine mt_start (by decide) (Nat.le_of_ble_eq_true rfl) ?_
  intro p e s m below meth c ls hx hb hr hml hown ht hk hin hP hQ hD hA hS hl
  have hK := hQ.1
  have hown : s.vm.findClass RX6 = some m.cls := hown
  have hl : lv_has ls 2 [(0, .ref (a 0)), (1, .int x)] := hl
  have hP := hP.sub (ws' := [((a 0), .inr (5, [.ref (a 1), .ref (a 3), .ref (a 16), .ref (a 29), .ref (a 33), .ref (a 41), .ref (a 43)])), ((a 1), .inr (4, [.ref (a 2), .int 0, .int 0, .int 0, .int 0, .int 0, .int 0])), ((a 2), .inl (q 0, 400, .inl (fun _ => 0))), ((a 3), .inr (0, [.int 0, .int 0, .int 0, .int 0, .int 0, .int 0, .ref (a 4), .ref (a 5), .ref (a 6), .ref (a 7), .ref (a 8), .ref (a 9), .ref (a 10), .ref (a 11), .ref (a 12), .ref (a 13), .ref (a 14), .ref (a 15)])), ((a 4), .inl (q 0, 4, .inl (fun _ => 0))), ((a 5), .inl (q 0, 4, .inl (fun _ => 0))), ((a 6), .inl (q 0, 160, .inl (fun _ => 0))), ((a 7), .inl (q 0, 40, .inl (fun _ => 0))), ((a 8), .inl (q 0, 40, .inl (fun _ => 0))), ((a 9), .inl (q 0, 40, .inl (fun _ => 0))), ((a 10), .inl (q 0, 40, .inl (fun _ => 0))), ((a 11), .inl (q 0, 40, .inl (fun _ => 0))), ((a 12), .inl (q 0, 40, .inl (fun _ => 0))), ((a 13), .inl (q 0, 40, .inl (fun _ => 0))), ((a 14), .inl (q 1, 40, .inr (.inl (fun _ => 0)))), ((a 15), .inl (q 0, 0, .inl (fun _ => 0))), ((a 16), .inr (0, [.int 0, .int 0, .int 0, .int 0, .int 0, .int 0, .ref (a 17), .ref (a 18), .ref (a 19), .ref (a 20), .ref (a 21), .ref (a 22), .ref (a 23), .ref (a 24), .ref (a 25), .ref (a 26), .ref (a 27), .ref (a 28)])), ((a 17), .inl (q 0, 4, .inl (fun _ => 0))), ((a 18), .inl (q 0, 4, .inl (fun _ => 0))), ((a 19), .inl (q 0, 160, .inl (fun _ => 0))), ((a 20), .inl (q 0, 40, .inl (fun _ => 0))), ((a 21), .inl (q 0, 40, .inl (fun _ => 0))), ((a 22), .inl (q 0, 40, .inl (fun _ => 0))), ((a 23), .inl (q 0, 40, .inl (fun _ => 0))), ((a 24), .inl (q 0, 40, .inl (fun _ => 0))), ((a 25), .inl (q 0, 40, .inl (fun _ => 0))), ((a 26), .inl (q 0, 40, .inl (fun _ => 0))), ((a 27), .inl (q 1, 40, .inr (.inl (fun _ => 0)))), ((a 28), .inl (q 0, 0, .inl (fun _ => 0))), ((a 29), .inr (1, [.ref (a 30), .ref (a 31), .ref (a 32), .int 0, .int 0, .int 0, .int 0, .int 0, .int 0, .int 0, .int 0, .int 0])), ((a 30), .inl (q 0, 40, .inl (fun _ => 0))), ((a 31), .inl (q 0, 40, .inl (fun _ => 0))), ((a 32), .inl (q 0, 40, .inl (fun _ => 0))), ((a 33), .inr (3, [.ref (a 34), .ref (a 35), .ref (a 36), .ref (a 37), .ref (a 38), .ref (a 39), .ref (a 40), .int 0, .int 0, .int 0])), ((a 34), .inl (q 0, 80, .inl (fun _ => 0))), ((a 35), .inl (q 0, 80, .inl (fun _ => 0))), ((a 36), .inl (q 0, 80, .inl (fun _ => 0))), ((a 37), .inl (q 0, 80, .inl (fun _ => 0))), ((a 38), .inl (q 0, 80, .inl (fun _ => 0))), ((a 39), .inl (q 0, 3, .inl (fun _ => 0))), ((a 40), .inl (q 0, 3, .inl (fun _ => 0))), ((a 41), .inr (2, [.ref (a 42), .int 0, .int 0])), ((a 42), .inl (q 4, 10, .inr (.inr (.inr (.inr (fun _ => none)))))), ((a 43), .inl (q 4, 2, .inr (.inr (.inr (.inr (fun _ => none))))))]) [0, 1, 2, 3, 4, 5, 6, 7, 8, 9, 10, 11, 12, 13, 14, 15, 16, 17, 18, 19, 20, 21, 22, 23, 24, 25, 26, 27, 28, 29, 30, 31, 32, 33, 34, 35, 36, 37, 38, 39, 40, 41, 42, 43] rfl
  have hD := hD.sub (ws' := [((a 0), .inr (5, [.ref (a 1), .ref (a 3), .ref (a 16), .ref (a 29), .ref (a 33), .ref (a 41), .ref (a 43)])), ((a 1), .inr (4, [.ref (a 2), .int 0, .int 0, .int 0, .int 0, .int 0, .int 0])), ((a 2), .inl (q 0, 400, .inl (fun _ => 0))), ((a 3), .inr (0, [.int 0, .int 0, .int 0, .int 0, .int 0, .int 0, .ref (a 4), .ref (a 5), .ref (a 6), .ref (a 7), .ref (a 8), .ref (a 9), .ref (a 10), .ref (a 11), .ref (a 12), .ref (a 13), .ref (a 14), .ref (a 15)])), ((a 4), .inl (q 0, 4, .inl (fun _ => 0))), ((a 5), .inl (q 0, 4, .inl (fun _ => 0))), ((a 6), .inl (q 0, 160, .inl (fun _ => 0))), ((a 7), .inl (q 0, 40, .inl (fun _ => 0))), ((a 8), .inl (q 0, 40, .inl (fun _ => 0))), ((a 9), .inl (q 0, 40, .inl (fun _ => 0))), ((a 10), .inl (q 0, 40, .inl (fun _ => 0))), ((a 11), .inl (q 0, 40, .inl (fun _ => 0))), ((a 12), .inl (q 0, 40, .inl (fun _ => 0))), ((a 13), .inl (q 0, 40, .inl (fun _ => 0))), ((a 14), .inl (q 1, 40, .inr (.inl (fun _ => 0)))), ((a 15), .inl (q 0, 0, .inl (fun _ => 0))), ((a 16), .inr (0, [.int 0, .int 0, .int 0, .int 0, .int 0, .int 0, .ref (a 17), .ref (a 18), .ref (a 19), .ref (a 20), .ref (a 21), .ref (a 22), .ref (a 23), .ref (a 24), .ref (a 25), .ref (a 26), .ref (a 27), .ref (a 28)])), ((a 17), .inl (q 0, 4, .inl (fun _ => 0))), ((a 18), .inl (q 0, 4, .inl (fun _ => 0))), ((a 19), .inl (q 0, 160, .inl (fun _ => 0))), ((a 20), .inl (q 0, 40, .inl (fun _ => 0))), ((a 21), .inl (q 0, 40, .inl (fun _ => 0))), ((a 22), .inl (q 0, 40, .inl (fun _ => 0))), ((a 23), .inl (q 0, 40, .inl (fun _ => 0))), ((a 24), .inl (q 0, 40, .inl (fun _ => 0))), ((a 25), .inl (q 0, 40, .inl (fun _ => 0))), ((a 26), .inl (q 0, 40, .inl (fun _ => 0))), ((a 27), .inl (q 1, 40, .inr (.inl (fun _ => 0)))), ((a 28), .inl (q 0, 0, .inl (fun _ => 0))), ((a 29), .inr (1, [.ref (a 30), .ref (a 31), .ref (a 32), .int 0, .int 0, .int 0, .int 0, .int 0, .int 0, .int 0, .int 0, .int 0])), ((a 30), .inl (q 0, 40, .inl (fun _ => 0))), ((a 31), .inl (q 0, 40, .inl (fun _ => 0))), ((a 32), .inl (q 0, 40, .inl (fun _ => 0))), ((a 33), .inr (3, [.ref (a 34), .ref (a 35), .ref (a 36), .ref (a 37), .ref (a 38), .ref (a 39), .ref (a 40), .int 0, .int 0, .int 0])), ((a 34), .inl (q 0, 80, .inl (fun _ => 0))), ((a 35), .inl (q 0, 80, .inl (fun _ => 0))), ((a 36), .inl (q 0, 80, .inl (fun _ => 0))), ((a 37), .inl (q 0, 80, .inl (fun _ => 0))), ((a 38), .inl (q 0, 80, .inl (fun _ => 0))), ((a 39), .inl (q 0, 3, .inl (fun _ => 0))), ((a 40), .inl (q 0, 3, .inl (fun _ => 0))), ((a 41), .inr (2, [.ref (a 42), .int 0, .int 0])), ((a 42), .inl (q 4, 10, .inr (.inr (.inr (.inr (fun _ => none)))))), ((a 43), .inl (q 4, 2, .inr (.inr (.inr (.inr (fun _ => none))))))]) [0, 1, 2, 3, 4, 5, 6, 7, 8, 9, 10, 11, 12, 13, 14, 15, 16, 17, 18, 19, 20, 21, 22, 23, 24, 25, 26, 27, 28, 29, 30, 31, 32, 33, 34, 35, 36, 37, 38, 39, 40, 41, 42, 43] (by decide) rfl
  refine lv_iload_n hx hb dX6_count_0 rfl (lv_at hl 1 rfl) ?_
  by_cases k_1 : x = 0
  · refine lv_tableIn (tgt := 52) hx hb dX6_count_1 (by rw [k_1]; decide) (by rw [k_1]; decide) (by rw [k_1]; rfl) (by decide) ?_
    refine lv_aload_n hx hb dX6_count_52 rfl (lv_at hl 0 rfl) ?_
    refine fl_get (C := RX6) (T := TX6) (N := 7) (ci := 5) (v := .ref (a 3)) hx hb ht in_X6 hown hK hP 0 rfl rfl 1 (by decide) mw_356 rfl dX6_count_53 ?_
    refine fl_get (C := RX0) (T := TX0) (N := 18) (ci := 0) (v := .int 0) hx hb ht in_X0 hown hK hP 3 rfl rfl 0 (by decide) mw_169 rfl dX6_count_56 ?_
    have hP := hP.sub (ws' := []) [] rfl
    have hD := hD.sub (ws' := []) [] (by decide) rfl
    exact mt_iret () hx hb hr hk (by refine ⟨fun h9 => ?_, fun h9 => ?_⟩ <;> first | rfl | exact h9 | (exfalso; have g0 := k_1; have g1 := h9; (try simp only [lg_cmp_ge, lg_cmp_le, lg_cmp_gt, lg_cmp_lt, lg_cmp_eq] at g0 g1); (try simp only [Int32.lt_iff_toInt_lt, Int32.le_iff_toInt_le, ← Int32.toInt_inj, Int32.reduceToInt, Int64.lt_iff_toInt_lt, Int64.le_iff_toInt_le, ← Int64.toInt_inj, Int64.reduceToInt, Int32.toInt_toInt64] at g0 g1); omega)) hP hD hS dX6_count_59
  by_cases k_2 : x = 1
  · refine lv_tableIn (tgt := 60) hx hb dX6_count_1 (by rw [k_2]; decide) (by rw [k_2]; decide) (by rw [k_2]; rfl) (by decide) ?_
    refine lv_aload_n hx hb dX6_count_60 rfl (lv_at hl 0 rfl) ?_
    refine fl_get (C := RX6) (T := TX6) (N := 7) (ci := 5) (v := .ref (a 3)) hx hb ht in_X6 hown hK hP 0 rfl rfl 1 (by decide) mw_356 rfl dX6_count_61 ?_
    refine fl_get (C := RX0) (T := TX0) (N := 18) (ci := 0) (v := .int 0) hx hb ht in_X0 hown hK hP 3 rfl rfl 1 (by decide) mw_174 rfl dX6_count_64 ?_
    have hP := hP.sub (ws' := []) [] rfl
    have hD := hD.sub (ws' := []) [] (by decide) rfl
    exact mt_iret () hx hb hr hk (by refine ⟨fun h9 => ?_, fun h9 => ?_⟩ <;> first | rfl | exact h9 | (exfalso; have g0 := k_1; have g1 := k_2; have g2 := h9; (try simp only [lg_cmp_ge, lg_cmp_le, lg_cmp_gt, lg_cmp_lt, lg_cmp_eq] at g0 g1 g2); (try simp only [Int32.lt_iff_toInt_lt, Int32.le_iff_toInt_le, ← Int32.toInt_inj, Int32.reduceToInt, Int64.lt_iff_toInt_lt, Int64.le_iff_toInt_le, ← Int64.toInt_inj, Int64.reduceToInt, Int32.toInt_toInt64] at g0 g1 g2); omega)) hP hD hS dX6_count_67
  by_cases k_3 : x = 2
  · refine lv_tableIn (tgt := 68) hx hb dX6_count_1 (by rw [k_3]; decide) (by rw [k_3]; decide) (by rw [k_3]; rfl) (by decide) ?_
    refine lv_aload_n hx hb dX6_count_68 rfl (lv_at hl 0 rfl) ?_
    refine fl_get (C := RX6) (T := TX6) (N := 7) (ci := 5) (v := .ref (a 3)) hx hb ht in_X6 hown hK hP 0 rfl rfl 1 (by decide) mw_356 rfl dX6_count_69 ?_
    refine vp_callSi (rd_wV (wc := [((a 3), .inr (0, [.int 0, .int 0, .int 0, .int 0, .int 0, .int 0, .ref (a 4), .ref (a 5), .ref (a 6), .ref (a 7), .ref (a 8), .ref (a 9), .ref (a 10), .ref (a 11), .ref (a 12), .ref (a 13), .ref (a 14), .ref (a 15)]))]) (As := []) (rest := []) hx hb hml hown ht (ct_Board_cells) wd_X0_cells mw_885 hQ (hP.sub [3] rfl) rfl rfl rfl hl.1 rfl (Nat.le_of_ble_eq_true rfl) dX6_count_72 ⟨Nat.le_of_ble_eq_true rfl, Nat.le_of_ble_eq_true rfl, rfl, rfl⟩ ⟨Nat.le_of_ble_eq_true rfl, Nat.le_of_ble_eq_true rfl⟩) (fun r_4 er_4 => ?_)
    obtain rfl : r_4 = 0 := er_4
    have hP := hP.sub (ws' := []) [] rfl
    have hD := hD.sub (ws' := []) [] (by decide) rfl
    exact mt_iret () hx hb hr hk (by refine ⟨fun h9 => ?_, fun h9 => ?_⟩ <;> first | rfl | exact h9 | (exfalso; have g0 := k_1; have g1 := k_2; have g2 := k_3; have g3 := h9; (try simp only [lg_cmp_ge, lg_cmp_le, lg_cmp_gt, lg_cmp_lt, lg_cmp_eq] at g0 g1 g2 g3); (try simp only [Int32.lt_iff_toInt_lt, Int32.le_iff_toInt_le, ← Int32.toInt_inj, Int32.reduceToInt, Int64.lt_iff_toInt_lt, Int64.le_iff_toInt_le, ← Int64.toInt_inj, Int64.reduceToInt, Int32.toInt_toInt64] at g0 g1 g2 g3); omega)) hP hD hS dX6_count_75
  by_cases k_5 : x = 3
  · refine lv_tableIn (tgt := 76) hx hb dX6_count_1 (by rw [k_5]; decide) (by rw [k_5]; decide) (by rw [k_5]; rfl) (by decide) ?_
    refine lv_aload_n hx hb dX6_count_76 rfl (lv_at hl 0 rfl) ?_
    refine fl_get (C := RX6) (T := TX6) (N := 7) (ci := 5) (v := .ref (a 3)) hx hb ht in_X6 hown hK hP 0 rfl rfl 1 (by decide) mw_356 rfl dX6_count_77 ?_
    refine fl_get (C := RX0) (T := TX0) (N := 18) (ci := 0) (v := .int 0) hx hb ht in_X0 hown hK hP 3 rfl rfl 2 (by decide) mw_178 rfl dX6_count_80 ?_
    have hP := hP.sub (ws' := []) [] rfl
    have hD := hD.sub (ws' := []) [] (by decide) rfl
    exact mt_iret () hx hb hr hk (by refine ⟨fun h9 => ?_, fun h9 => ?_⟩ <;> first | rfl | exact h9 | (exfalso; have g0 := k_1; have g1 := k_2; have g2 := k_3; have g3 := k_5; have g4 := h9; (try simp only [lg_cmp_ge, lg_cmp_le, lg_cmp_gt, lg_cmp_lt, lg_cmp_eq] at g0 g1 g2 g3 g4); (try simp only [Int32.lt_iff_toInt_lt, Int32.le_iff_toInt_le, ← Int32.toInt_inj, Int32.reduceToInt, Int64.lt_iff_toInt_lt, Int64.le_iff_toInt_le, ← Int64.toInt_inj, Int64.reduceToInt, Int32.toInt_toInt64] at g0 g1 g2 g3 g4); omega)) hP hD hS dX6_count_83
  by_cases k_6 : x = 4
  · refine lv_tableIn (tgt := 84) hx hb dX6_count_1 (by rw [k_6]; decide) (by rw [k_6]; decide) (by rw [k_6]; rfl) (by decide) ?_
    refine lv_aload_n hx hb dX6_count_84 rfl (lv_at hl 0 rfl) ?_
    refine fl_get (C := RX6) (T := TX6) (N := 7) (ci := 5) (v := .ref (a 3)) hx hb ht in_X6 hown hK hP 0 rfl rfl 1 (by decide) mw_356 rfl dX6_count_85 ?_
    refine fl_get (C := RX0) (T := TX0) (N := 18) (ci := 0) (v := .int 0) hx hb ht in_X0 hown hK hP 3 rfl rfl 3 (by decide) mw_181 rfl dX6_count_88 ?_
    have hP := hP.sub (ws' := []) [] rfl
    have hD := hD.sub (ws' := []) [] (by decide) rfl
    exact mt_iret () hx hb hr hk (by refine ⟨fun h9 => ?_, fun h9 => ?_⟩ <;> first | rfl | exact h9 | (exfalso; have g0 := k_1; have g1 := k_2; have g2 := k_3; have g3 := k_5; have g4 := k_6; have g5 := h9; (try simp only [lg_cmp_ge, lg_cmp_le, lg_cmp_gt, lg_cmp_lt, lg_cmp_eq] at g0 g1 g2 g3 g4 g5); (try simp only [Int32.lt_iff_toInt_lt, Int32.le_iff_toInt_le, ← Int32.toInt_inj, Int32.reduceToInt, Int64.lt_iff_toInt_lt, Int64.le_iff_toInt_le, ← Int64.toInt_inj, Int64.reduceToInt, Int32.toInt_toInt64] at g0 g1 g2 g3 g4 g5); omega)) hP hD hS dX6_count_91
  by_cases k_7 : x = 5
  · refine lv_tableIn (tgt := 92) hx hb dX6_count_1 (by rw [k_7]; decide) (by rw [k_7]; decide) (by rw [k_7]; rfl) (by decide) ?_
    refine lv_aload_n hx hb dX6_count_92 rfl (lv_at hl 0 rfl) ?_
    refine fl_get (C := RX6) (T := TX6) (N := 7) (ci := 5) (v := .ref (a 41)) hx hb ht in_X6 hown hK hP 0 rfl rfl 5 (by decide) mw_360 rfl dX6_count_93 ?_
    refine fl_get (C := RX3) (T := TX3) (N := 3) (ci := 2) (v := .int 0) hx hb ht in_X3 hown hK hP 41 rfl rfl 1 (by decide) mw_346 rfl dX6_count_96 ?_
    have hP := hP.sub (ws' := []) [] rfl
    have hD := hD.sub (ws' := []) [] (by decide) rfl
    exact mt_iret () hx hb hr hk (by refine ⟨fun h9 => ?_, fun h9 => ?_⟩ <;> first | rfl | exact h9 | (exfalso; have g0 := k_1; have g1 := k_2; have g2 := k_3; have g3 := k_5; have g4 := k_6; have g5 := k_7; have g6 := h9; (try simp only [lg_cmp_ge, lg_cmp_le, lg_cmp_gt, lg_cmp_lt, lg_cmp_eq] at g0 g1 g2 g3 g4 g5 g6); (try simp only [Int32.lt_iff_toInt_lt, Int32.le_iff_toInt_le, ← Int32.toInt_inj, Int32.reduceToInt, Int64.lt_iff_toInt_lt, Int64.le_iff_toInt_le, ← Int64.toInt_inj, Int64.reduceToInt, Int32.toInt_toInt64] at g0 g1 g2 g3 g4 g5 g6); omega)) hP hD hS dX6_count_99
  by_cases k_8 : x = 6
  · refine lv_tableIn (tgt := 100) hx hb dX6_count_1 (by rw [k_8]; decide) (by rw [k_8]; decide) (by rw [k_8]; rfl) (by decide) ?_
    refine lv_aload_n hx hb dX6_count_100 rfl (lv_at hl 0 rfl) ?_
    refine fl_get (C := RX6) (T := TX6) (N := 7) (ci := 5) (v := .ref (a 1)) hx hb ht in_X6 hown hK hP 0 rfl rfl 0 (by decide) mw_355 rfl dX6_count_101 ?_
    refine fl_get (C := RX5) (T := TX5) (N := 7) (ci := 4) (v := .int 0) hx hb ht in_X5 hown hK hP 1 rfl rfl 1 (by decide) mw_129 rfl dX6_count_104 ?_
    have hP := hP.sub (ws' := []) [] rfl
    have hD := hD.sub (ws' := []) [] (by decide) rfl
    exact mt_iret () hx hb hr hk (by refine ⟨fun h9 => ?_, fun h9 => ?_⟩ <;> first | rfl | exact h9 | (exfalso; have g0 := k_1; have g1 := k_2; have g2 := k_3; have g3 := k_5; have g4 := k_6; have g5 := k_7; have g6 := k_8; have g7 := h9; (try simp only [lg_cmp_ge, lg_cmp_le, lg_cmp_gt, lg_cmp_lt, lg_cmp_eq] at g0 g1 g2 g3 g4 g5 g6 g7); (try simp only [Int32.lt_iff_toInt_lt, Int32.le_iff_toInt_le, ← Int32.toInt_inj, Int32.reduceToInt, Int64.lt_iff_toInt_lt, Int64.le_iff_toInt_le, ← Int64.toInt_inj, Int64.reduceToInt, Int32.toInt_toInt64] at g0 g1 g2 g3 g4 g5 g6 g7); omega)) hP hD hS dX6_count_107
  by_cases k_9 : x = 7
  · refine lv_tableIn (tgt := 108) hx hb dX6_count_1 (by rw [k_9]; decide) (by rw [k_9]; decide) (by rw [k_9]; rfl) (by decide) ?_
    refine lv_aload_n hx hb dX6_count_108 rfl (lv_at hl 0 rfl) ?_
    refine vp_callSi (rd_wV (wc := [((a 0), .inr (5, [.ref (a 1), .ref (a 3), .ref (a 16), .ref (a 29), .ref (a 33), .ref (a 41), .ref (a 43)])), ((a 1), .inr (4, [.ref (a 2), .int 0, .int 0, .int 0, .int 0, .int 0, .int 0])), ((a 2), .inl (q 0, 400, .inl (fun _ => 0))), ((a 3), .inr (0, [.int 0, .int 0, .int 0, .int 0, .int 0, .int 0, .ref (a 4), .ref (a 5), .ref (a 6), .ref (a 7), .ref (a 8), .ref (a 9), .ref (a 10), .ref (a 11), .ref (a 12), .ref (a 13), .ref (a 14), .ref (a 15)])), ((a 4), .inl (q 0, 4, .inl (fun _ => 0))), ((a 5), .inl (q 0, 4, .inl (fun _ => 0))), ((a 6), .inl (q 0, 160, .inl (fun _ => 0))), ((a 7), .inl (q 0, 40, .inl (fun _ => 0))), ((a 8), .inl (q 0, 40, .inl (fun _ => 0))), ((a 9), .inl (q 0, 40, .inl (fun _ => 0))), ((a 10), .inl (q 0, 40, .inl (fun _ => 0))), ((a 11), .inl (q 0, 40, .inl (fun _ => 0))), ((a 12), .inl (q 0, 40, .inl (fun _ => 0))), ((a 13), .inl (q 0, 40, .inl (fun _ => 0))), ((a 14), .inl (q 1, 40, .inr (.inl (fun _ => 0)))), ((a 15), .inl (q 0, 0, .inl (fun _ => 0))), ((a 16), .inr (0, [.int 0, .int 0, .int 0, .int 0, .int 0, .int 0, .ref (a 17), .ref (a 18), .ref (a 19), .ref (a 20), .ref (a 21), .ref (a 22), .ref (a 23), .ref (a 24), .ref (a 25), .ref (a 26), .ref (a 27), .ref (a 28)])), ((a 17), .inl (q 0, 4, .inl (fun _ => 0))), ((a 18), .inl (q 0, 4, .inl (fun _ => 0))), ((a 19), .inl (q 0, 160, .inl (fun _ => 0))), ((a 20), .inl (q 0, 40, .inl (fun _ => 0))), ((a 21), .inl (q 0, 40, .inl (fun _ => 0))), ((a 22), .inl (q 0, 40, .inl (fun _ => 0))), ((a 23), .inl (q 0, 40, .inl (fun _ => 0))), ((a 24), .inl (q 0, 40, .inl (fun _ => 0))), ((a 25), .inl (q 0, 40, .inl (fun _ => 0))), ((a 26), .inl (q 0, 40, .inl (fun _ => 0))), ((a 27), .inl (q 1, 40, .inr (.inl (fun _ => 0)))), ((a 28), .inl (q 0, 0, .inl (fun _ => 0))), ((a 29), .inr (1, [.ref (a 30), .ref (a 31), .ref (a 32), .int 0, .int 0, .int 0, .int 0, .int 0, .int 0, .int 0, .int 0, .int 0])), ((a 30), .inl (q 0, 40, .inl (fun _ => 0))), ((a 31), .inl (q 0, 40, .inl (fun _ => 0))), ((a 32), .inl (q 0, 40, .inl (fun _ => 0))), ((a 33), .inr (3, [.ref (a 34), .ref (a 35), .ref (a 36), .ref (a 37), .ref (a 38), .ref (a 39), .ref (a 40), .int 0, .int 0, .int 0])), ((a 34), .inl (q 0, 80, .inl (fun _ => 0))), ((a 35), .inl (q 0, 80, .inl (fun _ => 0))), ((a 36), .inl (q 0, 80, .inl (fun _ => 0))), ((a 37), .inl (q 0, 80, .inl (fun _ => 0))), ((a 38), .inl (q 0, 80, .inl (fun _ => 0))), ((a 39), .inl (q 0, 3, .inl (fun _ => 0))), ((a 40), .inl (q 0, 3, .inl (fun _ => 0))), ((a 41), .inr (2, [.ref (a 42), .int 0, .int 0])), ((a 42), .inl (q 4, 10, .inr (.inr (.inr (.inr (fun _ => none)))))), ((a 43), .inl (q 4, 2, .inr (.inr (.inr (.inr (fun _ => none))))))]) (As := []) (rest := []) hx hb hml hown ht (cf_shelvesUsed) wd_X6_shelvesUsed mw_1119 hQ (hP.sub [0, 1, 2, 3, 4, 5, 6, 7, 8, 9, 10, 11, 12, 13, 14, 15, 16, 17, 18, 19, 20, 21, 22, 23, 24, 25, 26, 27, 28, 29, 30, 31, 32, 33, 34, 35, 36, 37, 38, 39, 40, 41, 42, 43] rfl) rfl rfl rfl hl.1 rfl (Nat.le_of_ble_eq_true rfl) dX6_count_109 ⟨Nat.le_of_ble_eq_true rfl, Nat.le_of_ble_eq_true rfl, rfl, rfl⟩ ⟨Nat.le_of_ble_eq_true rfl, Nat.le_of_ble_eq_true rfl⟩) (fun r_10 er_10 => ?_)
    obtain rfl : r_10 = 0 := er_10
    have hP := hP.sub (ws' := []) [] rfl
    have hD := hD.sub (ws' := []) [] (by decide) rfl
    exact mt_iret () hx hb hr hk (by refine ⟨fun h9 => ?_, fun h9 => ?_⟩ <;> first | rfl | exact h9 | (exfalso; have g0 := k_1; have g1 := k_2; have g2 := k_3; have g3 := k_5; have g4 := k_6; have g5 := k_7; have g6 := k_8; have g7 := k_9; have g8 := h9; (try simp only [lg_cmp_ge, lg_cmp_le, lg_cmp_gt, lg_cmp_lt, lg_cmp_eq] at g0 g1 g2 g3 g4 g5 g6 g7 g8); (try simp only [Int32.lt_iff_toInt_lt, Int32.le_iff_toInt_le, ← Int32.toInt_inj, Int32.reduceToInt, Int64.lt_iff_toInt_lt, Int64.le_iff_toInt_le, ← Int64.toInt_inj, Int64.reduceToInt, Int32.toInt_toInt64] at g0 g1 g2 g3 g4 g5 g6 g7 g8); omega)) hP hD hS dX6_count_112
  by_cases k_11 : x = 8
  · refine lv_tableIn (tgt := 113) hx hb dX6_count_1 (by rw [k_11]; decide) (by rw [k_11]; decide) (by rw [k_11]; rfl) (by decide) ?_
    refine lv_aload_n hx hb dX6_count_113 rfl (lv_at hl 0 rfl) ?_
    refine fl_get (C := RX6) (T := TX6) (N := 7) (ci := 5) (v := .ref (a 29)) hx hb ht in_X6 hown hK hP 0 rfl rfl 3 (by decide) mw_358 rfl dX6_count_114 ?_
    refine lv_aload_n hx hb dX6_count_117 rfl (lv_at hl 0 rfl) ?_
    refine fl_get (C := RX6) (T := TX6) (N := 7) (ci := 5) (v := .ref (a 3)) hx hb ht in_X6 hown hK hP 0 rfl rfl 1 (by decide) mw_356 rfl dX6_count_118 ?_
    refine mt_gov (mt_wV (wc := [((a 29), .inr (1, [.ref (a 30), .ref (a 31), .ref (a 32), .int 0, .int 0, .int 0, .int 0, .int 0, .int 0, .int 0, .int 0, .int 0])), ((a 30), .inl (q 0, 40, .inl (fun _ => 0))), ((a 3), .inr (0, [.int 0, .int 0, .int 0, .int 0, .int 0, .int 0, .ref (a 4), .ref (a 5), .ref (a 6), .ref (a 7), .ref (a 8), .ref (a 9), .ref (a 10), .ref (a 11), .ref (a 12), .ref (a 13), .ref (a 14), .ref (a 15)]))]) (As := [.ref (a 3)]) (rest := []) hx hb hml hown ht (ct_choose) wd_X2_choose mw_725 hQ (hP.sub [29, 30, 3] rfl) (hD.sub [29, 30, 3] (by decide) rfl) rfl rfl rfl hl.1 rfl (Nat.le_of_ble_eq_true rfl) dX6_count_121 ⟨Nat.le_of_ble_eq_true rfl, Nat.le_of_ble_eq_true rfl, rfl, rfl⟩ ⟨Nat.le_of_ble_eq_true rfl, Nat.le_of_ble_eq_true rfl⟩) (wr := [((a 0), .inr (5, [.ref (a 1), .ref (a 3), .ref (a 16), .ref (a 29), .ref (a 33), .ref (a 41), .ref (a 43)])), ((a 1), .inr (4, [.ref (a 2), .int 0, .int 0, .int 0, .int 0, .int 0, .int 0])), ((a 2), .inl (q 0, 400, .inl (fun _ => 0))), ((a 4), .inl (q 0, 4, .inl (fun _ => 0))), ((a 5), .inl (q 0, 4, .inl (fun _ => 0))), ((a 6), .inl (q 0, 160, .inl (fun _ => 0))), ((a 7), .inl (q 0, 40, .inl (fun _ => 0))), ((a 8), .inl (q 0, 40, .inl (fun _ => 0))), ((a 9), .inl (q 0, 40, .inl (fun _ => 0))), ((a 10), .inl (q 0, 40, .inl (fun _ => 0))), ((a 11), .inl (q 0, 40, .inl (fun _ => 0))), ((a 12), .inl (q 0, 40, .inl (fun _ => 0))), ((a 13), .inl (q 0, 40, .inl (fun _ => 0))), ((a 14), .inl (q 1, 40, .inr (.inl (fun _ => 0)))), ((a 15), .inl (q 0, 0, .inl (fun _ => 0))), ((a 16), .inr (0, [.int 0, .int 0, .int 0, .int 0, .int 0, .int 0, .ref (a 17), .ref (a 18), .ref (a 19), .ref (a 20), .ref (a 21), .ref (a 22), .ref (a 23), .ref (a 24), .ref (a 25), .ref (a 26), .ref (a 27), .ref (a 28)])), ((a 17), .inl (q 0, 4, .inl (fun _ => 0))), ((a 18), .inl (q 0, 4, .inl (fun _ => 0))), ((a 19), .inl (q 0, 160, .inl (fun _ => 0))), ((a 20), .inl (q 0, 40, .inl (fun _ => 0))), ((a 21), .inl (q 0, 40, .inl (fun _ => 0))), ((a 22), .inl (q 0, 40, .inl (fun _ => 0))), ((a 23), .inl (q 0, 40, .inl (fun _ => 0))), ((a 24), .inl (q 0, 40, .inl (fun _ => 0))), ((a 25), .inl (q 0, 40, .inl (fun _ => 0))), ((a 26), .inl (q 0, 40, .inl (fun _ => 0))), ((a 27), .inl (q 1, 40, .inr (.inl (fun _ => 0)))), ((a 28), .inl (q 0, 0, .inl (fun _ => 0))), ((a 31), .inl (q 0, 40, .inl (fun _ => 0))), ((a 32), .inl (q 0, 40, .inl (fun _ => 0))), ((a 33), .inr (3, [.ref (a 34), .ref (a 35), .ref (a 36), .ref (a 37), .ref (a 38), .ref (a 39), .ref (a 40), .int 0, .int 0, .int 0])), ((a 34), .inl (q 0, 80, .inl (fun _ => 0))), ((a 35), .inl (q 0, 80, .inl (fun _ => 0))), ((a 36), .inl (q 0, 80, .inl (fun _ => 0))), ((a 37), .inl (q 0, 80, .inl (fun _ => 0))), ((a 38), .inl (q 0, 80, .inl (fun _ => 0))), ((a 39), .inl (q 0, 3, .inl (fun _ => 0))), ((a 40), .inl (q 0, 3, .inl (fun _ => 0))), ((a 41), .inr (2, [.ref (a 42), .int 0, .int 0])), ((a 42), .inl (q 4, 10, .inr (.inr (.inr (.inr (fun _ => none)))))), ((a 43), .inl (q 4, 2, .inr (.inr (.inr (.inr (fun _ => none))))))]) hP hD hS hA [29, 30, 3] [0, 1, 2, 4, 5, 6, 7, 8, 9, 10, 11, 12, 13, 14, 15, 16, 17, 18, 19, 20, 21, 22, 23, 24, 25, 26, 27, 28, 31, 32, 33, 34, 35, 36, 37, 38, 39, 40, 41, 42, 43] rfl rfl (by decide) (by decide) (fun u_12 H locs hw hP hD hS => ?_)
    have hP : va_P D vwCl [((a 0), .inr (5, [.ref (a 1), .ref (a 3), .ref (a 16), .ref (a 29), .ref (a 33), .ref (a 41), .ref (a 43)])), ((a 1), .inr (4, [.ref (a 2), .int 0, .int 0, .int 0, .int 0, .int 0, .int 0])), ((a 2), .inl (q 0, 400, .inl (fun _ => 0))), ((a 4), .inl (q 0, 4, .inl (fun _ => 0))), ((a 5), .inl (q 0, 4, .inl (fun _ => 0))), ((a 6), .inl (q 0, 160, .inl (fun _ => 0))), ((a 7), .inl (q 0, 40, .inl (fun _ => 0))), ((a 8), .inl (q 0, 40, .inl (fun _ => 0))), ((a 9), .inl (q 0, 40, .inl (fun _ => 0))), ((a 10), .inl (q 0, 40, .inl (fun _ => 0))), ((a 11), .inl (q 0, 40, .inl (fun _ => 0))), ((a 12), .inl (q 0, 40, .inl (fun _ => 0))), ((a 13), .inl (q 0, 40, .inl (fun _ => 0))), ((a 14), .inl (q 1, 40, .inr (.inl (fun _ => 0)))), ((a 15), .inl (q 0, 0, .inl (fun _ => 0))), ((a 16), .inr (0, [.int 0, .int 0, .int 0, .int 0, .int 0, .int 0, .ref (a 17), .ref (a 18), .ref (a 19), .ref (a 20), .ref (a 21), .ref (a 22), .ref (a 23), .ref (a 24), .ref (a 25), .ref (a 26), .ref (a 27), .ref (a 28)])), ((a 17), .inl (q 0, 4, .inl (fun _ => 0))), ((a 18), .inl (q 0, 4, .inl (fun _ => 0))), ((a 19), .inl (q 0, 160, .inl (fun _ => 0))), ((a 20), .inl (q 0, 40, .inl (fun _ => 0))), ((a 21), .inl (q 0, 40, .inl (fun _ => 0))), ((a 22), .inl (q 0, 40, .inl (fun _ => 0))), ((a 23), .inl (q 0, 40, .inl (fun _ => 0))), ((a 24), .inl (q 0, 40, .inl (fun _ => 0))), ((a 25), .inl (q 0, 40, .inl (fun _ => 0))), ((a 26), .inl (q 0, 40, .inl (fun _ => 0))), ((a 27), .inl (q 1, 40, .inr (.inl (fun _ => 0)))), ((a 28), .inl (q 0, 0, .inl (fun _ => 0))), ((a 31), .inl (q 0, 40, .inl (fun _ => 0))), ((a 32), .inl (q 0, 40, .inl (fun _ => 0))), ((a 33), .inr (3, [.ref (a 34), .ref (a 35), .ref (a 36), .ref (a 37), .ref (a 38), .ref (a 39), .ref (a 40), .int 0, .int 0, .int 0])), ((a 34), .inl (q 0, 80, .inl (fun _ => 0))), ((a 35), .inl (q 0, 80, .inl (fun _ => 0))), ((a 36), .inl (q 0, 80, .inl (fun _ => 0))), ((a 37), .inl (q 0, 80, .inl (fun _ => 0))), ((a 38), .inl (q 0, 80, .inl (fun _ => 0))), ((a 39), .inl (q 0, 3, .inl (fun _ => 0))), ((a 40), .inl (q 0, 3, .inl (fun _ => 0))), ((a 41), .inr (2, [.ref (a 42), .int 0, .int 0])), ((a 42), .inl (q 4, 10, .inr (.inr (.inr (.inr (fun _ => none)))))), ((a 43), .inl (q 4, 2, .inr (.inr (.inr (.inr (fun _ => none)))))), ((a 29), .inr (1, [.ref (a 30), .ref (a 31), .ref (a 32), .int 0, .int 0, .int 0, .int 0, .int 0, .int 0, .int 0, .int 0, .int 0])), ((a 30), .inl (q 0, 40, .inl u_12)), ((a 3), .inr (0, [.int 0, .int 0, .int 0, .int 0, .int 0, .int 0, .ref (a 4), .ref (a 5), .ref (a 6), .ref (a 7), .ref (a 8), .ref (a 9), .ref (a 10), .ref (a 11), .ref (a 12), .ref (a 13), .ref (a 14), .ref (a 15)]))] H := hP
    have hD : va_D _ [((a 0), .inr (5, [.ref (a 1), .ref (a 3), .ref (a 16), .ref (a 29), .ref (a 33), .ref (a 41), .ref (a 43)])), ((a 1), .inr (4, [.ref (a 2), .int 0, .int 0, .int 0, .int 0, .int 0, .int 0])), ((a 2), .inl (q 0, 400, .inl (fun _ => 0))), ((a 4), .inl (q 0, 4, .inl (fun _ => 0))), ((a 5), .inl (q 0, 4, .inl (fun _ => 0))), ((a 6), .inl (q 0, 160, .inl (fun _ => 0))), ((a 7), .inl (q 0, 40, .inl (fun _ => 0))), ((a 8), .inl (q 0, 40, .inl (fun _ => 0))), ((a 9), .inl (q 0, 40, .inl (fun _ => 0))), ((a 10), .inl (q 0, 40, .inl (fun _ => 0))), ((a 11), .inl (q 0, 40, .inl (fun _ => 0))), ((a 12), .inl (q 0, 40, .inl (fun _ => 0))), ((a 13), .inl (q 0, 40, .inl (fun _ => 0))), ((a 14), .inl (q 1, 40, .inr (.inl (fun _ => 0)))), ((a 15), .inl (q 0, 0, .inl (fun _ => 0))), ((a 16), .inr (0, [.int 0, .int 0, .int 0, .int 0, .int 0, .int 0, .ref (a 17), .ref (a 18), .ref (a 19), .ref (a 20), .ref (a 21), .ref (a 22), .ref (a 23), .ref (a 24), .ref (a 25), .ref (a 26), .ref (a 27), .ref (a 28)])), ((a 17), .inl (q 0, 4, .inl (fun _ => 0))), ((a 18), .inl (q 0, 4, .inl (fun _ => 0))), ((a 19), .inl (q 0, 160, .inl (fun _ => 0))), ((a 20), .inl (q 0, 40, .inl (fun _ => 0))), ((a 21), .inl (q 0, 40, .inl (fun _ => 0))), ((a 22), .inl (q 0, 40, .inl (fun _ => 0))), ((a 23), .inl (q 0, 40, .inl (fun _ => 0))), ((a 24), .inl (q 0, 40, .inl (fun _ => 0))), ((a 25), .inl (q 0, 40, .inl (fun _ => 0))), ((a 26), .inl (q 0, 40, .inl (fun _ => 0))), ((a 27), .inl (q 1, 40, .inr (.inl (fun _ => 0)))), ((a 28), .inl (q 0, 0, .inl (fun _ => 0))), ((a 31), .inl (q 0, 40, .inl (fun _ => 0))), ((a 32), .inl (q 0, 40, .inl (fun _ => 0))), ((a 33), .inr (3, [.ref (a 34), .ref (a 35), .ref (a 36), .ref (a 37), .ref (a 38), .ref (a 39), .ref (a 40), .int 0, .int 0, .int 0])), ((a 34), .inl (q 0, 80, .inl (fun _ => 0))), ((a 35), .inl (q 0, 80, .inl (fun _ => 0))), ((a 36), .inl (q 0, 80, .inl (fun _ => 0))), ((a 37), .inl (q 0, 80, .inl (fun _ => 0))), ((a 38), .inl (q 0, 80, .inl (fun _ => 0))), ((a 39), .inl (q 0, 3, .inl (fun _ => 0))), ((a 40), .inl (q 0, 3, .inl (fun _ => 0))), ((a 41), .inr (2, [.ref (a 42), .int 0, .int 0])), ((a 42), .inl (q 4, 10, .inr (.inr (.inr (.inr (fun _ => none)))))), ((a 43), .inl (q 4, 2, .inr (.inr (.inr (.inr (fun _ => none)))))), ((a 29), .inr (1, [.ref (a 30), .ref (a 31), .ref (a 32), .int 0, .int 0, .int 0, .int 0, .int 0, .int 0, .int 0, .int 0, .int 0])), ((a 30), .inl (q 0, 40, .inl u_12)), ((a 3), .inr (0, [.int 0, .int 0, .int 0, .int 0, .int 0, .int 0, .ref (a 4), .ref (a 5), .ref (a 6), .ref (a 7), .ref (a 8), .ref (a 9), .ref (a 10), .ref (a 11), .ref (a 12), .ref (a 13), .ref (a 14), .ref (a 15)]))] := hD
    refine lv_aload_n hx hb dX6_count_124 rfl (lv_at hl 0 rfl) ?_
    refine fl_get (C := RX6) (T := TX6) (N := 7) (ci := 5) (v := .ref (a 29)) hx hb ht in_X6 hown hK hP 0 rfl rfl 3 (by decide) mw_358 rfl dX6_count_125 ?_
    refine fl_get (C := RX2) (T := TX2) (N := 12) (ci := 1) (v := .int 0) hx hb ht in_X2 hown hK hP 41 rfl rfl 3 (by decide) mw_257 rfl dX6_count_128 ?_
    have hP := hP.sub (ws' := []) [] rfl
    have hD := hD.sub (ws' := []) [] (by decide) rfl
    exact mt_iret () hx hb hr hk (by refine ⟨fun h9 => ?_, fun h9 => ?_⟩ <;> first | rfl | exact h9 | (exfalso; have g0 := k_1; have g1 := k_2; have g2 := k_3; have g3 := k_5; have g4 := k_6; have g5 := k_7; have g6 := k_8; have g7 := k_9; have g8 := k_11; have g9 := h9; (try simp only [lg_cmp_ge, lg_cmp_le, lg_cmp_gt, lg_cmp_lt, lg_cmp_eq] at g0 g1 g2 g3 g4 g5 g6 g7 g8 g9); (try simp only [Int32.lt_iff_toInt_lt, Int32.le_iff_toInt_le, ← Int32.toInt_inj, Int32.reduceToInt, Int64.lt_iff_toInt_lt, Int64.le_iff_toInt_le, ← Int64.toInt_inj, Int64.reduceToInt, Int32.toInt_toInt64] at g0 g1 g2 g3 g4 g5 g6 g7 g8 g9); omega)) hP hD hS dX6_count_131
  refine lv_tableOut (tgt := 132) hx hb dX6_count_1 (by have g0 := k_1; have g1 := k_2; have g2 := k_3; have g3 := k_5; have g4 := k_6; have g5 := k_7; have g6 := k_8; have g7 := k_9; have g8 := k_11; (try simp only [lg_cmp_ge, lg_cmp_le, lg_cmp_gt, lg_cmp_lt, lg_cmp_eq] at g0 g1 g2 g3 g4 g5 g6 g7 g8); (try simp only [Int32.lt_iff_toInt_lt, Int32.le_iff_toInt_le, ← Int32.toInt_inj, Int32.reduceToInt, Int64.lt_iff_toInt_lt, Int64.le_iff_toInt_le, ← Int64.toInt_inj, Int64.reduceToInt, Int32.toInt_toInt64] at g0 g1 g2 g3 g4 g5 g6 g7 g8); omega) (by decide) ?_
  refine lv_iconst (v := (-1)) hx hb dX6_count_132 (by decide) ?_
  have hP := hP.sub (ws' := []) [] rfl
  have hD := hD.sub (ws' := []) [] (by decide) rfl
  exact mt_iret () hx hb hr hk (by refine ⟨fun h9 => ?_, fun h9 => ?_⟩ <;> first | rfl | exact h9 | (exfalso; have g0 := k_1; have g1 := k_2; have g2 := k_3; have g3 := k_5; have g4 := k_6; have g5 := k_7; have g6 := k_8; have g7 := k_9; have g8 := k_11; have g9 := h9; (try simp only [lg_cmp_ge, lg_cmp_le, lg_cmp_gt, lg_cmp_lt, lg_cmp_eq] at g0 g1 g2 g3 g4 g5 g6 g7 g8 g9); (try simp only [Int32.lt_iff_toInt_lt, Int32.le_iff_toInt_le, ← Int32.toInt_inj, Int32.reduceToInt, Int64.lt_iff_toInt_lt, Int64.le_iff_toInt_le, ← Int64.toInt_inj, Int64.reduceToInt, Int32.toInt_toInt64] at g0 g1 g2 g3 g4 g5 g6 g7 g8 g9); omega)) hP hD hS dX6_count_133
end
