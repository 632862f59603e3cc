section
-- ===== PART A: goes FIRST, ahead of the names: the tables' words, and 'selects' of the private methods out of them =====
/-- a private method of a class that the tables say can be made, by its rows of tables_1 -/
def lw_okq (q : MethodName × Nat) : Prop := (q.1.cls ≠ "java/lang/invoke/MethodHandle" ∧ q.1.cls ≠ "java/lang/invoke/VarHandle") ∧ Cond.instantiable q.1.cls q.2 ∈ tables_1 ∧ Cond.privateMethod q.1 ∈ tables_1 ∧ Cond.instanceMethod q.1 ∈ tables_1
theorem lw_p0 : lw_okq (⟨"MagnetColony", "change", "(IIII)I"⟩, 14) := ⟨⟨by decide +kernel, by decide +kernel⟩, List.mem_of_getElem? (i := 30) (by decide +kernel), List.mem_of_getElem? (i := 292) (by decide +kernel), List.mem_of_getElem? (i := 293) (by decide +kernel)⟩
theorem lw_p1 : lw_okq (⟨"MagnetColony$Changes", "judgeAdding", "(II)I"⟩, 4) := ⟨⟨by decide +kernel, by decide +kernel⟩, List.mem_of_getElem? (i := 139) (by decide +kernel), List.mem_of_getElem? (i := 300) (by decide +kernel), List.mem_of_getElem? (i := 301) (by decide +kernel)⟩
theorem lw_p2 : lw_okq (⟨"MagnetColony$Changes", "deny", "(II)I"⟩, 4) := ⟨⟨by decide +kernel, by decide +kernel⟩, List.mem_of_getElem? (i := 139) (by decide +kernel), List.mem_of_getElem? (i := 310) (by decide +kernel), List.mem_of_getElem? (i := 311) (by decide +kernel)⟩
theorem lw_p3 : lw_okq (⟨"MagnetColony$Changes", "judgeStrength", "(II)I"⟩, 4) := ⟨⟨by decide +kernel, by decide +kernel⟩, List.mem_of_getElem? (i := 139) (by decide +kernel), List.mem_of_getElem? (i := 318) (by decide +kernel), List.mem_of_getElem? (i := 319) (by decide +kernel)⟩
theorem lw_p4 : lw_okq (⟨"MagnetColony$Changes", "judgeDigging", "(II)I"⟩, 4) := ⟨⟨by decide +kernel, by decide +kernel⟩, List.mem_of_getElem? (i := 139) (by decide +kernel), List.mem_of_getElem? (i := 326) (by decide +kernel), List.mem_of_getElem? (i := 327) (by decide +kernel)⟩
theorem lw_p5 : lw_okq (⟨"MagnetColony$Changes", "judgeSettling", "()I"⟩, 4) := ⟨⟨by decide +kernel, by decide +kernel⟩, List.mem_of_getElem? (i := 139) (by decide +kernel), List.mem_of_getElem? (i := 342) (by decide +kernel), List.mem_of_getElem? (i := 343) (by decide +kernel)⟩
theorem lw_p6 : lw_okq (⟨"MagnetColony$Survey", "givePolesFrom", "(I)I"⟩, 8) := ⟨⟨by decide +kernel, by decide +kernel⟩, List.mem_of_getElem? (i := 98) (by decide +kernel), List.mem_of_getElem? (i := 365) (by decide +kernel), List.mem_of_getElem? (i := 366) (by decide +kernel)⟩
theorem lw_p7 : lw_okq (⟨"MagnetColony$Survey", "bestTurnSetOf", "(II)I"⟩, 8) := ⟨⟨by decide +kernel, by decide +kernel⟩, List.mem_of_getElem? (i := 98) (by decide +kernel), List.mem_of_getElem? (i := 369) (by decide +kernel), List.mem_of_getElem? (i := 370) (by decide +kernel)⟩
theorem lw_p8 : lw_okq (⟨"MagnetColony", "refuse", "(I)V"⟩, 14) := ⟨⟨by decide +kernel, by decide +kernel⟩, List.mem_of_getElem? (i := 30) (by decide +kernel), List.mem_of_getElem? (i := 380) (by decide +kernel), List.mem_of_getElem? (i := 381) (by decide +kernel)⟩
theorem lw_p9 : lw_okq (⟨"java/lang/Throwable", "fillInStackTrace", "(I)Ljava/lang/Throwable;"⟩, 6) := ⟨⟨by decide +kernel, by decide +kernel⟩, List.mem_of_getElem? (i := 426) (by decide +kernel), List.mem_of_getElem? (i := 424) (by decide +kernel), List.mem_of_getElem? (i := 425) (by decide +kernel)⟩
theorem lw_p10 : lw_okq (⟨"MagnetColony", "keepDenial", "(III)V"⟩, 14) := ⟨⟨by decide +kernel, by decide +kernel⟩, List.mem_of_getElem? (i := 30) (by decide +kernel), List.mem_of_getElem? (i := 472) (by decide +kernel), List.mem_of_getElem? (i := 473) (by decide +kernel)⟩
theorem lw_p11 : lw_okq (⟨"MagnetColony$Forces", "targetOf", "(I)I"⟩, 1) := ⟨⟨by decide +kernel, by decide +kernel⟩, List.mem_of_getElem? (i := 129) (by decide +kernel), List.mem_of_getElem? (i := 533) (by decide +kernel), List.mem_of_getElem? (i := 534) (by decide +kernel)⟩
theorem lw_p12 : lw_okq (⟨"MagnetColony$Survey", "separateLabels", "()V"⟩, 8) := ⟨⟨by decide +kernel, by decide +kernel⟩, List.mem_of_getElem? (i := 98) (by decide +kernel), List.mem_of_getElem? (i := 573) (by decide +kernel), List.mem_of_getElem? (i := 574) (by decide +kernel)⟩
theorem lw_p13 : lw_okq (⟨"MagnetColony$Survey", "unite", "(II)Z"⟩, 8) := ⟨⟨by decide +kernel, by decide +kernel⟩, List.mem_of_getElem? (i := 98) (by decide +kernel), List.mem_of_getElem? (i := 577) (by decide +kernel), List.mem_of_getElem? (i := 578) (by decide +kernel)⟩
theorem lw_p14 : lw_okq (⟨"MagnetColony$Survey", "numberMagnet", "(I)V"⟩, 8) := ⟨⟨by decide +kernel, by decide +kernel⟩, List.mem_of_getElem? (i := 98) (by decide +kernel), List.mem_of_getElem? (i := 595) (by decide +kernel), List.mem_of_getElem? (i := 596) (by decide +kernel)⟩
theorem lw_p15 : lw_okq (⟨"MagnetColony$Survey", "reachNumber", "(II)V"⟩, 8) := ⟨⟨by decide +kernel, by decide +kernel⟩, List.mem_of_getElem? (i := 98) (by decide +kernel), List.mem_of_getElem? (i := 600) (by decide +kernel), List.mem_of_getElem? (i := 601) (by decide +kernel)⟩
def lw_privs_1 : List (MethodName × Nat) := [(⟨"MagnetColony", "change", "(IIII)I"⟩, 14), (⟨"MagnetColony$Changes", "judgeAdding", "(II)I"⟩, 4), (⟨"MagnetColony$Changes", "deny", "(II)I"⟩, 4), (⟨"MagnetColony$Changes", "judgeStrength", "(II)I"⟩, 4), (⟨"MagnetColony$Changes", "judgeDigging", "(II)I"⟩, 4), (⟨"MagnetColony$Changes", "judgeSettling", "()I"⟩, 4), (⟨"MagnetColony$Survey", "givePolesFrom", "(I)I"⟩, 8), (⟨"MagnetColony$Survey", "bestTurnSetOf", "(II)I"⟩, 8), (⟨"MagnetColony", "refuse", "(I)V"⟩, 14), (⟨"java/lang/Throwable", "fillInStackTrace", "(I)Ljava/lang/Throwable;"⟩, 6), (⟨"MagnetColony", "keepDenial", "(III)V"⟩, 14), (⟨"MagnetColony$Forces", "targetOf", "(I)I"⟩, 1), (⟨"MagnetColony$Survey", "separateLabels", "()V"⟩, 8), (⟨"MagnetColony$Survey", "unite", "(II)Z"⟩, 8), (⟨"MagnetColony$Survey", "numberMagnet", "(I)V"⟩, 8), (⟨"MagnetColony$Survey", "reachNumber", "(II)V"⟩, 8)]
theorem lw_r1 : ∀ q ∈ lw_privs_1, lw_okq q := List.forall_mem_cons.mpr ⟨lw_p0, List.forall_mem_cons.mpr ⟨lw_p1, List.forall_mem_cons.mpr ⟨lw_p2, List.forall_mem_cons.mpr ⟨lw_p3, List.forall_mem_cons.mpr ⟨lw_p4, List.forall_mem_cons.mpr ⟨lw_p5, List.forall_mem_cons.mpr ⟨lw_p6, List.forall_mem_cons.mpr ⟨lw_p7, List.forall_mem_cons.mpr ⟨lw_p8, List.forall_mem_cons.mpr ⟨lw_p9, List.forall_mem_cons.mpr ⟨lw_p10, List.forall_mem_cons.mpr ⟨lw_p11, List.forall_mem_cons.mpr ⟨lw_p12, List.forall_mem_cons.mpr ⟨lw_p13, List.forall_mem_cons.mpr ⟨lw_p14, List.forall_mem_cons.mpr ⟨lw_p15, fun _ h => absurd h List.not_mem_nil⟩⟩⟩⟩⟩⟩⟩⟩⟩⟩⟩⟩⟩⟩⟩⟩
theorem lw_p16 : lw_okq (⟨"MagnetColony$Survey", "blockedToEarlier", "(II)I"⟩, 8) := ⟨⟨by decide +kernel, by decide +kernel⟩, List.mem_of_getElem? (i := 98) (by decide +kernel), List.mem_of_getElem? (i := 647) (by decide +kernel), List.mem_of_getElem? (i := 648) (by decide +kernel)⟩
theorem lw_p17 : lw_okq (⟨"MagnetColony", "requireMagnet", "(I)V"⟩, 14) := ⟨⟨by decide +kernel, by decide +kernel⟩, List.mem_of_getElem? (i := 30) (by decide +kernel), List.mem_of_getElem? (i := 727) (by decide +kernel), List.mem_of_getElem? (i := 728) (by decide +kernel)⟩
theorem lw_p18 : lw_okq (⟨"MagnetColony$Colony", "rankOf", "(I)I"⟩, 10) := ⟨⟨by decide +kernel, by decide +kernel⟩, List.mem_of_getElem? (i := 38) (by decide +kernel), List.mem_of_getElem? (i := 795) (by decide +kernel), List.mem_of_getElem? (i := 796) (by decide +kernel)⟩
theorem lw_p19 : lw_okq (⟨"MagnetColony", "requireTunnel", "(I)V"⟩, 14) := ⟨⟨by decide +kernel, by decide +kernel⟩, List.mem_of_getElem? (i := 30) (by decide +kernel), List.mem_of_getElem? (i := 827) (by decide +kernel), List.mem_of_getElem? (i := 828) (by decide +kernel)⟩
theorem lw_p20 : lw_okq (⟨"MagnetColony$Survey", "walkOn", "(III)V"⟩, 8) := ⟨⟨by decide +kernel, by decide +kernel⟩, List.mem_of_getElem? (i := 98) (by decide +kernel), List.mem_of_getElem? (i := 849) (by decide +kernel), List.mem_of_getElem? (i := 850) (by decide +kernel)⟩
theorem lw_p21 : lw_okq (⟨"MagnetColony$Forces", "unsignedFieldAt", "(I)D"⟩, 1) := ⟨⟨by decide +kernel, by decide +kernel⟩, List.mem_of_getElem? (i := 129) (by decide +kernel), List.mem_of_getElem? (i := 916) (by decide +kernel), List.mem_of_getElem? (i := 917) (by decide +kernel)⟩
theorem lw_p22 : lw_okq (⟨"MagnetColony$Text", "parseCommand", "(ILMagnetColony$Command;)I"⟩, 5) := ⟨⟨by decide +kernel, by decide +kernel⟩, List.mem_of_getElem? (i := 179) (by decide +kernel), List.mem_of_getElem? (i := 1018) (by decide +kernel), List.mem_of_getElem? (i := 1019) (by decide +kernel)⟩
theorem lw_p23 : lw_okq (⟨"MagnetColony$Text", "matchKind", "(IILMagnetColony$Command;)I"⟩, 5) := ⟨⟨by decide +kernel, by decide +kernel⟩, List.mem_of_getElem? (i := 179) (by decide +kernel), List.mem_of_getElem? (i := 1022) (by decide +kernel), List.mem_of_getElem? (i := 1023) (by decide +kernel)⟩
theorem lw_p24 : lw_okq (⟨"MagnetColony$Text", "widthOf", "(CI)I"⟩, 5) := ⟨⟨by decide +kernel, by decide +kernel⟩, List.mem_of_getElem? (i := 179) (by decide +kernel), List.mem_of_getElem? (i := 1085) (by decide +kernel), List.mem_of_getElem? (i := 1086) (by decide +kernel)⟩
theorem lw_p25 : lw_okq (⟨"MagnetColony$Text", "isDigitAt", "(I)Z"⟩, 5) := ⟨⟨by decide +kernel, by decide +kernel⟩, List.mem_of_getElem? (i := 179) (by decide +kernel), List.mem_of_getElem? (i := 1089) (by decide +kernel), List.mem_of_getElem? (i := 1090) (by decide +kernel)⟩
theorem lw_p26 : lw_okq (⟨"MagnetColony$Text", "hasAt", "(IC)Z"⟩, 5) := ⟨⟨by decide +kernel, by decide +kernel⟩, List.mem_of_getElem? (i := 179) (by decide +kernel), List.mem_of_getElem? (i := 1093) (by decide +kernel), List.mem_of_getElem? (i := 1094) (by decide +kernel)⟩
theorem lw_p27 : lw_okq (⟨"MagnetColony$Text", "valueOf", "(CII)I"⟩, 5) := ⟨⟨by decide +kernel, by decide +kernel⟩, List.mem_of_getElem? (i := 179) (by decide +kernel), List.mem_of_getElem? (i := 1100) (by decide +kernel), List.mem_of_getElem? (i := 1101) (by decide +kernel)⟩
theorem lw_p28 : lw_okq (⟨"MagnetColony$Line", "putNumber", "(I)V"⟩, 2) := ⟨⟨by decide +kernel, by decide +kernel⟩, List.mem_of_getElem? (i := 230) (by decide +kernel), List.mem_of_getElem? (i := 1135) (by decide +kernel), List.mem_of_getElem? (i := 1136) (by decide +kernel)⟩
theorem lw_p29 : lw_okq (⟨"MagnetColony$Line", "put", "(C)V"⟩, 2) := ⟨⟨by decide +kernel, by decide +kernel⟩, List.mem_of_getElem? (i := 230) (by decide +kernel), List.mem_of_getElem? (i := 1139) (by decide +kernel), List.mem_of_getElem? (i := 1140) (by decide +kernel)⟩
theorem lw_p30 : lw_okq (⟨"MagnetColony", "requireDenial", "()V"⟩, 14) := ⟨⟨by decide +kernel, by decide +kernel⟩, List.mem_of_getElem? (i := 30) (by decide +kernel), List.mem_of_getElem? (i := 1161) (by decide +kernel), List.mem_of_getElem? (i := 1162) (by decide +kernel)⟩
theorem lw_p31 : lw_okq (⟨"MagnetColonyModel", "fails", "(I)Z"⟩, 20) := ⟨⟨by decide +kernel, by decide +kernel⟩, List.mem_of_getElem? (i := 1205) (by decide +kernel), List.mem_of_getElem? (i := 1283) (by decide +kernel), List.mem_of_getElem? (i := 1284) (by decide +kernel)⟩
def lw_privs_2 : List (MethodName × Nat) := [(⟨"MagnetColony$Survey", "blockedToEarlier", "(II)I"⟩, 8), (⟨"MagnetColony", "requireMagnet", "(I)V"⟩, 14), (⟨"MagnetColony$Colony", "rankOf", "(I)I"⟩, 10), (⟨"MagnetColony", "requireTunnel", "(I)V"⟩, 14), (⟨"MagnetColony$Survey", "walkOn", "(III)V"⟩, 8), (⟨"MagnetColony$Forces", "unsignedFieldAt", "(I)D"⟩, 1), (⟨"MagnetColony$Text", "parseCommand", "(ILMagnetColony$Command;)I"⟩, 5), (⟨"MagnetColony$Text", "matchKind", "(IILMagnetColony$Command;)I"⟩, 5), (⟨"MagnetColony$Text", "widthOf", "(CI)I"⟩, 5), (⟨"MagnetColony$Text", "isDigitAt", "(I)Z"⟩, 5), (⟨"MagnetColony$Text", "hasAt", "(IC)Z"⟩, 5), (⟨"MagnetColony$Text", "valueOf", "(CII)I"⟩, 5), (⟨"MagnetColony$Line", "putNumber", "(I)V"⟩, 2), (⟨"MagnetColony$Line", "put", "(C)V"⟩, 2), (⟨"MagnetColony", "requireDenial", "()V"⟩, 14), (⟨"MagnetColonyModel", "fails", "(I)Z"⟩, 20)]
theorem lw_r2 : ∀ q ∈ lw_privs_2, lw_okq q := List.forall_mem_cons.mpr ⟨lw_p16, List.forall_mem_cons.mpr ⟨lw_p17, List.forall_mem_cons.mpr ⟨lw_p18, List.forall_mem_cons.mpr ⟨lw_p19, List.forall_mem_cons.mpr ⟨lw_p20, List.forall_mem_cons.mpr ⟨lw_p21, List.forall_mem_cons.mpr ⟨lw_p22, List.forall_mem_cons.mpr ⟨lw_p23, List.forall_mem_cons.mpr ⟨lw_p24, List.forall_mem_cons.mpr ⟨lw_p25, List.forall_mem_cons.mpr ⟨lw_p26, List.forall_mem_cons.mpr ⟨lw_p27, List.forall_mem_cons.mpr ⟨lw_p28, List.forall_mem_cons.mpr ⟨lw_p29, List.forall_mem_cons.mpr ⟨lw_p30, List.forall_mem_cons.mpr ⟨lw_p31, fun _ h => absurd h List.not_mem_nil⟩⟩⟩⟩⟩⟩⟩⟩⟩⟩⟩⟩⟩⟩⟩⟩
theorem lw_p32 : lw_okq (⟨"MagnetColonyModel", "denies", "(III)I"⟩, 20) := ⟨⟨by decide +kernel, by decide +kernel⟩, List.mem_of_getElem? (i := 1205) (by decide +kernel), List.mem_of_getElem? (i := 1287) (by decide +kernel), List.mem_of_getElem? (i := 1288) (by decide +kernel)⟩
theorem lw_p33 : lw_okq (⟨"MagnetColonyModel", "found", "(I)I"⟩, 20) := ⟨⟨by decide +kernel, by decide +kernel⟩, List.mem_of_getElem? (i := 1205) (by decide +kernel), List.mem_of_getElem? (i := 1291) (by decide +kernel), List.mem_of_getElem? (i := 1292) (by decide +kernel)⟩
theorem lw_p34 : lw_okq (⟨"MagnetColonyModel", "of", "(II)I"⟩, 20) := ⟨⟨by decide +kernel, by decide +kernel⟩, List.mem_of_getElem? (i := 1205) (by decide +kernel), List.mem_of_getElem? (i := 1295) (by decide +kernel), List.mem_of_getElem? (i := 1296) (by decide +kernel)⟩
theorem lw_p35 : lw_okq (⟨"MagnetColonyModel", "keeps", "([I)V"⟩, 20) := ⟨⟨by decide +kernel, by decide +kernel⟩, List.mem_of_getElem? (i := 1205) (by decide +kernel), List.mem_of_getElem? (i := 1299) (by decide +kernel), List.mem_of_getElem? (i := 1300) (by decide +kernel)⟩
theorem lw_p36 : lw_okq (⟨"MagnetColonyModel", "lays", "(III)V"⟩, 20) := ⟨⟨by decide +kernel, by decide +kernel⟩, List.mem_of_getElem? (i := 1205) (by decide +kernel), List.mem_of_getElem? (i := 1306) (by decide +kernel), List.mem_of_getElem? (i := 1307) (by decide +kernel)⟩
theorem lw_p37 : lw_okq (⟨"MagnetColonyModel", "isNone", "(I)Z"⟩, 20) := ⟨⟨by decide +kernel, by decide +kernel⟩, List.mem_of_getElem? (i := 1205) (by decide +kernel), List.mem_of_getElem? (i := 1314) (by decide +kernel), List.mem_of_getElem? (i := 1315) (by decide +kernel)⟩
theorem lw_p38 : lw_okq (⟨"MagnetColonyModel", "isMagnet", "(I)Z"⟩, 20) := ⟨⟨by decide +kernel, by decide +kernel⟩, List.mem_of_getElem? (i := 1205) (by decide +kernel), List.mem_of_getElem? (i := 1318) (by decide +kernel), List.mem_of_getElem? (i := 1319) (by decide +kernel)⟩
theorem lw_p39 : lw_okq (⟨"MagnetColonyModel", "turnsOne", "(I)V"⟩, 20) := ⟨⟨by decide +kernel, by decide +kernel⟩, List.mem_of_getElem? (i := 1205) (by decide +kernel), List.mem_of_getElem? (i := 1326) (by decide +kernel), List.mem_of_getElem? (i := 1327) (by decide +kernel)⟩
theorem lw_p40 : lw_okq (⟨"MagnetColonyModel", "shut", "(I)I"⟩, 20) := ⟨⟨by decide +kernel, by decide +kernel⟩, List.mem_of_getElem? (i := 1205) (by decide +kernel), List.mem_of_getElem? (i := 1330) (by decide +kernel), List.mem_of_getElem? (i := 1331) (by decide +kernel)⟩
theorem lw_p41 : lw_okq (⟨"MagnetColonyModel", "isFree", "(II)Z"⟩, 20) := ⟨⟨by decide +kernel, by decide +kernel⟩, List.mem_of_getElem? (i := 1205) (by decide +kernel), List.mem_of_getElem? (i := 1334) (by decide +kernel), List.mem_of_getElem? (i := 1335) (by decide +kernel)⟩
theorem lw_p42 : lw_okq (⟨"MagnetColonyModel", "joins", "(II)I"⟩, 20) := ⟨⟨by decide +kernel, by decide +kernel⟩, List.mem_of_getElem? (i := 1205) (by decide +kernel), List.mem_of_getElem? (i := 1338) (by decide +kernel), List.mem_of_getElem? (i := 1339) (by decide +kernel)⟩
theorem lw_p43 : lw_okq (⟨"MagnetColonyModel", "pull", "(I)F"⟩, 20) := ⟨⟨by decide +kernel, by decide +kernel⟩, List.mem_of_getElem? (i := 1205) (by decide +kernel), List.mem_of_getElem? (i := 1350) (by decide +kernel), List.mem_of_getElem? (i := 1351) (by decide +kernel)⟩
theorem lw_p44 : lw_okq (⟨"MagnetColonyModel", "sign", "(I)C"⟩, 20) := ⟨⟨by decide +kernel, by decide +kernel⟩, List.mem_of_getElem? (i := 1205) (by decide +kernel), List.mem_of_getElem? (i := 1370) (by decide +kernel), List.mem_of_getElem? (i := 1371) (by decide +kernel)⟩
theorem lw_p45 : lw_okq (⟨"MagnetColonyModel", "isAhead", "(II)Z"⟩, 20) := ⟨⟨by decide +kernel, by decide +kernel⟩, List.mem_of_getElem? (i := 1205) (by decide +kernel), List.mem_of_getElem? (i := 1382) (by decide +kernel), List.mem_of_getElem? (i := 1383) (by decide +kernel)⟩
theorem lw_p46 : lw_okq (⟨"MagnetColonyModel", "between", "(II)I"⟩, 20) := ⟨⟨by decide +kernel, by decide +kernel⟩, List.mem_of_getElem? (i := 1205) (by decide +kernel), List.mem_of_getElem? (i := 1390) (by decide +kernel), List.mem_of_getElem? (i := 1391) (by decide +kernel)⟩
theorem lw_p47 : lw_okq (⟨"MagnetColonyModel", "isTunnel", "(I)Z"⟩, 20) := ⟨⟨by decide +kernel, by decide +kernel⟩, List.mem_of_getElem? (i := 1205) (by decide +kernel), List.mem_of_getElem? (i := 1398) (by decide +kernel), List.mem_of_getElem? (i := 1399) (by decide +kernel)⟩
def lw_privs_3 : List (MethodName × Nat) := [(⟨"MagnetColonyModel", "denies", "(III)I"⟩, 20), (⟨"MagnetColonyModel", "found", "(I)I"⟩, 20), (⟨"MagnetColonyModel", "of", "(II)I"⟩, 20), (⟨"MagnetColonyModel", "keeps", "([I)V"⟩, 20), (⟨"MagnetColonyModel", "lays", "(III)V"⟩, 20), (⟨"MagnetColonyModel", "isNone", "(I)Z"⟩, 20), (⟨"MagnetColonyModel", "isMagnet", "(I)Z"⟩, 20), (⟨"MagnetColonyModel", "turnsOne", "(I)V"⟩, 20), (⟨"MagnetColonyModel", "shut", "(I)I"⟩, 20), (⟨"MagnetColonyModel", "isFree", "(II)Z"⟩, 20), (⟨"MagnetColonyModel", "joins", "(II)I"⟩, 20), (⟨"MagnetColonyModel", "pull", "(I)F"⟩, 20), (⟨"MagnetColonyModel", "sign", "(I)C"⟩, 20), (⟨"MagnetColonyModel", "isAhead", "(II)Z"⟩, 20), (⟨"MagnetColonyModel", "between", "(II)I"⟩, 20), (⟨"MagnetColonyModel", "isTunnel", "(I)Z"⟩, 20)]
theorem lw_r3 : ∀ q ∈ lw_privs_3, lw_okq q := List.forall_mem_cons.mpr ⟨lw_p32, List.forall_mem_cons.mpr ⟨lw_p33, List.forall_mem_cons.mpr ⟨lw_p34, List.forall_mem_cons.mpr ⟨lw_p35, List.forall_mem_cons.mpr ⟨lw_p36, List.forall_mem_cons.mpr ⟨lw_p37, List.forall_mem_cons.mpr ⟨lw_p38, List.forall_mem_cons.mpr ⟨lw_p39, List.forall_mem_cons.mpr ⟨lw_p40, List.forall_mem_cons.mpr ⟨lw_p41, List.forall_mem_cons.mpr ⟨lw_p42, List.forall_mem_cons.mpr ⟨lw_p43, List.forall_mem_cons.mpr ⟨lw_p44, List.forall_mem_cons.mpr ⟨lw_p45, List.forall_mem_cons.mpr ⟨lw_p46, List.forall_mem_cons.mpr ⟨lw_p47, fun _ h => absurd h List.not_mem_nil⟩⟩⟩⟩⟩⟩⟩⟩⟩⟩⟩⟩⟩⟩⟩⟩
theorem lw_p48 : lw_okq (⟨"MagnetColonyModel", "best", "()I"⟩, 20) := ⟨⟨by decide +kernel, by decide +kernel⟩, List.mem_of_getElem? (i := 1205) (by decide +kernel), List.mem_of_getElem? (i := 1406) (by decide +kernel), List.mem_of_getElem? (i := 1407) (by decide +kernel)⟩
theorem lw_p49 : lw_okq (⟨"MagnetColonyModel", "partsWithout", "(I)I"⟩, 20) := ⟨⟨by decide +kernel, by decide +kernel⟩, List.mem_of_getElem? (i := 1205) (by decide +kernel), List.mem_of_getElem? (i := 1429) (by decide +kernel), List.mem_of_getElem? (i := 1430) (by decide +kernel)⟩
theorem lw_p50 : lw_okq (⟨"MagnetColonyModel", "part", "(II)I"⟩, 20) := ⟨⟨by decide +kernel, by decide +kernel⟩, List.mem_of_getElem? (i := 1205) (by decide +kernel), List.mem_of_getElem? (i := 1433) (by decide +kernel), List.mem_of_getElem? (i := 1434) (by decide +kernel)⟩
theorem lw_p51 : lw_okq (⟨"MagnetColonyModel", "spans", "()I"⟩, 20) := ⟨⟨by decide +kernel, by decide +kernel⟩, List.mem_of_getElem? (i := 1205) (by decide +kernel), List.mem_of_getElem? (i := 1445) (by decide +kernel), List.mem_of_getElem? (i := 1446) (by decide +kernel)⟩
theorem lw_p52 : lw_okq (⟨"MagnetColonyModel", "fewest", "()I"⟩, 20) := ⟨⟨by decide +kernel, by decide +kernel⟩, List.mem_of_getElem? (i := 1205) (by decide +kernel), List.mem_of_getElem? (i := 1465) (by decide +kernel), List.mem_of_getElem? (i := 1466) (by decide +kernel)⟩
theorem lw_p53 : lw_okq (⟨"MagnetColonyModel", "leastShut", "()I"⟩, 20) := ⟨⟨by decide +kernel, by decide +kernel⟩, List.mem_of_getElem? (i := 1205) (by decide +kernel), List.mem_of_getElem? (i := 1477) (by decide +kernel), List.mem_of_getElem? (i := 1478) (by decide +kernel)⟩
theorem lw_p54 : lw_okq (⟨"MagnetColonyModel", "fieldAt", "(I)D"⟩, 20) := ⟨⟨by decide +kernel, by decide +kernel⟩, List.mem_of_getElem? (i := 1205) (by decide +kernel), List.mem_of_getElem? (i := 1497) (by decide +kernel), List.mem_of_getElem? (i := 1498) (by decide +kernel)⟩
theorem lw_p55 : lw_okq (⟨"MagnetColonyModel", "isText", "()Z"⟩, 20) := ⟨⟨by decide +kernel, by decide +kernel⟩, List.mem_of_getElem? (i := 1205) (by decide +kernel), List.mem_of_getElem? (i := 1543) (by decide +kernel), List.mem_of_getElem? (i := 1544) (by decide +kernel)⟩
theorem lw_p56 : lw_okq (⟨"MagnetColonyModel", "commandHere", "()Z"⟩, 20) := ⟨⟨by decide +kernel, by decide +kernel⟩, List.mem_of_getElem? (i := 1205) (by decide +kernel), List.mem_of_getElem? (i := 1547) (by decide +kernel), List.mem_of_getElem? (i := 1548) (by decide +kernel)⟩
theorem lw_p57 : lw_okq (⟨"MagnetColonyModel", "skips", "(I)Z"⟩, 20) := ⟨⟨by decide +kernel, by decide +kernel⟩, List.mem_of_getElem? (i := 1205) (by decide +kernel), List.mem_of_getElem? (i := 1551) (by decide +kernel), List.mem_of_getElem? (i := 1552) (by decide +kernel)⟩
theorem lw_p58 : lw_okq (⟨"MagnetColonyModel", "here", "()I"⟩, 20) := ⟨⟨by decide +kernel, by decide +kernel⟩, List.mem_of_getElem? (i := 1205) (by decide +kernel), List.mem_of_getElem? (i := 1555) (by decide +kernel), List.mem_of_getElem? (i := 1556) (by decide +kernel)⟩
theorem lw_p59 : lw_okq (⟨"MagnetColonyModel", "isWord", "(ILjava/lang/String;)Z"⟩, 20) := ⟨⟨by decide +kernel, by decide +kernel⟩, List.mem_of_getElem? (i := 1205) (by decide +kernel), List.mem_of_getElem? (i := 1560) (by decide +kernel), List.mem_of_getElem? (i := 1561) (by decide +kernel)⟩
theorem lw_p60 : lw_okq (⟨"MagnetColonyModel", "figures", "(III)Z"⟩, 20) := ⟨⟨by decide +kernel, by decide +kernel⟩, List.mem_of_getElem? (i := 1205) (by decide +kernel), List.mem_of_getElem? (i := 1566) (by decide +kernel), List.mem_of_getElem? (i := 1567) (by decide +kernel)⟩
theorem lw_p61 : lw_okq (⟨"MagnetColonyModel", "poleHere", "(I)Z"⟩, 20) := ⟨⟨by decide +kernel, by decide +kernel⟩, List.mem_of_getElem? (i := 1205) (by decide +kernel), List.mem_of_getElem? (i := 1574) (by decide +kernel), List.mem_of_getElem? (i := 1575) (by decide +kernel)⟩
theorem lw_p62 : lw_okq (⟨"MagnetColonyModel", "carries", "(I)I"⟩, 20) := ⟨⟨by decide +kernel, by decide +kernel⟩, List.mem_of_getElem? (i := 1205) (by decide +kernel), List.mem_of_getElem? (i := 1581) (by decide +kernel), List.mem_of_getElem? (i := 1582) (by decide +kernel)⟩
theorem lw_p63 : lw_okq (⟨"MagnetColonyModel", "deniesText", "(I)I"⟩, 20) := ⟨⟨by decide +kernel, by decide +kernel⟩, List.mem_of_getElem? (i := 1205) (by decide +kernel), List.mem_of_getElem? (i := 1593) (by decide +kernel), List.mem_of_getElem? (i := 1594) (by decide +kernel)⟩
def lw_privs_4 : List (MethodName × Nat) := [(⟨"MagnetColonyModel", "best", "()I"⟩, 20), (⟨"MagnetColonyModel", "partsWithout", "(I)I"⟩, 20), (⟨"MagnetColonyModel", "part", "(II)I"⟩, 20), (⟨"MagnetColonyModel", "spans", "()I"⟩, 20), (⟨"MagnetColonyModel", "fewest", "()I"⟩, 20), (⟨"MagnetColonyModel", "leastShut", "()I"⟩, 20), (⟨"MagnetColonyModel", "fieldAt", "(I)D"⟩, 20), (⟨"MagnetColonyModel", "isText", "()Z"⟩, 20), (⟨"MagnetColonyModel", "commandHere", "()Z"⟩, 20), (⟨"MagnetColonyModel", "skips", "(I)Z"⟩, 20), (⟨"MagnetColonyModel", "here", "()I"⟩, 20), (⟨"MagnetColonyModel", "isWord", "(ILjava/lang/String;)Z"⟩, 20), (⟨"MagnetColonyModel", "figures", "(III)Z"⟩, 20), (⟨"MagnetColonyModel", "poleHere", "(I)Z"⟩, 20), (⟨"MagnetColonyModel", "carries", "(I)I"⟩, 20), (⟨"MagnetColonyModel", "deniesText", "(I)I"⟩, 20)]
theorem lw_r4 : ∀ q ∈ lw_privs_4, lw_okq q := List.forall_mem_cons.mpr ⟨lw_p48, List.forall_mem_cons.mpr ⟨lw_p49, List.forall_mem_cons.mpr ⟨lw_p50, List.forall_mem_cons.mpr ⟨lw_p51, List.forall_mem_cons.mpr ⟨lw_p52, List.forall_mem_cons.mpr ⟨lw_p53, List.forall_mem_cons.mpr ⟨lw_p54, List.forall_mem_cons.mpr ⟨lw_p55, List.forall_mem_cons.mpr ⟨lw_p56, List.forall_mem_cons.mpr ⟨lw_p57, List.forall_mem_cons.mpr ⟨lw_p58, List.forall_mem_cons.mpr ⟨lw_p59, List.forall_mem_cons.mpr ⟨lw_p60, List.forall_mem_cons.mpr ⟨lw_p61, List.forall_mem_cons.mpr ⟨lw_p62, List.forall_mem_cons.mpr ⟨lw_p63, fun _ h => absurd h List.not_mem_nil⟩⟩⟩⟩⟩⟩⟩⟩⟩⟩⟩⟩⟩⟩⟩⟩
theorem lw_p64 : lw_okq (⟨"MagnetColonyModel", "writesNumber", "(I)V"⟩, 20) := ⟨⟨by decide +kernel, by decide +kernel⟩, List.mem_of_getElem? (i := 1205) (by decide +kernel), List.mem_of_getElem? (i := 1605) (by decide +kernel), List.mem_of_getElem? (i := 1606) (by decide +kernel)⟩
theorem lw_p65 : lw_okq (⟨"MagnetColonyModel", "writes", "(I)V"⟩, 20) := ⟨⟨by decide +kernel, by decide +kernel⟩, List.mem_of_getElem? (i := 1205) (by decide +kernel), List.mem_of_getElem? (i := 1609) (by decide +kernel), List.mem_of_getElem? (i := 1610) (by decide +kernel)⟩
theorem lw_p66 : lw_okq (⟨"MagnetColonyModel", "writesBehind", "(II)V"⟩, 20) := ⟨⟨by decide +kernel, by decide +kernel⟩, List.mem_of_getElem? (i := 1205) (by decide +kernel), List.mem_of_getElem? (i := 1613) (by decide +kernel), List.mem_of_getElem? (i := 1614) (by decide +kernel)⟩
def lw_privs_5 : List (MethodName × Nat) := [(⟨"MagnetColonyModel", "writesNumber", "(I)V"⟩, 20), (⟨"MagnetColonyModel", "writes", "(I)V"⟩, 20), (⟨"MagnetColonyModel", "writesBehind", "(II)V"⟩, 20)]
theorem lw_r5 : ∀ q ∈ lw_privs_5, lw_okq q := List.forall_mem_cons.mpr ⟨lw_p64, List.forall_mem_cons.mpr ⟨lw_p65, List.forall_mem_cons.mpr ⟨lw_p66, fun _ h => absurd h List.not_mem_nil⟩⟩⟩
def lw_privs : List (MethodName × Nat) := lw_privs_1 ++ (lw_privs_2 ++ (lw_privs_3 ++ (lw_privs_4 ++ (lw_privs_5))))
def lw_tbl : List Cond := k2_sels lw_privs ++ tables_1
theorem lw_privs_ok : ∀ q ∈ lw_privs, lw_okq q := by
  show ∀ q ∈ lw_privs_1 ++ (lw_privs_2 ++ (lw_privs_3 ++ (lw_privs_4 ++ (lw_privs_5)))), lw_okq q
  exact List.forall_mem_append.mpr ⟨lw_r1, List.forall_mem_append.mpr ⟨lw_r2, List.forall_mem_append.mpr ⟨lw_r3, List.forall_mem_append.mpr ⟨lw_r4, lw_r5⟩⟩⟩⟩
/-- the streams that the claim lets the run draw from -/
abbrev lw_cs : List Choice := [Jvm.Choice.named "NaN.bits"]
theorem lw_bits : nanBits ∈ lw_cs := by first | decide | exact List.mem_cons_self | simp [lw_cs, nanBits]

/-! ===== BEGIN words of one list among another's, by their places ===== -/
theorem goodIn_r {big : List Cond} (ws : List Cond) (ps : List Nat) (hp : ws = ps.filterMap (fun i => big[i]?)) (h : ws.all goodWord = true) : GoodIn big ws := by
  intro w hw
  have h1 := List.all_eq_true.mp h w hw
  rw [hp] at hw
  obtain ⟨i, -, hi⟩ := List.mem_filterMap.mp hw
  have hm : w ∈ big := by first | exact List.mem_of_getElem? hi | exact List.getElem?_mem hi
  exact ⟨hm, good_of_word h1⟩
theorem goodIn_app {big a b : List Cond} (ha : GoodIn big a) (hb : GoodIn big b) : GoodIn big (a ++ b) := fun w h => (List.mem_append.mp h).elim (ha w) (hb w)
theorem goodIn_ca {big a b : List Cond} {c : Cond} (ha : GoodIn big (c :: a)) (hb : GoodIn big b) : GoodIn big (c :: (a ++ b)) := fun w h => (List.mem_cons.mp h).elim (fun e => ha w (List.mem_cons.mpr (Or.inl e))) (fun h => (List.mem_append.mp h).elim (fun h => ha w (List.mem_cons.mpr (Or.inr h))) (hb w))
theorem goodIn_sub {big ws : List Cond} (hm : ∀ w ∈ ws, w ∈ big) (h : ws.all goodWord = true) : GoodIn big ws := fun w hw => ⟨hm w hw, good_of_word (List.all_eq_true.mp h w hw)⟩
/-! ===== END ===== -/

/-! ===== BEGIN exceptions that leave a method, and their catching by the caller (launches without stack traces) ===== -/
section VXA
/-! The laws vx_back, vx_callV, vx_callS, vx_callSW, vx_throw0, vx_throwS follow proofs of the library, with one case more: JvmDerived/Free/Laws.lean (Back.of_free), Shelf42/LK1.lean (callV, callS), Shelf/KitTraced.lean (throwNew0V, throwNewS). -/
/-- where a method has thrown q: the class by its name, the cell, what was written, the world -/
def vx_T (XC : String → State → State → Prop) (st : State) (q : Addr) (t : State) (mc ms : Nat) (free : Addr → Prop) : Prop :=
  ∃ (E : String) (ce : Cell) (L : List Loc), XC E st t ∧ t.heap[q]? = some ce ∧ ce.vm = .none ∧ st.vm.findClass E = some ce.cls ∧ st.WarmedH t.vm ∧ st.sameButNew ({ t with vm := st.vm } : State) L mc ms ∧ ∀ z ∈ L, free z.base
def vx_Q (Qc : Array Value → State → Outcome → State → Prop) (XC : String → State → State → Prop) (mc ms : Nat) (free : Addr → Prop) : Array Value → State → Outcome → State → Prop := fun a st o t =>
  (Qc a st o t ∧ ∃ L, FrameEnd st o t L mc ms ∧ ∀ q ∈ L, free q.base) ∨ ∃ q, o = .threw q ∧ vx_T XC st q t mc ms free
/-- a callee that returns or throws -/
def vx_Met (l : Launch) (y : MethodName) (ws : List Cond) (rm : Room) (Pc : Array Value → State → Prop) (Qc : Array Value → State → Outcome → State → Prop) (XC : String → State → State → Prop) (mc ms : Nat) (free : Addr → Prop) : Prop :=
  MetFree l y (headSpec ws rm) Pc (fun _ _ _ _ _ => True) (vx_Q Qc XC mc ms free)
def vx_Post (XC : String → State → State → Prop) (mc ms : Nat) (free : Addr → Prop) : Pt → Array Value → Addr → Pt → Prop := fun A a q B =>
  ∃ (g : JFrame) (mk : MethodId) (t : State) (L : List Loc) (E : String) (ce : Cell), B.U.heap = t.heap ∧ B.U.vm = t.vm ∧ XC E (A.U.calling g mk a) t ∧ t.heap[q]? = some ce ∧ ce.vm = .none ∧ A.U.vm.findClass E = some ce.cls ∧ B.locs = A.locs ++ L ∧ (∀ z ∈ L, free z.base) ∧ B.cells = A.cells + mc ∧ B.slots = A.slots + ms
def vx_Back (l : Launch) (R : Room) (p : Program) (e : Env) (below : List Frame) (s : State) (sargs : Array Value) (y : MethodName) (len W9 : Nat)
    (Pre : Pt → Array Value → Prop) (Post : Pt → Array Value → Option Value → Pt → Prop) (PostX : Pt → Array Value → Addr → Pt → Prop) : Prop :=
  ∀ (m : MethodId) (meth : Method) (c : Code) (A : Pt) (g : JFrame) (ig : Instr) (mk : MethodId) (a : Array Value),
    Stand p l e R s m sargs below meth c A.U A.locs A.cells A.slots → g.method = m → g.locals.size = c.maxLocals → decode c.code g.pc = .ok (ig, len) →
    2 * g.monitorRoom + (g.stack.map fun v => v.category).sum ≤ W9 → A.U.methodNamed? y = some mk → Pre A a →
    (∃ (v : Option Value) (B : Pt), Stand p l e R s m sargs below meth c B.U B.locs B.cells B.slots ∧ Post A a v B ∧
      Steps p.tables e below (doInvoke e (A.U.setTop g) [] mk a).1 (B.U.setTop { g with pc := g.pc + len, stack := v.toList ++ g.stack })) ∨
    (∃ (q : Addr) (B : Pt), Stand p l e R s m sargs below meth c B.U B.locs B.cells B.slots ∧ PostX A a q B ∧
      Steps p.tables e below (doInvoke e (A.U.setTop g) [] mk a).1 ((B.U.setTop g).pushFrame (.throwing q)))
section Payer
variable {l : Launch} {R : Room} {p : Program} {e : Env} {below : List Frame} {s : State} {sargs : Array Value} {y : MethodName} {len W9 : Nat}
theorem vx_back {ws : List Cond} {rm : Room} {Pc : Array Value → State → Prop} {Qc : Array Value → State → Outcome → State → Prop} {XC : String → State → State → Prop} {mc ms : Nat} {free : Addr → Prop} {bytes : ByteArray} {maxL : Nat} {ret : Option FieldType}
    (hM : vx_Met l y ws rm Pc Qc XC mc ms free) (hblind : FrameBlind Pc) (hrc : rm.cells = mc) (hrs : rm.slots = ms)
    (hframes : rm.frames + 1 ≤ R.frames) (hlocals : W9 + (maxL + 11) + rm.locals ≤ R.locals)
    (hws : ∀ w ∈ ws, ∀ a' U, s.WarmedH U.vm → w.before a' U = true) (hcode : Cond.code y bytes maxL ret ∈ ws) (hinit : ∀ a' U, s.WarmedH U.vm → (Cond.initialized y.cls).before a' U = true) :
    vx_Back l R p e below s sargs y len W9 (PreOf R mc ms Pc) (PostOf Qc mc ms free) (vx_Post XC mc ms free) := by
  intro m meth c A g ig mk a X hg hsize hdg hW hn hp
  have h1 : (headSpec ws rm).pre.before a A.U = true := atoms_intro fun w hw => hws w hw _ _ X.warmed
  have h2 : (Cond.code y bytes maxL ret).before a A.U = true := hws _ hcode _ _ X.warmed
  have h3 : (Cond.initialized y.cls).before a A.U = true := hinit _ _ X.warmed
  have h4 : A.cells + (headSpec ws rm).room.cells ≤ R.cells := by rw [show (headSpec ws rm).room.cells = mc from hrc]; exact hp.1
  have h5 : A.slots + (headSpec ws rm).room.slots ≤ R.slots := by rw [show (headSpec ws rm).room.slots = ms from hrs]; exact hp.2.1
  have hPc : Pc a (A.U.calling g mk a) := hblind _ _ _ _ hp.2.2
  obtain ⟨U, Ls, c0, s0⟩ := A
  dsimp only [Pt.U, Pt.locs, Pt.cells, Pt.slots] at h1 h2 h3 h4 h5 X hn hPc ⊢
  obtain ⟨methY, cY, hmY, hcY, -, hlY, -, -, -, -⟩ := Cond.code_spec hn h2
  obtain ⟨kY, hkY, -⟩ := className_of_methodNamed hn
  have hinitY : kY.init = .initialized := Cond.initialized_spec (findClass_of_methodNamed hn) hkY h3
  have h : At U g.method c below := by rw [hg]; exact X.here
  have hlocals9 : W9 + (maxL + 11) + (headSpec ws rm).room.locals ≤ R.locals := hlocals
  have happ : (headSpec ws rm).appliesLoose y e.platform (U.calling g mk a) = true :=
    Spec.appliesLoose_calling (g := g) h hdg hn hkY hinitY
      (X.room_calling (g := g) (R' := (headSpec ws rm).room) hsize hmY hcY hframes (by rw [hlY]; omega) h4 h5) h1
  obtain ⟨mid, hmid⟩ := h.above
  have hfr : (U.setTop g).frames = (.java g :: mid) ++ below := by rw [State.frames_setTop' g h.top, hmid]; rfl
  obtain ⟨o, s₂, hsteps, -, hend, hq⟩ := Steps.callFree hM p X.admits X.cas X.clock (acts := []) hfr happ hPc trivial
  have hq' : vx_Q Qc XC mc ms free a (U.calling g mk a) o s₂ := hq
  rw [State.frames_setTop' g h.top] at hend
  obtain ⟨g₀, hg0⟩ := Option.isSome_iff_exists.mp h.top
  obtain ⟨r, hr⟩ := State.topJava?_eq_some.mp hg0
  have hr' : (({ U with heap := s₂.heap, slotsUsed := s₂.slotsUsed } : State).setVm s₂.vm).frames = .java g₀ :: r := hr
  rcases hq' with ⟨hqc, L, hfe, hL⟩ | ⟨q, rfl, E, ce, L, hx, hce, hcv, hcl, hW₂, hsm, hL⟩
  · obtain ⟨⟨v, rfl⟩, hW₂, e2, q2, q3, q4, q5, q6⟩ := id hfe
    have e3 : s₂ = ({ (U.calling g mk a).setFrames s₂.frames with heap := s₂.heap, slotsUsed := s₂.slotsUsed } : State).setVm s₂.vm := by
      have : s₂ = ({ s₂ with vm := (U.calling g mk a).vm } : State).setVm s₂.vm := rfl
      rw [e2] at this
      exact this
    obtain ⟨c₂, i₂, len₂, hc₂, hd₂, hf₂⟩ := hend
    have hW' : U.WarmedH s₂.vm := hW₂
    have hcc : c₂ = c := by
      have h1 : s₂.code? g.method = U.code? g.method := by
        rw [State.code?_eq, State.code?_eq, hW'.alike.method?]
      exact Option.some.inj (hc₂.symm.trans (h1.trans h.code))
    subst hcc
    have hlen : len₂ = len := by rw [hdg] at hd₂; cases hd₂; rfl
    subst hlen
    have hs₂ : s₂ = (({ U with heap := s₂.heap, slotsUsed := s₂.slotsUsed } : State).setVm s₂.vm).setTop { g with pc := g.pc + len₂, stack := v.toList ++ g.stack } := by
      refine e3.trans ?_
      rw [hf₂, State.calling_eq h.top, State.setFrames_setFrames, State.setTop_of_frames _ hr', hr]
      rfl
    have hsame : U.sameButNew ({ U with heap := s₂.heap, slotsUsed := s₂.slotsUsed } : State) L mc ms := by
      refine ⟨?_, q2, q3, q4, q5, q6⟩
      obtain ⟨t, ht, -⟩ := State.frames_cons hr
      show ({ U with heap := s₂.heap, slotsUsed := s₂.slotsUsed } : State) = { U.setFrames U.frames with heap := s₂.heap, slotsUsed := s₂.slotsUsed }
      rw [State.setFrames_self ht]
    subst hg
    refine Or.inl ⟨v, ⟨(({ U with heap := s₂.heap, slotsUsed := s₂.slotsUsed } : State).setVm s₂.vm), Ls ++ L, c0 + mc, s0 + ms⟩,
      ⟨X.admits, X.cas, X.clock, X.frames, X.room, X.hears, X.method, X.code, (X.here.setHeapUsed s₂.heap s₂.slotsUsed).setVm hW'.alike, X.tail, State.WarmedH.trans X.warmed hW', X.limits, X.bytes, X.same.trans (hsame.setVm s.vm)⟩,
      ⟨g, mk, s₂, L, rfl, rfl, hqc, rfl, hL, rfl, rfl⟩, ?_⟩
    show Steps p.tables e below _ ((({ U with heap := s₂.heap, slotsUsed := s₂.slotsUsed } : State).setVm s₂.vm).setTop { g with pc := g.pc + len₂, stack := v.toList ++ g.stack })
    rw [← hs₂]
    exact hsteps
  · obtain ⟨e2, q2, q3, q4, q5, q6⟩ := id hsm
    have e3 : s₂ = ({ (U.calling g mk a).setFrames s₂.frames with heap := s₂.heap, slotsUsed := s₂.slotsUsed } : State).setVm s₂.vm := by
      have : s₂ = ({ s₂ with vm := (U.calling g mk a).vm } : State).setVm s₂.vm := rfl
      rw [e2] at this
      exact this
    have hf₂ : s₂.frames = .throwing q :: .java g :: U.frames.tail := hend
    have hW' : U.WarmedH s₂.vm := hW₂
    have hs₂ : s₂ = ((({ U with heap := s₂.heap, slotsUsed := s₂.slotsUsed } : State).setVm s₂.vm).setTop g).pushFrame (.throwing q) := by
      refine e3.trans ?_
      rw [hf₂, State.calling_eq h.top, State.setFrames_setFrames, State.pushFrame, State.frames_setTop _ hr', State.setTop_of_frames _ hr', State.setFrames_setFrames, hr]
      rfl
    have hsame : U.sameButNew ({ U with heap := s₂.heap, slotsUsed := s₂.slotsUsed } : State) L mc ms := by
      refine ⟨?_, q2, q3, q4, q5, q6⟩
      obtain ⟨t, ht, -⟩ := State.frames_cons hr
      show ({ U with heap := s₂.heap, slotsUsed := s₂.slotsUsed } : State) = { U.setFrames U.frames with heap := s₂.heap, slotsUsed := s₂.slotsUsed }
      rw [State.setFrames_self ht]
    subst hg
    refine Or.inr ⟨q, ⟨(({ U with heap := s₂.heap, slotsUsed := s₂.slotsUsed } : State).setVm s₂.vm), Ls ++ L, c0 + mc, s0 + ms⟩,
      ⟨X.admits, X.cas, X.clock, X.frames, X.room, X.hears, X.method, X.code, (X.here.setHeapUsed s₂.heap s₂.slotsUsed).setVm hW'.alike, X.tail, State.WarmedH.trans X.warmed hW', X.limits, X.bytes, X.same.trans (hsame.setVm s.vm)⟩,
      ⟨g, mk, s₂, L, E, ce, rfl, rfl, hx, hce, hcv, hcl, rfl, hL, rfl, rfl⟩, ?_⟩
    show Steps p.tables e below _ (((({ U with heap := s₂.heap, slotsUsed := s₂.slotsUsed } : State).setVm s₂.vm).setTop g).pushFrame (.throwing q))
    rw [← hs₂]
    exact hsteps
end Payer
section Calls
variable {p : Program} {l : Launch} {e : Env} {R : Room} {s : State} {m : MethodId} {args : Array Value} {below : List Frame} {meth : Method} {c : Code} {T : State} {locs : List Loc} {cells slots : Nat}
theorem vx_callV (X : Stand p l e R s m args below meth c T locs cells slots) (hexec : p.tables.exec = Jvm.exec) {own C : String} {index : Nat} {y : MethodName} {bytes : ByteArray} {maxL : Nat} {ret : Option FieldType}
    (hown : s.vm.findClass own = some m.cls) (hlink : (Cond.methodLink own index y).before args s = true) (hinst : (Cond.instanceMethod y).before args s = true) (hsel : (Cond.selects C y y).before args s = true)
    (hcode : (Cond.code y bytes maxL ret).before args s = true) (hy : y.cls ≠ "java/lang/invoke/MethodHandle" ∧ y.cls ≠ "java/lang/invoke/VarHandle")
    {W9 : Nat} {Pre : Pt → Array Value → Prop} {Post : Pt → Array Value → Option Value → Pt → Prop} {PostX : Pt → Array Value → Addr → Pt → Prop} (hK : vx_Back l R p e below s args y 3 W9 Pre Post PostX)
    {b : Addr} {cellB : Cell} (hcell : T.heap[b]? = some cellB) (hobj : cellB.vm.isStatics = false) (hcls : s.vm.findClass C = some cellB.cls)
    {g : JFrame} (hg : g.method = m) (hsize : g.locals.size = c.maxLocals) {argsL rest : List Value} (hlen : ∀ sig, parseMethodDescriptor y.desc = some sig → argsL.length = sig.parameters.length)
    (hstack : g.stack = argsL.reverse ++ .ref b :: rest) (hW : 2 * g.monitorRoom + (rest.map fun v => v.category).sum ≤ W9) (hdg : decode c.code g.pc = .ok (.invokevirtual index, 3))
    (hpre : ∀ vm₁, s.WarmedH vm₁ → Pre ⟨T.setVm vm₁, locs, cells, slots⟩ (Value.ref b :: argsL).toArray) :
    (∃ (v : Option Value) (vm₁ : Vm) (B : Pt), s.WarmedH vm₁ ∧ Stand p l e R s m args below meth c B.U B.locs B.cells B.slots ∧ Post ⟨T.setVm vm₁, locs, cells, slots⟩ (Value.ref b :: argsL).toArray v B ∧
      ∀ target, Steps p.tables e below (B.U.setTop { g with pc := g.pc + 3, stack := v.toList ++ rest }) target → Steps p.tables e below (T.setTop g) target) ∨
    (∃ (q : Addr) (vm₁ : Vm) (B : Pt), s.WarmedH vm₁ ∧ Stand p l e R s m args below meth c B.U B.locs B.cells B.slots ∧ PostX ⟨T.setVm vm₁, locs, cells, slots⟩ (Value.ref b :: argsL).toArray q B ∧
      Steps p.tables e below (T.setTop g) ((B.U.setTop { g with stack := rest }).pushFrame (.throwing q))) := by
  obtain ⟨mk, methM, hnamed, hmethM, hstM, habM⟩ := Cond.instanceMethod_spec hinst
  obtain ⟨methM', cM, hmethM', -, -, -, -, -, -, hsigM⟩ := Cond.code_spec hnamed hcode
  cases hmethM.symm.trans hmethM'
  obtain ⟨c2, r2, m2, q1, q2, q3, q4, kP, hkP, hkPi⟩ := Cond.selects_spec hsel
  cases hcls.symm.trans q1
  cases (State.methodFound?_of_named hnamed hy).symm.trans q2
  cases hnamed.symm.trans q3
  have hselP : selectMethod e.platform s.vm cellB.cls mk = .method mk := by rw [Launch.admits_selectMethod X.admits]; exact q4
  obtain ⟨vm₁, X₁, hstep₁⟩ := X.invokevirtual hexec hown hlink hnamed hmethM hstM hkP hkPi hy (a := b) (cell := cellB) hcell
    (fun z h => by rw [h] at hobj; cases hobj) hselP hmethM habM hkP hkPi (g := g) hg (argsL := argsL) (rest := rest) (hlen _ hsigM) hstack hdg
  rcases hK m meth c ⟨T.setVm vm₁, locs, cells, slots⟩ { g with stack := rest } (.invokevirtual index) mk (Value.ref b :: argsL).toArray X₁ hg hsize hdg hW (X₁.named hnamed) (hpre vm₁ X₁.warmed) with ⟨v, B, X', hpost, hsteps⟩ | ⟨q, B, X', hpost, hsteps⟩
  · exact Or.inl ⟨v, vm₁, B, X₁.warmed, X', hpost, fun target h => hstep₁ _ fun acts => by rw [doInvoke_state]; exact hsteps.trans h⟩
  · exact Or.inr ⟨q, vm₁, B, X₁.warmed, X', hpost, hstep₁ _ fun acts => by rw [doInvoke_state]; exact hsteps⟩
theorem vx_callS (X : Stand p l e R s m args below meth c T locs cells slots) (hexec : p.tables.exec = Jvm.exec) {own : String} {index : Nat} {y : MethodName} {bytes : ByteArray} {maxL : Nat} {ret : Option FieldType}
    (hown : s.vm.findClass own = some m.cls) (hlink : (Cond.methodLink own index y).before args s = true) (hstat : (Cond.static y).before args s = true) (hinit : (Cond.initialized y.cls).before args s = true)
    (hcode : (Cond.code y bytes maxL ret).before args s = true) (hy : y.cls ≠ "java/lang/invoke/MethodHandle" ∧ y.cls ≠ "java/lang/invoke/VarHandle")
    {W9 : Nat} {Pre : Pt → Array Value → Prop} {Post : Pt → Array Value → Option Value → Pt → Prop} {PostX : Pt → Array Value → Addr → Pt → Prop} (hK : vx_Back l R p e below s args y 3 W9 Pre Post PostX)
    {g : JFrame} (hg : g.method = m) (hsize : g.locals.size = c.maxLocals) {argsL rest : List Value} (hlen : ∀ sig, parseMethodDescriptor y.desc = some sig → argsL.length = sig.parameters.length)
    (hstack : g.stack = argsL.reverse ++ rest) (hW : 2 * g.monitorRoom + (rest.map fun v => v.category).sum ≤ W9) (hdg : decode c.code g.pc = .ok (.invokestatic index, 3))
    (hpre : ∀ vm₁, s.WarmedH vm₁ → Pre ⟨T.setVm vm₁, locs, cells, slots⟩ argsL.toArray) :
    (∃ (v : Option Value) (vm₁ : Vm) (B : Pt), s.WarmedH vm₁ ∧ Stand p l e R s m args below meth c B.U B.locs B.cells B.slots ∧ Post ⟨T.setVm vm₁, locs, cells, slots⟩ argsL.toArray v B ∧
      ∀ target, Steps p.tables e below (B.U.setTop { g with pc := g.pc + 3, stack := v.toList ++ rest }) target → Steps p.tables e below (T.setTop g) target) ∨
    (∃ (q : Addr) (vm₁ : Vm) (B : Pt), s.WarmedH vm₁ ∧ Stand p l e R s m args below meth c B.U B.locs B.cells B.slots ∧ PostX ⟨T.setVm vm₁, locs, cells, slots⟩ argsL.toArray q B ∧
      Steps p.tables e below (T.setTop g) ((B.U.setTop { g with stack := rest }).pushFrame (.throwing q))) := by
  obtain ⟨mk, hnamed⟩ := Cond.code_named hcode
  obtain ⟨methM, cM, hmethM, -, -, -, -, -, -, hsigM⟩ := Cond.code_spec hnamed hcode
  have hstatic : methM.isStatic = true := Cond.static_spec hnamed hmethM hstat
  obtain ⟨kP, hkP, -⟩ := className_of_methodNamed hnamed
  have hinitP : kP.init = .initialized := Cond.initialized_spec (findClass_of_methodNamed hnamed) hkP hinit
  obtain ⟨vm₁, X₁, hstep₁⟩ := X.invokestatic hexec hown hlink hnamed hmethM hstatic hkP hinitP hy (g := g) hg (argsL := argsL) (rest := rest) (hlen _ hsigM) hstack hdg
  rcases hK m meth c ⟨T.setVm vm₁, locs, cells, slots⟩ { g with stack := rest } (.invokestatic index) mk argsL.toArray X₁ hg hsize hdg hW (X₁.named hnamed) (hpre vm₁ X₁.warmed) with ⟨v, B, X', hpost, hsteps⟩ | ⟨q, B, X', hpost, hsteps⟩
  · exact Or.inl ⟨v, vm₁, B, X₁.warmed, X', hpost, fun target h => hstep₁ _ fun acts => by rw [doInvoke_state]; exact hsteps.trans h⟩
  · exact Or.inr ⟨q, vm₁, B, X₁.warmed, X', hpost, hstep₁ _ fun acts => by rw [doInvoke_state]; exact hsteps⟩
end Calls
theorem vx_cls {s : State} {T : State} {vm₁ : Vm} {E : String} {k : ClassId} (hW : s.WarmedH vm₁) (h : (T.setVm vm₁).vm.findClass E = some k) : s.vm.findClass E = some k := by
  have h1 : vm₁.findClass E = some k := h
  rw [hW.alike.findClass] at h1
  exact h1
/-- the method's frame g, with q thrown over it -/
def vx_W (p : Program) (l : Launch) (e : Env) (R : Room) (s : State) (m : MethodId) (args : Array Value) (below : List Frame) (meth : Method) (c : Code) (H : Heap) (locs : List Loc) (cells slots : Nat) (Q : State → Prop) (g : JFrame) (q : Addr) : Prop :=
  ∀ T : State, T.heap = H → Stand p l e R s m args below meth c T locs cells slots → ∃ t, Steps p.tables e below ((T.setTop g).pushFrame (.throwing q)) t ∧ Q t
def vx_Run (p : Program) (l : Launch) (e : Env) (R : Room) (s : State) (m : MethodId) (args : Array Value) (below : List Frame) (meth : Method) (c : Code) (H : Heap) (locs : List Loc) (cells slots mc ms : Nat) (g : JFrame) (rest : List Value) (Qa : State → Outcome → State → Prop) (XC : String → State → State → Prop) (free : Addr → Prop) : Prop :=
  ∀ T : State, T.heap = H → Stand p l e R s m args below meth c T locs cells slots →
    (∃ (v : Option Value) (st₀ t T' : State) (L : List Loc), st₀.heap = H ∧ Stand p l e R s m args below meth c T' (locs ++ L) (cells + mc) (slots + ms) ∧ (∀ q ∈ L, free q.base) ∧ T'.heap = t.heap ∧ T'.vm = t.vm ∧ Qa st₀ (.returned v) t ∧
      Goes p e below T g T' { g with pc := g.pc + 3, stack := v.toList ++ rest }) ∨
    (∃ (q : Addr) (st₀ t T' : State) (L : List Loc) (E : String) (ce : Cell), st₀.heap = H ∧ Stand p l e R s m args below meth c T' (locs ++ L) (cells + mc) (slots + ms) ∧ (∀ z ∈ L, free z.base) ∧ T'.heap = t.heap ∧ T'.vm = t.vm ∧ XC E st₀ t ∧ t.heap[q]? = some ce ∧ ce.vm = .none ∧ s.vm.findClass E = some ce.cls ∧
      Steps p.tables e below (T.setTop g) ((T'.setTop { g with stack := rest }).pushFrame (.throwing q)))
def vx_X {S : Type} (px : S → Prop) (B : String → S → State → Prop) (A : Nat → Prop) : String → State → State → Prop := fun E st t => ∃ u : S, px u ∧ B E u t ∧ va_F A st t
section Runs
variable {p : Program} {l : Launch} {e : Env} {R : Room} {s : State} {m : MethodId} {args : Array Value} {below : List Frame} {meth : Method} {c : Code} {H : Heap} {locs : List Loc} {cells slots : Nat}
variable {y : MethodName} {bytes cc : ByteArray} {maxL nL mc ms n index : Nat} {ret : Option FieldType} {ws : List Cond} {rm : Room} {Pc : Array Value → State → Prop} {Qc : Array Value → State → Outcome → State → Prop} {XC : String → State → State → Prop} {free : Addr → Prop} {Ts : List Cond} {own C : String} {b : Addr} {As rest : List Value} {g : JFrame}
theorem vx_callBack (cb : CallB R s args own index y bytes maxL ret ws rm mc ms n) (hM : vx_Met l y ws rm Pc Qc XC mc ms free) (hbl : FrameBlind Pc) : vx_Back l R p e below s args y 3 8 (PreOf R mc ms Pc) (PostOf Qc mc ms free) (vx_Post XC mc ms free) := by
  obtain ⟨hrc, hrs, hfr, hlo, hws, hcw, -, hini, -⟩ := cb
  exact vx_back (bytes := bytes) (maxL := maxL) (ret := ret) hM hbl hrc hrs hfr hlo hws hcw (fun a' U hW => word_at hW (Or.inl (by first | rfl | simp [Cond.onTables, Cond.keeps, Cond.steady])) hini)
theorem vx_runV (S : CallFix p m c cc nL s args Ts own) (hM : vx_Met l y ws rm Pc Qc XC mc ms free) (cw : CallW R s args own C index y bytes maxL ret ws rm mc ms n) (hp : PreV s H C b Pc As)
    (hg : g.method = m) (hn : As.length = n) (hsize : g.locals.size = nL) (hstack : g.stack = As.reverse ++ .ref b :: rest) (hW : 2 * g.monitorRoom + (rest.map fun v => v.category).sum ≤ 8) (hdg : decode cc g.pc = .ok (.invokevirtual index, 3)) (hf : cells + mc ≤ R.cells ∧ slots + ms ≤ R.slots) :
    vx_Run p l e R s m args below meth c H locs cells slots mc ms g rest (Qc (Value.ref b :: As).toArray) XC free := by
  have hK : vx_Back l R p e below s args y 3 8 (PreOf R mc ms Pc) (PostOf Qc mc ms free) (vx_Post XC mc ms free) := vx_callBack cw.1 hM hp.1
  obtain ⟨⟨-, -, -, -, -, -, hcode, -, hy, hlen, hl⟩, hin, hse⟩ := cw
  obtain ⟨hx, hb, hml, ho, -⟩ := S
  obtain ⟨-, ⟨cellB, hcB, hoB, hclB⟩, hPc⟩ := hp
  intro T hT X
  rcases vx_callV X hx (C := C) (bytes := bytes) (maxL := maxL) (ret := ret) ho hl hin hse hcode hy hK (by rw [hT]; exact hcB) hoB hclB hg (hsize.trans hml.symm) (argsL := As) (rest := rest) (fun sig h => hn.trans (hlen sig h)) hstack hW (by rw [hb]; exact hdg)
    (fun vm₁ hW₁ => ⟨hf.1, hf.2, hPc (T.setVm vm₁) hT hW₁⟩) with ⟨v, vm₁, ⟨U', l2, c2, s2⟩, hW₁, X', ⟨g', mk, t, L, e1, e2, hq, h1, hL, h2, h3⟩, st⟩ | ⟨q, vm₁, ⟨U', l2, c2, s2⟩, hW₁, X', ⟨g', mk, t, L, E, ce, e1, e2, hq, hce, hcv, hcl, h1, hL, h2, h3⟩, st⟩
  · dsimp only [Pt.U, Pt.locs, Pt.cells, Pt.slots] at X' e1 e2 h1 h2 h3 st
    subst h1; subst h2; subst h3
    exact Or.inl ⟨v, (T.setVm vm₁).calling g' mk (Value.ref b :: As).toArray, t, U', L, hT, X', hL, e1, e2, hq, st⟩
  · dsimp only [Pt.U, Pt.locs, Pt.cells, Pt.slots] at X' e1 e2 h1 h2 h3 st hcl
    subst h1; subst h2; subst h3
    exact Or.inr ⟨q, (T.setVm vm₁).calling g' mk (Value.ref b :: As).toArray, t, U', L, E, ce, hT, X', hL, e1, e2, hq, hce, hcv, vx_cls hW₁ hcl, st⟩
theorem vx_runS (S : CallFix p m c cc nL s args Ts own) (hM : vx_Met l y ws rm Pc Qc XC mc ms free) (cw : CallB R s args own index y bytes maxL ret ws rm mc ms n ∧ (Cond.static y).before args s = true) (hp : PreS s H Pc As)
    (hg : g.method = m) (hn : As.length = n) (hsize : g.locals.size = nL) (hstack : g.stack = As.reverse ++ rest) (hW : 2 * g.monitorRoom + (rest.map fun v => v.category).sum ≤ 8) (hdg : decode cc g.pc = .ok (.invokestatic index, 3)) (hf : cells + mc ≤ R.cells ∧ slots + ms ≤ R.slots) :
    vx_Run p l e R s m args below meth c H locs cells slots mc ms g rest (Qc As.toArray) XC free := by
  have hK : vx_Back l R p e below s args y 3 8 (PreOf R mc ms Pc) (PostOf Qc mc ms free) (vx_Post XC mc ms free) := vx_callBack cw.1 hM hp.1
  obtain ⟨⟨-, -, -, -, -, -, hcode, hini, hy, hlen, hl⟩, hstt⟩ := cw
  obtain ⟨hx, hb, hml, ho, -⟩ := S
  intro T hT X
  rcases vx_callS X hx (bytes := bytes) (maxL := maxL) (ret := ret) ho hl hstt hini hcode hy hK hg (hsize.trans hml.symm) (argsL := As) (rest := rest) (fun sig h => hn.trans (hlen sig h)) hstack hW (by rw [hb]; exact hdg)
    (fun vm₁ hW₁ => ⟨hf.1, hf.2, hp.2 (T.setVm vm₁) hT hW₁⟩) with ⟨v, vm₁, ⟨U', l2, c2, s2⟩, hW₁, X', ⟨g', mk, t, L, e1, e2, hq, h1, hL, h2, h3⟩, st⟩ | ⟨q, vm₁, ⟨U', l2, c2, s2⟩, hW₁, X', ⟨g', mk, t, L, E, ce, e1, e2, hq, hce, hcv, hcl, h1, hL, h2, h3⟩, st⟩
  · dsimp only [Pt.U, Pt.locs, Pt.cells, Pt.slots] at X' e1 e2 h1 h2 h3 st
    subst h1; subst h2; subst h3
    exact Or.inl ⟨v, (T.setVm vm₁).calling g' mk As.toArray, t, U', L, hT, X', hL, e1, e2, hq, st⟩
  · dsimp only [Pt.U, Pt.locs, Pt.cells, Pt.slots] at X' e1 e2 h1 h2 h3 st hcl
    subst h1; subst h2; subst h3
    exact Or.inr ⟨q, (T.setVm vm₁).calling g' mk As.toArray, t, U', L, E, ce, hT, X', hL, e1, e2, hq, hce, hcv, vx_cls hW₁ hcl, st⟩
end Runs
section Rows
variable {p : Program} {l : Launch} {e : Env} {R : Room} {s : State} {m : MethodId} {args : Array Value} {below : List Frame} {meth : Method} {c : Code} {H : Heap} {locs : List Loc} {cells slots : Nat} {Q : State → Prop}
variable {mc ms : Nat} {free : Addr → Prop} {A0 A1 : Nat → Prop} {H0 : Heap} {a : Array Value} {pc : Nat} {ls : Array Slot} {st0 rest : List Value}
theorem vx_keep {st₀ t T' : State} {L : List Loc} (h0 : st₀.heap = H) (e1 : T'.heap = t.heap) (hS : va_S A0 H0 H locs) (hA : ∀ q, q < H.size → A1 q → A0 q) (hf : ∀ q, free q → A0 q) (hL : ∀ q ∈ L, free q.base) (hF : va_F A1 st₀ t) :
    H.size ≤ T'.heap.size ∧ (∀ q : Nat, q < H.size → ¬ A1 q → T'.heap[q]? = H[q]?) ∧ va_S A0 H0 T'.heap (locs ++ L) := by
  obtain ⟨hz, hk⟩ := hF
  rw [h0] at hz hk
  exact ⟨by rw [e1]; exact hz, fun q h1 h2 => by rw [e1]; exact hk q h1 h2,
    ⟨Nat.le_trans hS.1 (by rw [e1]; exact hz), fun q h1 h2 => by rw [e1, hk q (Nat.lt_of_lt_of_le h1 hS.1) (fun z => h2 (hA q (Nat.lt_of_lt_of_le h1 hS.1) z))]; exact hS.2.1 q h1 h2, fun q hq => by
      rcases List.mem_append.mp hq with h | h
      · exact hS.2.2 q h
      · exact hf _ (hL q h)⟩⟩
theorem vx_calli {S SX : Type} {post : Int32 → S → Prop} {px : SX → Prop} {B : S → State → Prop} {BX : String → SX → State → Prop} {AX : Nat → Prop} (hr : vx_Run p l e R s m args below meth c H locs cells slots mc ms (F0 m pc ls st0) rest (va_Qi post B A1 a) (vx_X px BX AX) free) (hS : va_S A0 H0 H locs) (hA : ∀ q, q < H.size → A1 q → A0 q) (hf : ∀ q, free q → A0 q) (hAX : ∀ q, q < H.size → AX q → A0 q)
    (kx : ∀ (E : String) (ce : Cell) (q9 : Addr) (u : SX) (t : State) (H1 : Heap) (locs1 : List Loc), t.heap = H1 → s.vm.Alike t.vm → px u → BX E u t → H.size ≤ H1.size → (∀ q : Nat, q < H.size → ¬ AX q → H1[q]? = H[q]?) → va_S A0 H0 H1 locs1 → H1[q9]? = some ce → ce.vm = .none → s.vm.findClass E = some ce.cls → vx_W p l e R s m args below meth c H1 locs1 (cells + mc) (slots + ms) Q (F0 m pc ls rest) q9)
    (kk : ∀ (r : Int32) (u : S) (t : State) (H1 : Heap) (locs1 : List Loc), t.heap = H1 → s.vm.Alike t.vm → post r u → B u t → H.size ≤ H1.size → (∀ q : Nat, q < H.size → ¬ A1 q → H1[q]? = H[q]?) → va_S A0 H0 H1 locs1 → W p l e R s m args below meth c H1 locs1 (cells + mc) (slots + ms) Q (F0 m (pc + 3) ls (.int r :: rest))) : W p l e R s m args below meth c H locs cells slots Q (F0 m pc ls st0) := by
  intro T hT X
  rcases hr T hT X with ⟨v, st₀, t, T', L, h0, X', hL, e1, e2, ⟨⟨r, u, hv, hp, hb⟩, hF⟩, st⟩ | ⟨q, st₀, t, T', L, E, ce, h0, X', hL, e1, e2, ⟨u, hp, hb, hF⟩, hce, hcv, hcl, st⟩
  · cases hv
    obtain ⟨k1, k2, k3⟩ := vx_keep h0 e1 hS hA hf hL hF
    obtain ⟨t2, a1, b1⟩ := kk r u t T'.heap (locs ++ L) e1.symm (by rw [← e2]; exact X'.warmed.alike) hp hb k1 k2 k3 T' rfl X'
    exact ⟨t2, st t2 a1, b1⟩
  · obtain ⟨k1, k2, k3⟩ := vx_keep h0 e1 hS hAX hf hL hF
    obtain ⟨t2, a1, b1⟩ := kx E ce q u t T'.heap (locs ++ L) e1.symm (by rw [← e2]; exact X'.warmed.alike) hp hb k1 k2 k3 (by rw [e1]; exact hce) hcv hcl T' rfl X'
    exact ⟨t2, st.trans a1, b1⟩
theorem vx_calll {S SX : Type} {post : Int64 → S → Prop} {px : SX → Prop} {B : S → State → Prop} {BX : String → SX → State → Prop} {AX : Nat → Prop} (hr : vx_Run p l e R s m args below meth c H locs cells slots mc ms (F0 m pc ls st0) rest (va_Ql post B A1 a) (vx_X px BX AX) free) (hS : va_S A0 H0 H locs) (hA : ∀ q, q < H.size → A1 q → A0 q) (hf : ∀ q, free q → A0 q) (hAX : ∀ q, q < H.size → AX q → A0 q)
    (kx : ∀ (E : String) (ce : Cell) (q9 : Addr) (u : SX) (t : State) (H1 : Heap) (locs1 : List Loc), t.heap = H1 → s.vm.Alike t.vm → px u → BX E u t → H.size ≤ H1.size → (∀ q : Nat, q < H.size → ¬ AX q → H1[q]? = H[q]?) → va_S A0 H0 H1 locs1 → H1[q9]? = some ce → ce.vm = .none → s.vm.findClass E = some ce.cls → vx_W p l e R s m args below meth c H1 locs1 (cells + mc) (slots + ms) Q (F0 m pc ls rest) q9)
    (kk : ∀ (r : Int64) (u : S) (t : State) (H1 : Heap) (locs1 : List Loc), t.heap = H1 → s.vm.Alike t.vm → post r u → B u t → H.size ≤ H1.size → (∀ q : Nat, q < H.size → ¬ A1 q → H1[q]? = H[q]?) → va_S A0 H0 H1 locs1 → W p l e R s m args below meth c H1 locs1 (cells + mc) (slots + ms) Q (F0 m (pc + 3) ls (.long r :: rest))) : W p l e R s m args below meth c H locs cells slots Q (F0 m pc ls st0) := by
  intro T hT X
  rcases hr T hT X with ⟨v, st₀, t, T', L, h0, X', hL, e1, e2, ⟨⟨r, u, hv, hp, hb⟩, hF⟩, st⟩ | ⟨q, st₀, t, T', L, E, ce, h0, X', hL, e1, e2, ⟨u, hp, hb, hF⟩, hce, hcv, hcl, st⟩
  · cases hv
    obtain ⟨k1, k2, k3⟩ := vx_keep h0 e1 hS hA hf hL hF
    obtain ⟨t2, a1, b1⟩ := kk r u t T'.heap (locs ++ L) e1.symm (by rw [← e2]; exact X'.warmed.alike) hp hb k1 k2 k3 T' rfl X'
    exact ⟨t2, st t2 a1, b1⟩
  · obtain ⟨k1, k2, k3⟩ := vx_keep h0 e1 hS hAX hf hL hF
    obtain ⟨t2, a1, b1⟩ := kx E ce q u t T'.heap (locs ++ L) e1.symm (by rw [← e2]; exact X'.warmed.alike) hp hb k1 k2 k3 (by rw [e1]; exact hce) hcv hcl T' rfl X'
    exact ⟨t2, st.trans a1, b1⟩
theorem vx_callf {S SX : Type} {post : UInt32 → S → Prop} {px : SX → Prop} {B : S → State → Prop} {BX : String → SX → State → Prop} {AX : Nat → Prop} (hr : vx_Run p l e R s m args below meth c H locs cells slots mc ms (F0 m pc ls st0) rest (va_Qf post B A1 a) (vx_X px BX AX) free) (hS : va_S A0 H0 H locs) (hA : ∀ q, q < H.size → A1 q → A0 q) (hf : ∀ q, free q → A0 q) (hAX : ∀ q, q < H.size → AX q → A0 q)
    (kx : ∀ (E : String) (ce : Cell) (q9 : Addr) (u : SX) (t : State) (H1 : Heap) (locs1 : List Loc), t.heap = H1 → s.vm.Alike t.vm → px u → BX E u t → H.size ≤ H1.size → (∀ q : Nat, q < H.size → ¬ AX q → H1[q]? = H[q]?) → va_S A0 H0 H1 locs1 → H1[q9]? = some ce → ce.vm = .none → s.vm.findClass E = some ce.cls → vx_W p l e R s m args below meth c H1 locs1 (cells + mc) (slots + ms) Q (F0 m pc ls rest) q9)
    (kk : ∀ (r : UInt32) (u : S) (t : State) (H1 : Heap) (locs1 : List Loc), t.heap = H1 → s.vm.Alike t.vm → post r u → B u t → H.size ≤ H1.size → (∀ q : Nat, q < H.size → ¬ A1 q → H1[q]? = H[q]?) → va_S A0 H0 H1 locs1 → W p l e R s m args below meth c H1 locs1 (cells + mc) (slots + ms) Q (F0 m (pc + 3) ls (.float r :: rest))) : W p l e R s m args below meth c H locs cells slots Q (F0 m pc ls st0) := by
  intro T hT X
  rcases hr T hT X with ⟨v, st₀, t, T', L, h0, X', hL, e1, e2, ⟨⟨r, u, hv, hp, hb⟩, hF⟩, st⟩ | ⟨q, st₀, t, T', L, E, ce, h0, X', hL, e1, e2, ⟨u, hp, hb, hF⟩, hce, hcv, hcl, st⟩
  · cases hv
    obtain ⟨k1, k2, k3⟩ := vx_keep h0 e1 hS hA hf hL hF
    obtain ⟨t2, a1, b1⟩ := kk r u t T'.heap (locs ++ L) e1.symm (by rw [← e2]; exact X'.warmed.alike) hp hb k1 k2 k3 T' rfl X'
    exact ⟨t2, st t2 a1, b1⟩
  · obtain ⟨k1, k2, k3⟩ := vx_keep h0 e1 hS hAX hf hL hF
    obtain ⟨t2, a1, b1⟩ := kx E ce q u t T'.heap (locs ++ L) e1.symm (by rw [← e2]; exact X'.warmed.alike) hp hb k1 k2 k3 (by rw [e1]; exact hce) hcv hcl T' rfl X'
    exact ⟨t2, st.trans a1, b1⟩
theorem vx_calld {S SX : Type} {post : UInt64 → S → Prop} {px : SX → Prop} {B : S → State → Prop} {BX : String → SX → State → Prop} {AX : Nat → Prop} (hr : vx_Run p l e R s m args below meth c H locs cells slots mc ms (F0 m pc ls st0) rest (va_Qd post B A1 a) (vx_X px BX AX) free) (hS : va_S A0 H0 H locs) (hA : ∀ q, q < H.size → A1 q → A0 q) (hf : ∀ q, free q → A0 q) (hAX : ∀ q, q < H.size → AX q → A0 q)
    (kx : ∀ (E : String) (ce : Cell) (q9 : Addr) (u : SX) (t : State) (H1 : Heap) (locs1 : List Loc), t.heap = H1 → s.vm.Alike t.vm → px u → BX E u t → H.size ≤ H1.size → (∀ q : Nat, q < H.size → ¬ AX q → H1[q]? = H[q]?) → va_S A0 H0 H1 locs1 → H1[q9]? = some ce → ce.vm = .none → s.vm.findClass E = some ce.cls → vx_W p l e R s m args below meth c H1 locs1 (cells + mc) (slots + ms) Q (F0 m pc ls rest) q9)
    (kk : ∀ (r : UInt64) (u : S) (t : State) (H1 : Heap) (locs1 : List Loc), t.heap = H1 → s.vm.Alike t.vm → post r u → B u t → H.size ≤ H1.size → (∀ q : Nat, q < H.size → ¬ A1 q → H1[q]? = H[q]?) → va_S A0 H0 H1 locs1 → W p l e R s m args below meth c H1 locs1 (cells + mc) (slots + ms) Q (F0 m (pc + 3) ls (.double r :: rest))) : W p l e R s m args below meth c H locs cells slots Q (F0 m pc ls st0) := by
  intro T hT X
  rcases hr T hT X with ⟨v, st₀, t, T', L, h0, X', hL, e1, e2, ⟨⟨r, u, hv, hp, hb⟩, hF⟩, st⟩ | ⟨q, st₀, t, T', L, E, ce, h0, X', hL, e1, e2, ⟨u, hp, hb, hF⟩, hce, hcv, hcl, st⟩
  · cases hv
    obtain ⟨k1, k2, k3⟩ := vx_keep h0 e1 hS hA hf hL hF
    obtain ⟨t2, a1, b1⟩ := kk r u t T'.heap (locs ++ L) e1.symm (by rw [← e2]; exact X'.warmed.alike) hp hb k1 k2 k3 T' rfl X'
    exact ⟨t2, st t2 a1, b1⟩
  · obtain ⟨k1, k2, k3⟩ := vx_keep h0 e1 hS hAX hf hL hF
    obtain ⟨t2, a1, b1⟩ := kx E ce q u t T'.heap (locs ++ L) e1.symm (by rw [← e2]; exact X'.warmed.alike) hp hb k1 k2 k3 (by rw [e1]; exact hce) hcv hcl T' rfl X'
    exact ⟨t2, st.trans a1, b1⟩
theorem vx_callv {S SX : Type} {post : S → Prop} {px : SX → Prop} {B : S → State → Prop} {BX : String → SX → State → Prop} {AX : Nat → Prop} (hr : vx_Run p l e R s m args below meth c H locs cells slots mc ms (F0 m pc ls st0) rest (va_Qv post B A1 a) (vx_X px BX AX) free) (hS : va_S A0 H0 H locs) (hA : ∀ q, q < H.size → A1 q → A0 q) (hf : ∀ q, free q → A0 q) (hAX : ∀ q, q < H.size → AX q → A0 q)
    (kx : ∀ (E : String) (ce : Cell) (q9 : Addr) (u : SX) (t : State) (H1 : Heap) (locs1 : List Loc), t.heap = H1 → s.vm.Alike t.vm → px u → BX E u t → H.size ≤ H1.size → (∀ q : Nat, q < H.size → ¬ AX q → H1[q]? = H[q]?) → va_S A0 H0 H1 locs1 → H1[q9]? = some ce → ce.vm = .none → s.vm.findClass E = some ce.cls → vx_W p l e R s m args below meth c H1 locs1 (cells + mc) (slots + ms) Q (F0 m pc ls rest) q9)
    (kk : ∀ (u : S) (t : State) (H1 : Heap) (locs1 : List Loc), t.heap = H1 → s.vm.Alike t.vm → post u → B u t → H.size ≤ H1.size → (∀ q : Nat, q < H.size → ¬ A1 q → H1[q]? = H[q]?) → va_S A0 H0 H1 locs1 → W p l e R s m args below meth c H1 locs1 (cells + mc) (slots + ms) Q (F0 m (pc + 3) ls (rest))) : W p l e R s m args below meth c H locs cells slots Q (F0 m pc ls st0) := by
  intro T hT X
  rcases hr T hT X with ⟨v, st₀, t, T', L, h0, X', hL, e1, e2, ⟨⟨u, hv, hp, hb⟩, hF⟩, st⟩ | ⟨q, st₀, t, T', L, E, ce, h0, X', hL, e1, e2, ⟨u, hp, hb, hF⟩, hce, hcv, hcl, st⟩
  · cases hv
    obtain ⟨k1, k2, k3⟩ := vx_keep h0 e1 hS hA hf hL hF
    obtain ⟨t2, a1, b1⟩ := kk u t T'.heap (locs ++ L) e1.symm (by rw [← e2]; exact X'.warmed.alike) hp hb k1 k2 k3 T' rfl X'
    exact ⟨t2, st t2 a1, b1⟩
  · obtain ⟨k1, k2, k3⟩ := vx_keep h0 e1 hS hAX hf hL hF
    obtain ⟨t2, a1, b1⟩ := kx E ce q u t T'.heap (locs ++ L) e1.symm (by rw [← e2]; exact X'.warmed.alike) hp hb k1 k2 k3 (by rw [e1]; exact hce) hcv hcl T' rfl X'
    exact ⟨t2, st.trans a1, b1⟩
/-- caught by the row x of this method's table; the rows ahead don't take it -/
theorem vx_catch {own name : String} {E : String} {ce : Cell} {q : Addr} (hown : s.vm.findClass own = some m.cls) (pre : List ExceptionTableEntry) (x : ExceptionTableEntry) (suf : List ExceptionTableEntry) (hsplit : c.exceptionTable.toList = pre ++ x :: suf)
    (hpass : ∀ z ∈ pre, covers z pc = false ∨ (z.catchType ≠ 0 ∧ ∃ nm : String, (Cond.classLink own z.catchType nm).before args s = true ∧ va_Nc E nm s)) (hx : covers x pc = true) (h0 : x.catchType ≠ 0)
    (hlink : (Cond.classLink own x.catchType name).before args s = true) (hcast : (Cond.castable E name).before args s = true) (hcell : H[q]? = some ce) (hv : ce.vm = .none) (hcl : s.vm.findClass E = some ce.cls)
    (kk : W p l e R s m args below meth c H locs cells slots Q (F0 m x.handlerPc ls [.ref q])) : vx_W p l e R s m args below meth c H locs cells slots Q (F0 m pc ls rest) q := by
  intro T hT X
  have hpl : e.platform.magicAccessors = ({} : Platform).magicAccessors := by rw [X.admits.platform]
  obtain ⟨c3, c4, hc3, hc4, hasg⟩ := Cond.castable_spec hcast
  cases Option.some.inj (hc3.symm.trans hcl)
  obtain ⟨c5, hc5, hcl5⟩ := Cond.classLink_spec hown hlink e.platform hpl
  cases Option.some.inj (hc4.symm.trans hc5)
  obtain ⟨vm', X', st⟩ := X.thenCaughtThrough q (g := F0 m pc ls rest) rfl (Steps.refl _) (by rw [hT]; exact hcell) (by rw [hv]; rfl) (by obtain ⟨k9, h9, -⟩ := Vm.findClass_spec hcl; exact ⟨k9, h9⟩) pre x suf hsplit
    (fun z hz => by
      rcases hpass z hz with h | ⟨hz0, nm, hl1, hn1⟩
      · exact Or.inl h
      · obtain ⟨c6, hc6, hcl6⟩ := Cond.classLink_spec hown hl1 e.platform hpl
        obtain ⟨a8, b8, h1, h2, h3⟩ := hn1
        cases Option.some.inj (h1.symm.trans hcl)
        cases Option.some.inj (h2.symm.trans hc6)
        exact Or.inr ⟨hz0, _, hcl6, h3⟩) hx (Or.inr ⟨h0, c4, hcl5, hasg⟩)
  obtain ⟨t, a1, b1⟩ := kk (T.setVm vm') hT X'
  exact ⟨t, st.trans a1, b1⟩
end Rows
section Ends
variable {p : Program} {l : Launch} {e : Env} {R : Room} {s : State} {m : MethodId} {args : Array Value} {below : List Frame} {meth : Method} {c : Code} {H : Heap} {locs : List Loc} {cells slots : Nat} {Q : State → Prop}
variable {mc ms : Nat} {free : Addr → Prop} {A0 A1 : Nat → Prop} {H0 : Heap} {a : Array Value} {ls : Array Slot} {st0 rest : List Value}
variable {Qc : Array Value → State → Outcome → State → Prop} {XC : String → State → State → Prop}
/-- what a body that may throw owes at its end -/
def vx_MQ (below : List Frame) (Qc : Array Value → State → Outcome → State → Prop) (XC : String → State → State → Prop) (a : Array Value) (s : State) (mc ms : Nat) (free : Addr → Prop) : State → Prop := fun t =>
  ∃ o, t.status = .running ∧ Ended t below o ∧ vx_Q Qc XC mc ms free a s o t
theorem vx_ret {g : JFrame} {mc ms : Nat} (k : W p l e R s m args below meth c H locs cells slots (MQ below Qc args s mc ms free) g) : W p l e R s m args below meth c H locs cells slots (vx_MQ below Qc XC args s mc ms free) g := by
  intro T hT X
  obtain ⟨t, a1, o, b1, b2, b3, b4⟩ := k T hT X
  exact ⟨t, a1, o, b1, b2, Or.inl ⟨b3, b4⟩⟩
/-- not caught here: it goes on to the caller -/
theorem vx_widen {g : JFrame} {q : Addr} {k n : Nat} (h1 : cells ≤ k) (h2 : slots ≤ n) (kk : vx_W p l e R s m args below meth c H locs k n Q g q) : vx_W p l e R s m args below meth c H locs cells slots Q g q := fun T hT X => kk T hT (stand_widen X h1 h2)
theorem vx_out {pc : Nat} {E : String} {ce : Cell} {q : Addr} {mc ms : Nat} (hout : ∀ x ∈ c.exceptionTable.toList, covers x pc = false) (hlocks : meth.locks = false) (hcell : H[q]? = some ce) (hv : ce.vm = .none) (hcl : s.vm.findClass E = some ce.cls)
    (hx : ∀ t : State, t.heap = H → s.vm.Alike t.vm → XC E s t) (hf : ∀ z ∈ locs, free z.base) (hc : cells ≤ mc) (hs : slots ≤ ms) :
    vx_W p l e R s m args below meth c H locs cells slots (vx_MQ below Qc XC args s mc ms free) (F0 m pc ls rest) q := by
  intro T hT X
  obtain ⟨st1, hrun, hend, hW, hsm⟩ := X.leaveThrown q (g := F0 m pc ls rest) rfl rfl rfl hout hlocks
  have hcell9 : (T.setFrames (.throwing q :: below)).heap[q]? = some ce := by
    show T.heap[q]? = some ce
    rw [hT]; exact hcell
  exact ⟨_, st1, .threw q, hrun, hend, Or.inr ⟨q, rfl, E, ce, locs, hx _ hT hW.alike, hcell9, hv, hcl, hW, hsm.mono hc hs, hf⟩⟩
theorem vx_frame {U : State} {k n : Nat} (h : s.sameButNew ({ U with vm := s.vm } : State) locs k n) : s.heap.size ≤ U.heap.size ∧ ∀ q : Nat, q < s.heap.size → (∀ z ∈ locs, z.base ≠ q) → U.heap[q]? = s.heap[q]? := by
  obtain ⟨-, h2, -, -, -, h6⟩ := h
  refine ⟨h2, fun q hq hz => ?_⟩
  obtain ⟨c9, e1, e2, e3, e4⟩ := h6 q _ (Array.getElem?_eq_getElem hq)
  have hs : c9.slots = (s.heap[q]).slots := Array.ext_getElem? fun i => e4 i fun hm => hz _ hm rfl
  have h9 : c9 = s.heap[q] := by
    rw [hs] at e2
    exact e2
  have e5 : U.heap[q]? = some c9 := e1
  rw [e5, h9, Array.getElem?_eq_getElem hq]
/-- the words of a throw but the four that speak of the heap -/
def vx_no (w : Cond) : Bool := decide (w ≠ .isRef (.static Bundle.tN "UNASSIGNED_STACK" Bundle.steD)) && decide (w ≠ .isRef (.static Bundle.tN "SUPPRESSED_SENTINEL" Bundle.listD)) && decide (w ≠ .laysStatic Bundle.tN "UNASSIGNED_STACK" Bundle.steD) && decide (w ≠ .laysStatic Bundle.tN "SUPPRESSED_SENTINEL" Bundle.listD)
def vx_at0 (own : String) (ic : Nat) (X : String) (names : List String) : List Cond := (Bundle.ownAtoms0 own ic X names).filter vx_no
def vx_atS (own : String) (ic : Nat) (X : String) (names : List String) : List Cond := (Bundle.ownAtoms own ic X names).filter vx_no
/-- a word that the tables alone decide, or a good one -/
def vx_ot (w : Cond) : Bool := w.onTables || goodWord w
theorem vx_ot_at {args a' : Array Value} {s U : State} {w : Cond} (hW : s.WarmedH U.vm) (hvm : s.vm = U.vm) (hg : vx_ot w = true) (h : w.before args s = true) : w.before a' U = true := by
  simp only [vx_ot, Bool.or_eq_true] at hg
  rcases hg with hg | hg
  · exact va_tabs hg hvm h
  · exact word_at hW (good_of_word hg) h
/-- a list's words: the good ones out of the method's own list, the others by premises of their own -/
theorem vx_hat {args : Array Value} {s : State} {L B : List Cond} (h1 : ∀ w ∈ L.filter goodWord, w.before args s = true) (h2 : ∀ w ∈ L.filter (fun w => !goodWord w), w ∈ B) (h3 : ∀ w ∈ B, w.before args s = true) : ∀ w ∈ L, w.before args s = true := by
  intro w hw
  by_cases g : goodWord w = true
  · exact h1 w (List.mem_filter.mpr ⟨hw, g⟩)
  · refine h3 w (h2 w (List.mem_filter.mpr ⟨hw, ?_⟩))
    show (!goodWord w) = true
    cases hgw : goodWord w
    · rfl
    · exact absurd hgw g
theorem vx_c {args : Array Value} {s : State} {w : Cond} {B : List Cond} (h : w.before args s = true) (t : ∀ w ∈ B, w.before args s = true) : ∀ w' ∈ w :: B, w'.before args s = true := fun w' h' => (List.mem_cons.mp h').elim (fun e => by rw [e]; exact h) (t w')
theorem vx_n {args : Array Value} {s : State} : ∀ w ∈ ([] : List Cond), w.before args s = true := fun _ h => nomatch h
theorem vx_own {args : Array Value} {s : State} {L : List Cond} (h1 : ∀ w ∈ L.filter vx_no, w.before args s = true)
    (hU : (Cond.isRef (.static Bundle.tN "UNASSIGNED_STACK" Bundle.steD)).before args s = true) (hN : (Cond.isRef (.static Bundle.tN "SUPPRESSED_SENTINEL" Bundle.listD)).before args s = true)
    (lU : (Cond.laysStatic Bundle.tN "UNASSIGNED_STACK" Bundle.steD).before args s = true) (lN : (Cond.laysStatic Bundle.tN "SUPPRESSED_SENTINEL" Bundle.listD).before args s = true) : ∀ w ∈ L, w.before args s = true := by
  intro w hw
  by_cases e1 : w = .isRef (.static Bundle.tN "UNASSIGNED_STACK" Bundle.steD)
  · rw [e1]; exact hU
  · by_cases e2 : w = .isRef (.static Bundle.tN "SUPPRESSED_SENTINEL" Bundle.listD)
    · rw [e2]; exact hN
    · by_cases e3 : w = .laysStatic Bundle.tN "UNASSIGNED_STACK" Bundle.steD
      · rw [e3]; exact lU
      · by_cases e4 : w = .laysStatic Bundle.tN "SUPPRESSED_SENTINEL" Bundle.listD
        · rw [e4]; exact lN
        · exact h1 w (List.mem_filter.mpr ⟨hw, by unfold vx_no; rw [decide_eq_true e1, decide_eq_true e2, decide_eq_true e3, decide_eq_true e4]; rfl⟩)
/-- where a static field lies, its class's statics cell in H -/
def vx_L (C n d : String) (A : Nat → Prop) (U : State) (H : Heap) : Prop := ∃ (c : ClassId) (k : Class) (i : Nat) (f : Field) (a : Nat) (cell : Cell), U.vm.findClass C = some c ∧ U.fieldFound? C n d = some (c, k, i, f) ∧ f.isStatic = true ∧ k.statics = some a ∧ H[a]? = some cell ∧ cell.vm.isStatics = true ∧ cell.cls = c ∧ f.slot < cell.slots.size ∧ k.staticTypes[f.slot]? = some f.type ∧ ¬ A a
theorem vx_L.moved {C n d : String} {A : Nat → Prop} {u U : State} {H : Heap} (hvm : u.vm.Alike U.vm) (h : vx_L C n d A u H) : vx_L C n d A U H := by
  obtain ⟨c, k, i, f, a, cell, h1, h2, h3, h4, h5, h6, h7, h8, h9, h10⟩ := h
  obtain ⟨k', hi', he⟩ := State.fieldFound?_setVm hvm h2
  exact ⟨c, k', i, f, a, cell, by rw [hvm.findClass]; exact h1, hi', h3, by rw [he]; exact h4, h5, h6, h7, h8, by rw [he]; exact h9, h10⟩
theorem vx_L.kept {C n d : String} {A : Nat → Prop} {U : State} {H H1 : Heap} (h : vx_L C n d A U H) (hq : ∀ a : Nat, a < H.size → ¬ A a → H1[a]? = H[a]?) : vx_L C n d A U H1 := by
  obtain ⟨c, k, i, f, a, cell, h1, h2, h3, h4, h5, h6, h7, h8, h9, h10⟩ := h
  exact ⟨c, k, i, f, a, cell, h1, h2, h3, h4, by rw [hq a (Array.getElem?_eq_some_iff.mp h5).1 h10]; exact h5, h6, h7, h8, h9, h10⟩
theorem vx_L.narrow {C n d : String} {A B : Nat → Prop} {U : State} {H : Heap} (h : vx_L C n d A U H) (hAB : ∀ q, B q → A q) : vx_L C n d B U H := by
  obtain ⟨c, k, i, f, a, cell, h1, h2, h3, h4, h5, h6, h7, h8, h9, h10⟩ := h
  exact ⟨c, k, i, f, a, cell, h1, h2, h3, h4, h5, h6, h7, h8, h9, fun z => h10 (hAB _ z)⟩
theorem vx_L.word {C n d : String} {A : Nat → Prop} {s : State} {args : Array Value} (h : vx_L C n d A s s.heap) : (Cond.laysStatic C n d).before args s = true := by
  obtain ⟨c, k, i, f, a, cell, h1, h2, h3, h4, h5, h6, h7, h8, h9, -⟩ := h
  show (Cond.laysStatic C n d).holds args s none s [] = true
  exact Cond.laysStatic_of h1 h2 h3 h4 h5 h6 h7 h8 h9
/-- .. and what it holds: null or some reference -/
def vx_Zq (C n d : String) (A : Nat → Prop) (U : State) (H : Heap) : Prop := va_Zq C n d A U H ∧ vx_L C n d A U H
theorem vx_Zq.moved {C n d : String} {A : Nat → Prop} {u U : State} {H : Heap} (hvm : u.vm.Alike U.vm) (h : vx_Zq C n d A u H) : vx_Zq C n d A U H := ⟨va_Zq.moved hvm h.1, vx_L.moved hvm h.2⟩
theorem vx_Zq.kept {C n d : String} {A : Nat → Prop} {U : State} {H H1 : Heap} (h : vx_Zq C n d A U H) (hq : ∀ a : Nat, a < H.size → ¬ A a → H1[a]? = H[a]?) : vx_Zq C n d A U H1 := ⟨va_Zq.kept h.1 hq, vx_L.kept h.2 hq⟩
theorem vx_Zq.narrow {C n d : String} {A B : Nat → Prop} {U : State} {H : Heap} (h : vx_Zq C n d A U H) (hAB : ∀ q, B q → A q) : vx_Zq C n d B U H := ⟨va_Zq.narrow h.1 hAB, vx_L.narrow h.2 hAB⟩
theorem vx_Zqof {args : Array Value} {s : State} {C n d : String} {A : Nat → Prop} (hl : (Cond.laysStatic C n d).before args s = true) (hini : (Cond.initialized C).before args s = true) (h : (Cond.isRef (.static C n d)).before args s = true) (hA : ∀ a : Nat, a < s.heap.size → ¬ A a) : vx_Zq C n d A s s.heap := by
  refine ⟨va_Zqof hl hini h hA, ?_⟩
  obtain ⟨c, k, i, f, a, cell, h1, h2, h3, h4, h5, h6, h7, h8, h9⟩ := Cond.laysStatic_spec hl
  exact ⟨c, k, i, f, a, cell, h1, h2, h3, h4, h5, h6, h7, h8, h9, hA a (Array.getElem?_eq_some_iff.mp h5).1⟩
theorem vx_isRef {C n d : String} {v : Value} {A : Nat → Prop} {s : State} {args : Array Value} (h : va_Z C n d v A s s.heap) (hv : v.isRef = true) : (Cond.isRef (.static C n d)).before args s = true := by
  obtain ⟨cf, kf, fi, f, a, cell, h1, h2, h3, h4, h5, h6, h7, -⟩ := h
  have he : (Term.static C n d).eval args s none [] s = some v := by
    simp [Term.eval, State.fieldNamed?, h1, h2, h4, h5, h6, h7]
  simp only [Cond.before, Cond.holds, Cond.value, he]
  cases v <;> simp_all [Value.isRef]
theorem vx_isRefq {C n d : String} {A : Nat → Prop} {s : State} {args : Array Value} (h : va_Zq C n d A s s.heap) : (Cond.isRef (.static C n d)).before args s = true := by
  rcases h with h | ⟨t, h⟩
  · exact vx_isRef h rfl
  · exact vx_isRef h rfl
/-- the same frame, seen from here: as if the method were called anew in this heap -/
theorem vx_rebase {T : State} (X : Stand p l e R s m args below meth c T locs cells slots) {R' : Room} (hf : R'.frames ≤ R.frames) (hl : R'.locals ≤ R.locals) (hc : cells + R'.cells ≤ R.cells) (hs : slots + R'.slots ≤ R.slots) :
    Stand p l e R' ((T.setVm s.vm).setFrames (.invoking m args :: below)) m args below meth c T [] 0 0 := by
  have htop : (T.setVm s.vm).topJava?.isSome := X.here.top
  have hF : ((T.setVm s.vm).setFrames (.invoking m args :: below)).frames = .invoking m args :: below := State.frames_setFrames _ (State.cur_lt_of_top htop)
  obtain ⟨g₀, hg0⟩ := Option.isSome_iff_exists.mp htop
  obtain ⟨r, hr⟩ := State.topJava?_eq_some.mp hg0
  have hl9 : e.platform.stackLimits (T.setVm s.vm).me = e.platform.stackLimits s.me := X.limits
  have hb9 : (T.setVm s.vm).me.stackBytes = s.me.stackBytes := X.bytes
  refine ⟨X.admits, X.cas, X.clock, hF, ?_, X.hears, X.method, X.code, X.here, X.tail, X.warmed, ?_, ?_, ?_⟩
  · have h := X.room
    have hU : ((T.setVm s.vm).setFrames (.invoking m args :: below)).localsInUse = s.localsInUse := by
      rw [State.localsInUse_invoking hF (meth := meth) (c := c) X.method X.code, State.localsInUse_invoking X.frames X.method X.code]
    simp only [State.hasRoom, Bool.and_eq_true, decide_eq_true_eq] at h ⊢
    obtain ⟨⟨⟨⟨h1, h2, h3, h4, h5, h6⟩, h7⟩, h8⟩, h9⟩ := h
    rw [X.frames, List.length_cons] at h2 h3
    have q1 := X.heapSize
    have q2 := X.used
    simp only [hF, hU, List.length_cons, State.stackLimits_setFrames, State.stackBytes_setFrames, hl9, hb9]
    refine ⟨⟨⟨⟨by omega, by omega, by omega, by omega, by omega, h6⟩, ?_⟩, ?_⟩, X.book⟩
    · show T.heap.size + R'.cells ≤ e.platform.maxCells
      omega
    · show T.slotsUsed + R'.slots ≤ e.platform.maxSlots
      omega
  · rw [State.stackLimits_setFrames]; rfl
  · rw [State.stackBytes_setFrames]; rfl
  · refine ⟨?_, Nat.le_refl _, Nat.le_refl _, ?_, ?_, fun a c9 h9 => ⟨c9, h9, rfl, rfl, fun _ _ => rfl⟩⟩
    · obtain ⟨t, ht, -⟩ := State.frames_cons hr
      show T.setVm s.vm = { ((T.setVm s.vm).setFrames (.invoking m args :: below)).setFrames (T.setVm s.vm).frames with heap := T.heap, slotsUsed := T.slotsUsed }
      rw [State.setFrames_setFrames, State.setFrames_self ht]
      rfl
    · show T.slotsUsed = T.slotsUsed + ((T.heap.toList.drop T.heap.size).map (·.slots.size)).sum
      rw [List.drop_eq_nil_of_le (Nat.le_of_eq Array.length_toList)]
      rfl
    · show ((T.heap.toList.drop T.heap.size).map (·.slots.size)).sum ≤ 0
      rw [List.drop_eq_nil_of_le (Nat.le_of_eq Array.length_toList)]
      exact Nat.le_refl _
/-- 'throw new E()': new; dup; invokespecial; athrow -/
theorem vx_throw0 {cc : ByteArray} {pc : Nat} (hexec : p.tables.exec = Jvm.exec) (hb : c.code = cc) (hl : l.stackTraces = false) {own cls : String} {names : List String} {ik ic mc ms : Nat} {A : Nat → Prop}
    (hown : s.vm.findClass own = some m.cls) (hcls : Bundle.fit cls = true) (hnames : ∀ n ∈ names, Bundle.fit n = true)
    (hk : (Cond.classLink own ik cls).before args s = true) (hini : (Cond.initialized cls).before args s = true) (hat : ∀ w ∈ vx_at0 own ic cls names, w.before args s = true)
    (hgood : ∀ w ∈ Cond.classLink own ik cls :: Cond.initialized cls :: vx_at0 own ic cls names, vx_ot w = true)
    (hU : vx_Zq Bundle.tN "UNASSIGNED_STACK" Bundle.steD A s s.heap) (hN : vx_Zq Bundle.tN "SUPPRESSED_SENTINEL" Bundle.listD A s s.heap) (hS : va_S A s.heap H locs) (hsize : ls.size = c.maxLocals)
    (d0 : decode cc pc = .ok (.new ik, 3)) (d3 : decode cc (pc + 3) = .ok (.dup, 1)) (d4 : decode cc (pc + 4) = .ok (.invokespecial ic, 3)) (d7 : decode cc (pc + 7) = .ok (.athrow, 1))
    (hout : ∀ x ∈ c.exceptionTable.toList, covers x (pc + 7) = false)
    (hRframes : names.length + 3 < R.frames) (hRlocals : (rest.map fun v => v.category).sum + (13 * (names.length + 1) + 42) ≤ R.locals) (hRcells : cells + 1 ≤ R.cells) (hRslots : slots + 6 ≤ R.slots) (hlocks : meth.locks = false)
    (hx : ∀ t : State, s.vm.Alike t.vm → H.size ≤ t.heap.size → (∀ q : Nat, q < H.size → t.heap[q]? = H[q]?) → XC cls s t)
    (hf : ∀ z ∈ locs, free z.base) (hc : cells + 1 ≤ mc) (hs : slots + 6 ≤ ms) :
    W p l e R s m args below meth c H locs cells slots (vx_MQ below Qc XC args s mc ms free) (F0 m pc ls rest) := by
  intro T hT X
  have htr : e.platform.stackTraces = false := (show e.platform.stackTraces = l.stackTraces by rw [X.admits.platform]).trans hl
  have Y := vx_rebase X (R' := { frames := R.frames, locals := R.locals, cells := 1, slots := 6 }) (Nat.le_refl _) (Nat.le_refl _) hRcells hRslots
  obtain ⟨s', hA⟩ : ∃ z, z = (T.setVm s.vm).setFrames (.invoking m args :: below) := ⟨_, rfl⟩
  rw [← hA] at Y
  have hvm : s'.vm = s.vm := by rw [hA]; rfl
  have hhp : s'.heap = H := by rw [hA]; exact hT
  have hW0 : s.WarmedH s'.vm := by rw [hvm]; exact State.WarmedH.refl s
  have hat' : ∀ w ∈ vx_at0 own ic cls names, w.before args s' = true := fun w hw => vx_ot_at hW0 hvm.symm (hgood w (List.mem_cons_of_mem _ (List.mem_cons_of_mem _ hw))) (hat w hw)
  have hk' : (Cond.classLink own ik cls).before args s' = true := vx_ot_at hW0 hvm.symm (hgood _ List.mem_cons_self) hk
  have hini' : (Cond.initialized cls).before args s' = true := vx_ot_at hW0 hvm.symm (hgood _ (List.mem_cons_of_mem _ List.mem_cons_self)) hini
  have hU' : vx_Zq Bundle.tN "UNASSIGNED_STACK" Bundle.steD A s' s'.heap := by rw [hhp]; exact vx_Zq.moved hW0.alike (hU.kept hS.2.1)
  have hN' : vx_Zq Bundle.tN "SUPPRESSED_SENTINEL" Bundle.listD A s' s'.heap := by rw [hhp]; exact vx_Zq.moved hW0.alike (hN.kept hS.2.1)
  have h : ∀ w ∈ Bundle.ownAtoms0 own ic cls names, w.before args s' = true := vx_own hat' (vx_isRefq hU'.1) (vx_isRefq hN'.1) hU'.2.word hN'.2.word
  have hown' : s'.vm.findClass own = some m.cls := by rw [hvm]; exact hown
  have hins : (Cond.instantiable cls 6).before args s' = true := h _ (by simp [Bundle.ownAtoms0])
  obtain ⟨vm₁, cX, kX, hfX, hkX, -, -, X₁, st1⟩ := Y.newCold hexec (own := own) (C := cls) (index := ik) (n := 6) hown' hk' hins hini'
    (g := F0 m pc ls rest) rfl (by rw [hb]; exact d0) (Nat.le_refl _) (Nat.le_refl _)
  generalize hT1 : (T.setVm vm₁).pushCell { cls := cX, slots := kX.instanceTypes.map defaultValue, vm := .none } = T1 at X₁ st1
  have hcat : (Value.ref T.heap.size).category = 1 := rfl
  have hcellA : T1.heap[T.heap.size]? = some (freshCell cX kX) := by rw [← hT1]; exact State.heap_pushCell_size _ _
  have d3' : decode c.code (pc + 3) = .ok (.dup, 1) := by rw [hb]; exact d3
  obtain ⟨U, hsteps, hrun, hend, hW, hsame, ce, hce, hO⟩ := X₁.ctorThrow0 hexec htr (own := own) (cls := cls) (names := names) (ic := ic) hown' hcls hnames h (fun x hx => nomatch hx) hfX hkX hcellA (by rw [hhp, hT]; exact Nat.le_refl _)
    (g := { method := m, pc := pc + 4, locals := ls, stack := .ref T.heap.size :: .ref T.heap.size :: rest, locked := none }) rfl hsize rfl rfl (rest := rest) rfl
    (by rw [hb]; exact d4) (by rw [hb]; exact d7) hout hRframes (by simp only [List.map_cons, List.sum_cons, hcat]; omega) hlocks
  obtain ⟨f1, f2⟩ := vx_frame hsame
  rw [hhp] at f1 f2
  have hWs : s.WarmedH U.vm := State.WarmedH.trans hW0 hW
  have hcl : s.vm.findClass cls = some ce.cls := by
    have h9 := hO.cls
    rw [hvm] at h9
    exact h9
  have hall : s.sameButNew ({ U with vm := s.vm } : State) locs mc ms := by
    subst hA
    obtain ⟨e1, e2⟩ := hsame
    rw [State.setFrames_setFrames] at e1
    have h2 : (T.setVm s.vm).sameButNew ({ U with vm := s.vm } : State) [] (0 + 1) (0 + 6) := ⟨e1, e2⟩
    have h3 := X.same.trans h2
    rw [List.append_nil] at h3
    exact h3.mono hc hs
  refine ⟨U, ?_, .threw T.heap.size, hrun, hend, Or.inr ⟨T.heap.size, rfl, cls, ce, locs, hx U hWs.alike f1 (fun q hq => f2 q hq (fun z hz => nomatch hz)), hce, hO.vm, hcl, hWs, hall, hf⟩⟩
  refine st1 _ ?_
  show Steps p.tables e below (T1.setTop { method := m, pc := pc + 3, locals := ls, stack := .ref T.heap.size :: rest, locked := none }) _
  jvm_step X₁.here [X₁.here.top, hexec, d3', Value.category]
  exact hsteps
/-- 'throw new E("text")': new; dup; ldc; invokespecial; athrow -/
theorem vx_throwS {cc : ByteArray} {pc : Nat} (hexec : p.tables.exec = Jvm.exec) (hb : c.code = cc) (hl : l.stackTraces = false) {own cls text : String} {names : List String} {ik is ic mc ms sa : Nat} {A : Nat → Prop}
    (hown : s.vm.findClass own = some m.cls) (hcls : Bundle.fit cls = true) (hnames : ∀ n ∈ names, Bundle.fit n = true)
    (hk : (Cond.classLink own ik cls).before args s = true) (hini : (Cond.initialized cls).before args s = true) (hstr : vk_R own is text sa s) (hat : ∀ w ∈ vx_atS own ic cls names, w.before args s = true)
    (hgood : ∀ w ∈ Cond.classLink own ik cls :: Cond.initialized cls :: vx_atS own ic cls names, vx_ot w = true)
    (hU : vx_Zq Bundle.tN "UNASSIGNED_STACK" Bundle.steD A s s.heap) (hN : vx_Zq Bundle.tN "SUPPRESSED_SENTINEL" Bundle.listD A s s.heap) (hS : va_S A s.heap H locs) (hsize : ls.size = c.maxLocals)
    (d0 : decode cc pc = .ok (.new ik, 3)) (d3 : decode cc (pc + 3) = .ok (.dup, 1)) (d4 : decode cc (pc + 4) = .ok (.ldc is, 2)) (d6 : decode cc (pc + 6) = .ok (.invokespecial ic, 3)) (d9 : decode cc (pc + 9) = .ok (.athrow, 1))
    (hout : ∀ x ∈ c.exceptionTable.toList, covers x (pc + 9) = false)
    (hRframes : names.length + 3 < R.frames) (hRlocals : (rest.map fun v => v.category).sum + (13 * (names.length + 1) + 43) ≤ R.locals) (hRcells : cells + 1 ≤ R.cells) (hRslots : slots + 6 ≤ R.slots) (hlocks : meth.locks = false)
    (hx : ∀ t : State, s.vm.Alike t.vm → H.size ≤ t.heap.size → (∀ q : Nat, q < H.size → t.heap[q]? = H[q]?) → XC cls s t)
    (hf : ∀ z ∈ locs, free z.base) (hc : cells + 1 ≤ mc) (hs : slots + 6 ≤ ms) :
    W p l e R s m args below meth c H locs cells slots (vx_MQ below Qc XC args s mc ms free) (F0 m pc ls rest) := by
  intro T hT X
  have htr : e.platform.stackTraces = false := (show e.platform.stackTraces = l.stackTraces by rw [X.admits.platform]).trans hl
  have Y := vx_rebase X (R' := { frames := R.frames, locals := R.locals, cells := 1, slots := 6 }) (Nat.le_refl _) (Nat.le_refl _) hRcells hRslots
  obtain ⟨s', hA⟩ : ∃ z, z = (T.setVm s.vm).setFrames (.invoking m args :: below) := ⟨_, rfl⟩
  rw [← hA] at Y
  have hvm : s'.vm = s.vm := by rw [hA]; rfl
  have hhp : s'.heap = H := by rw [hA]; exact hT
  have hW0 : s.WarmedH s'.vm := by rw [hvm]; exact State.WarmedH.refl s
  have hat' : ∀ w ∈ vx_atS own ic cls names, w.before args s' = true := fun w hw => vx_ot_at hW0 hvm.symm (hgood w (List.mem_cons_of_mem _ (List.mem_cons_of_mem _ hw))) (hat w hw)
  have hk' : (Cond.classLink own ik cls).before args s' = true := vx_ot_at hW0 hvm.symm (hgood _ List.mem_cons_self) hk
  have hini' : (Cond.initialized cls).before args s' = true := vx_ot_at hW0 hvm.symm (hgood _ (List.mem_cons_of_mem _ List.mem_cons_self)) hini
  have hU' : vx_Zq Bundle.tN "UNASSIGNED_STACK" Bundle.steD A s' s'.heap := by rw [hhp]; exact vx_Zq.moved hW0.alike (hU.kept hS.2.1)
  have hN' : vx_Zq Bundle.tN "SUPPRESSED_SENTINEL" Bundle.listD A s' s'.heap := by rw [hhp]; exact vx_Zq.moved hW0.alike (hN.kept hS.2.1)
  have h : ∀ w ∈ Bundle.ownAtoms own ic cls names, w.before args s' = true := vx_own hat' (vx_isRefq hU'.1) (vx_isRefq hN'.1) hU'.2.word hN'.2.word
  have hown' : s'.vm.findClass own = some m.cls := by rw [hvm]; exact hown
  have hins : (Cond.instantiable cls 6).before args s' = true := h _ (by simp [Bundle.ownAtoms])
  obtain ⟨vm₁, cX, kX, hfX, hkX, -, -, X₁, st1⟩ := Y.newCold hexec (own := own) (C := cls) (index := ik) (n := 6) hown' hk' hins hini'
    (g := F0 m pc ls rest) rfl (by rw [hb]; exact d0) (Nat.le_refl _) (Nat.le_refl _)
  generalize hT1 : (T.setVm vm₁).pushCell { cls := cX, slots := kX.instanceTypes.map defaultValue, vm := .none } = T1 at X₁ st1
  have hcat : (Value.ref T.heap.size).category = 1 := rfl
  have hcellA : T1.heap[T.heap.size]? = some (freshCell cX kX) := by rw [← hT1]; exact State.heap_pushCell_size _ _
  have d3' : decode c.code (pc + 3) = .ok (.dup, 1) := by rw [hb]; exact d3
  have d4' : decode c.code (pc + 4) = .ok (.ldc is, 2) := by rw [hb]; exact d4
  have hstr' : vk_R own is text sa s' := vk_R.warm hW0 hstr
  obtain ⟨U, hsteps, hrun, hend, hW, hsame, ce, hce, hO⟩ := X₁.ctorThrowS hexec htr (own := own) (cls := cls) (names := names) (ic := ic) hown' hcls hnames h (fun x hx => nomatch hx) hfX hkX hcellA (by rw [hhp, hT]; exact Nat.le_refl _) (msg := .ref sa) rfl
    (g := { method := m, pc := pc + 6, locals := ls, stack := .ref sa :: .ref T.heap.size :: .ref T.heap.size :: rest, locked := none }) rfl hsize rfl rfl (rest := rest) rfl
    (by rw [hb]; exact d6) (by rw [hb]; exact d9) hout hRframes (by simp only [List.map_cons, List.sum_cons, hcat]; omega) hlocks
  obtain ⟨f1, f2⟩ := vx_frame hsame
  rw [hhp] at f1 f2
  have hWs : s.WarmedH U.vm := State.WarmedH.trans hW0 hW
  have hcl : s.vm.findClass cls = some ce.cls := by
    have h9 := hO.cls
    rw [hvm] at h9
    exact h9
  have hall : s.sameButNew ({ U with vm := s.vm } : State) locs mc ms := by
    subst hA
    obtain ⟨e1, e2⟩ := hsame
    rw [State.setFrames_setFrames] at e1
    have h2 : (T.setVm s.vm).sameButNew ({ U with vm := s.vm } : State) [] (0 + 1) (0 + 6) := ⟨e1, e2⟩
    have h3 := X.same.trans h2
    rw [List.append_nil] at h3
    exact h3.mono hc hs
  refine ⟨U, ?_, .threw T.heap.size, hrun, hend, Or.inr ⟨T.heap.size, rfl, cls, ce, locs, hx U hWs.alike f1 (fun q hq => f2 q hq (fun z hz => nomatch hz)), hce, hO.vm, hcl, hWs, hall, hf⟩⟩
  refine st1 _ ?_
  show Steps p.tables e below (T1.setTop { method := m, pc := pc + 3, locals := ls, stack := .ref T.heap.size :: rest, locked := none }) _
  jvm_step X₁.here [X₁.here.top, hexec, d3', Value.category]
  exact X₁.ldcString hexec (own := own) (text := text) (index := is) (a := sa) hown' hstr'.1 hstr'.2
    (g := { method := m, pc := pc + 4, locals := ls, stack := .ref T.heap.size :: .ref T.heap.size :: rest, locked := none }) rfl d4' _ hsteps
/-- 'throw new E("text")', the text by a wide index -/
theorem vx_throwSW {cc : ByteArray} {pc : Nat} (hexec : p.tables.exec = Jvm.exec) (hb : c.code = cc) (hl : l.stackTraces = false) {own cls text : String} {names : List String} {ik is ic mc ms sa : Nat} {A : Nat → Prop}
    (hown : s.vm.findClass own = some m.cls) (hcls : Bundle.fit cls = true) (hnames : ∀ n ∈ names, Bundle.fit n = true)
    (hk : (Cond.classLink own ik cls).before args s = true) (hini : (Cond.initialized cls).before args s = true) (hstr : vk_R own is text sa s) (hat : ∀ w ∈ vx_atS own ic cls names, w.before args s = true)
    (hgood : ∀ w ∈ Cond.classLink own ik cls :: Cond.initialized cls :: vx_atS own ic cls names, vx_ot w = true)
    (hU : vx_Zq Bundle.tN "UNASSIGNED_STACK" Bundle.steD A s s.heap) (hN : vx_Zq Bundle.tN "SUPPRESSED_SENTINEL" Bundle.listD A s s.heap) (hS : va_S A s.heap H locs) (hsize : ls.size = c.maxLocals)
    (d0 : decode cc pc = .ok (.new ik, 3)) (d3 : decode cc (pc + 3) = .ok (.dup, 1)) (d4 : decode cc (pc + 4) = .ok (.ldc_w is, 3)) (d7 : decode cc (pc + 7) = .ok (.invokespecial ic, 3)) (d10 : decode cc (pc + 10) = .ok (.athrow, 1))
    (hout : ∀ x ∈ c.exceptionTable.toList, covers x (pc + 10) = false)
    (hRframes : names.length + 3 < R.frames) (hRlocals : (rest.map fun v => v.category).sum + (13 * (names.length + 1) + 43) ≤ R.locals) (hRcells : cells + 1 ≤ R.cells) (hRslots : slots + 6 ≤ R.slots) (hlocks : meth.locks = false)
    (hx : ∀ t : State, s.vm.Alike t.vm → H.size ≤ t.heap.size → (∀ q : Nat, q < H.size → t.heap[q]? = H[q]?) → XC cls s t)
    (hf : ∀ z ∈ locs, free z.base) (hc : cells + 1 ≤ mc) (hs : slots + 6 ≤ ms) :
    W p l e R s m args below meth c H locs cells slots (vx_MQ below Qc XC args s mc ms free) (F0 m pc ls rest) := by
  intro T hT X
  have htr : e.platform.stackTraces = false := (show e.platform.stackTraces = l.stackTraces by rw [X.admits.platform]).trans hl
  have Y := vx_rebase X (R' := { frames := R.frames, locals := R.locals, cells := 1, slots := 6 }) (Nat.le_refl _) (Nat.le_refl _) hRcells hRslots
  obtain ⟨s', hA⟩ : ∃ z, z = (T.setVm s.vm).setFrames (.invoking m args :: below) := ⟨_, rfl⟩
  rw [← hA] at Y
  have hvm : s'.vm = s.vm := by rw [hA]; rfl
  have hhp : s'.heap = H := by rw [hA]; exact hT
  have hW0 : s.WarmedH s'.vm := by rw [hvm]; exact State.WarmedH.refl s
  have hat' : ∀ w ∈ vx_atS own ic cls names, w.before args s' = true := fun w hw => vx_ot_at hW0 hvm.symm (hgood w (List.mem_cons_of_mem _ (List.mem_cons_of_mem _ hw))) (hat w hw)
  have hk' : (Cond.classLink own ik cls).before args s' = true := vx_ot_at hW0 hvm.symm (hgood _ List.mem_cons_self) hk
  have hini' : (Cond.initialized cls).before args s' = true := vx_ot_at hW0 hvm.symm (hgood _ (List.mem_cons_of_mem _ List.mem_cons_self)) hini
  have hU' : vx_Zq Bundle.tN "UNASSIGNED_STACK" Bundle.steD A s' s'.heap := by rw [hhp]; exact vx_Zq.moved hW0.alike (hU.kept hS.2.1)
  have hN' : vx_Zq Bundle.tN "SUPPRESSED_SENTINEL" Bundle.listD A s' s'.heap := by rw [hhp]; exact vx_Zq.moved hW0.alike (hN.kept hS.2.1)
  have h : ∀ w ∈ Bundle.ownAtoms own ic cls names, w.before args s' = true := vx_own hat' (vx_isRefq hU'.1) (vx_isRefq hN'.1) hU'.2.word hN'.2.word
  have hown' : s'.vm.findClass own = some m.cls := by rw [hvm]; exact hown
  have hins : (Cond.instantiable cls 6).before args s' = true := h _ (by simp [Bundle.ownAtoms])
  obtain ⟨vm₁, cX, kX, hfX, hkX, -, -, X₁, st1⟩ := Y.newCold hexec (own := own) (C := cls) (index := ik) (n := 6) hown' hk' hins hini'
    (g := F0 m pc ls rest) rfl (by rw [hb]; exact d0) (Nat.le_refl _) (Nat.le_refl _)
  generalize hT1 : (T.setVm vm₁).pushCell { cls := cX, slots := kX.instanceTypes.map defaultValue, vm := .none } = T1 at X₁ st1
  have hcat : (Value.ref T.heap.size).category = 1 := rfl
  have hcellA : T1.heap[T.heap.size]? = some (freshCell cX kX) := by rw [← hT1]; exact State.heap_pushCell_size _ _
  have d3' : decode c.code (pc + 3) = .ok (.dup, 1) := by rw [hb]; exact d3
  have d4' : decode c.code (pc + 4) = .ok (.ldc_w is, 3) := by rw [hb]; exact d4
  have hstr' : vk_R own is text sa s' := vk_R.warm hW0 hstr
  obtain ⟨U, hsteps, hrun, hend, hW, hsame, ce, hce, hO⟩ := X₁.ctorThrowS hexec htr (own := own) (cls := cls) (names := names) (ic := ic) hown' hcls hnames h (fun x hx => nomatch hx) hfX hkX hcellA (by rw [hhp, hT]; exact Nat.le_refl _) (msg := .ref sa) rfl
    (g := { method := m, pc := pc + 7, locals := ls, stack := .ref sa :: .ref T.heap.size :: .ref T.heap.size :: rest, locked := none }) rfl hsize rfl rfl (rest := rest) rfl
    (by rw [hb]; exact d7) (by rw [hb]; exact d10) hout hRframes (by simp only [List.map_cons, List.sum_cons, hcat]; omega) hlocks
  obtain ⟨f1, f2⟩ := vx_frame hsame
  rw [hhp] at f1 f2
  have hWs : s.WarmedH U.vm := State.WarmedH.trans hW0 hW
  have hcl : s.vm.findClass cls = some ce.cls := by
    have h9 := hO.cls
    rw [hvm] at h9
    exact h9
  have hall : s.sameButNew ({ U with vm := s.vm } : State) locs mc ms := by
    subst hA
    obtain ⟨e1, e2⟩ := hsame
    rw [State.setFrames_setFrames] at e1
    have h2 : (T.setVm s.vm).sameButNew ({ U with vm := s.vm } : State) [] (0 + 1) (0 + 6) := ⟨e1, e2⟩
    have h3 := X.same.trans h2
    rw [List.append_nil] at h3
    exact h3.mono hc hs
  refine ⟨U, ?_, .threw T.heap.size, hrun, hend, Or.inr ⟨T.heap.size, rfl, cls, ce, locs, hx U hWs.alike f1 (fun q hq => f2 q hq (fun z hz => nomatch hz)), hce, hO.vm, hcl, hWs, hall, hf⟩⟩
  refine st1 _ ?_
  show Steps p.tables e below (T1.setTop { method := m, pc := pc + 3, locals := ls, stack := .ref T.heap.size :: rest, locked := none }) _
  jvm_step X₁.here [X₁.here.top, hexec, d3', Value.category]
  exact X₁.ldcStringW hexec (own := own) (text := text) (index := is) (a := sa) hown' hstr'.1 hstr'.2
    (g := { method := m, pc := pc + 4, locals := ls, stack := .ref T.heap.size :: .ref T.heap.size :: rest, locked := none }) rfl d4' _ hsteps
end Ends
section Bodies
variable {l : Launch}
theorem vx_ofW {y : MethodName} {ws ws' : List Cond} {rm : Room} {Pc : Array Value → State → Prop} {Qc : Array Value → State → Outcome → State → Prop} {XC : String → State → State → Prop} {mc ms : Nat} {free : Addr → Prop} {cc : ByteArray} {maxL : Nat} {ret : Option FieldType}
    (hy : plainName y.cls = true) (hw : ws = Cond.code y cc maxL ret :: ws')
    (body : ∀ p e s m args below meth c s₁, BodyLoose p l y (headSpec ws rm) cc maxL ret e s m args below meth c s₁ → c.maxLocals = maxL → (∀ x ∈ c.exceptionTable.toList, False) → Pc args s →
      W p l e (headSpec ws rm).room s m args below meth c s.heap [] 0 0 (vx_MQ below Qc XC args s mc ms free) (entryFrame m args maxL)) : vx_Met l y ws rm Pc Qc XC mc ms free := by
  refine MetFree.of_bodyS (code := cc) (maxLocals := maxL) (ret := ret) hy ?_ ?_
  · intro args s m h hn
    obtain ⟨meth, c, h1, h2, h3, h4, h5, h6, -, -⟩ := Cond.code_spec hn (atoms_spec (ws := ws) h _ (by rw [hw]; exact List.mem_cons_self))
    exact ⟨meth, c, h1, h2, h3, h4, h5, h6⟩
  · intro p e s m args below meth c s₁ B hml hP _
    have hh0 : s₁.heap = s.heap := by rw [B.state]; rfl
    have ht : ∀ x ∈ c.exceptionTable.toList, False := by
      obtain ⟨meth9, c9, h1, h2, -, -, -, -, h7, -⟩ := Cond.code_spec B.named (atoms_spec (ws := ws) B.pre _ (by rw [hw]; exact List.mem_cons_self))
      cases Option.some.inj (h1.symm.trans B.method)
      cases Option.some.inj (h2.symm.trans (Stand.of_body B).code)
      intro x hx
      rw [Array.isEmpty_iff.mp h7] at hx
      cases hx
    obtain ⟨t, a1, o, b1, b2, b3⟩ := body p e s m args below meth c s₁ B hml ht hP s₁ hh0 (Stand.of_body B)
    exact ⟨t, o, a1, b1, b2, b3⟩
/-- the table of a body with handlers -/
theorem vx_table {p : Program} {x y : MethodName} {S : Spec} {cc bytes : ByteArray} {maxL maxL' : Nat} {ret ret' : Option FieldType} {e : Env} {s s₁ : State} {m : MethodId} {args : Array Value} {below : List Frame} {meth : Method} {c : Code} {hh : List (Nat × Nat × Nat × Nat)}
    (B : BodyLoose p l y S cc maxL ret e s m args below meth c s₁) (h : (Cond.codeWith y bytes maxL' ret' hh).before args s = true) : c.exceptionTable.toList = tableOf hh := by
  obtain ⟨m9, meth9, c9, hn9, h1, h2, -, -, h6, -⟩ := Cond.codeWith_spec h
  cases Option.some.inj (hn9.symm.trans B.named)
  cases Option.some.inj (h1.symm.trans B.method)
  cases Option.some.inj (h2.symm.trans (Stand.of_body B).code)
  rw [← h6, table_eq]
end Bodies
end VXA
/-! ===== END ===== -/
/-! ===== BEGIN a static call of a method with an exception table ===== -/
section VXS
variable {p : Program} {l : Launch} {e : Env} {R : Room} {s : State} {m : MethodId} {args : Array Value} {below : List Frame} {meth : Method} {c : Code} {T : State} {H : Heap} {locs : List Loc} {cells slots : Nat}
abbrev vx_CSW (R : Room) (s : State) (args : Array Value) (own : String) (index : Nat) (y : MethodName) (bytes : ByteArray) (maxL : Nat) (ret : Option FieldType) (hh : List (Nat × Nat × Nat × Nat)) (ws : List Cond) (rm : Room) (mc ms n : Nat) : Prop :=
  (rm.cells = mc ∧ rm.slots = ms ∧ rm.frames + 1 ≤ R.frames ∧ 8 + (maxL + 11) + rm.locals ≤ R.locals ∧ (∀ w ∈ ws, ∀ (a' : Array Value) (U : State), s.WarmedH U.vm → w.before a' U = true) ∧ Cond.codeWith y bytes maxL ret hh ∈ ws) ∧
  (Cond.codeWith y bytes maxL ret hh).before args s = true ∧ (Cond.initialized y.cls).before args s = true ∧ (y.cls ≠ "java/lang/invoke/MethodHandle" ∧ y.cls ≠ "java/lang/invoke/VarHandle") ∧
  (∀ sig, parseMethodDescriptor y.desc = some sig → n = sig.parameters.length) ∧ (Cond.methodLink own index y).before args s = true ∧ (Cond.static y).before args s = true
theorem vx_cwSW {own : String} {index maxL mc ms : Nat} {y : MethodName} {bytes : ByteArray} {ret : Option FieldType} {hh : List (Nat × Nat × Nat × Nat)} {Ts ws ws' : List Cond} {rm : Room} (n : Nat) (ht : ∀ w ∈ Ts, w.before args s = true) (hT : GoodIn Ts (va_wsS own index y ws)) (hw : ws = Cond.codeWith y bytes maxL ret hh :: ws') (hrc : rm.cells = mc) (hrs : rm.slots = ms)
    (hd : y.cls ≠ "java/lang/invoke/MethodHandle" ∧ y.cls ≠ "java/lang/invoke/VarHandle" ∧ (parseMethodDescriptor y.desc).map (fun d => d.parameters.length) = some n) (hR : rm.frames + 1 ≤ R.frames ∧ 8 + (maxL + 11) + rm.locals ≤ R.locals) :
    vx_CSW R s args own index y bytes maxL ret hh ws rm mc ms n := by
  have ok : ∀ w ∈ va_wsS own index y ws, w.before args s = true := fun w h => ht w (hT w h).1
  have hG : GoodIn Ts ws := fun w h => hT w (by unfold va_wsS; exact List.mem_append_right _ h)
  have hc : Cond.codeWith y bytes maxL ret hh ∈ ws := by rw [hw]; exact List.mem_cons_self
  refine ⟨⟨hrc, hrs, hR.1, hR.2, pay_in ht hG, hc⟩, ht _ (hG _ hc).1, ok _ (by simp [va_wsS]), ⟨hd.1, hd.2.1⟩, fun sig h => ?_, ok _ (by simp [va_wsS]), ok _ (by simp [va_wsS])⟩
  have h2 := hd.2.2
  rw [h] at h2
  exact (Option.some.inj h2).symm
theorem vx_callSW (X : Stand p l e R s m args below meth c T locs cells slots) (hexec : p.tables.exec = Jvm.exec) {own : String} {index : Nat} {y : MethodName} {bytes : ByteArray} {maxL : Nat} {ret : Option FieldType} {hh : List (Nat × Nat × Nat × Nat)}
    (hown : s.vm.findClass own = some m.cls) (hlink : (Cond.methodLink own index y).before args s = true) (hstat : (Cond.static y).before args s = true) (hinit : (Cond.initialized y.cls).before args s = true)
    (hcode : (Cond.codeWith y bytes maxL ret hh).before args s = true) (hy : y.cls ≠ "java/lang/invoke/MethodHandle" ∧ y.cls ≠ "java/lang/invoke/VarHandle")
    {W9 : Nat} {Pre : Pt → Array Value → Prop} {Post : Pt → Array Value → Option Value → Pt → Prop} (hK : Back l R p e below s args y 3 W9 Pre Post)
    {g : JFrame} (hg : g.method = m) (hsize : g.locals.size = c.maxLocals) {argsL rest : List Value} (hlen : ∀ sig, parseMethodDescriptor y.desc = some sig → argsL.length = sig.parameters.length)
    (hstack : g.stack = argsL.reverse ++ rest) (hW : 2 * g.monitorRoom + (rest.map fun v => v.category).sum ≤ W9) (hdg : decode c.code g.pc = .ok (.invokestatic index, 3))
    (hpre : ∀ vm₁, s.WarmedH vm₁ → Pre ⟨T.setVm vm₁, locs, cells, slots⟩ argsL.toArray) :
    ∃ (v : Option Value) (vm₁ : Vm) (B : Pt), s.WarmedH vm₁ ∧ Stand p l e R s m args below meth c B.U B.locs B.cells B.slots ∧ Post ⟨T.setVm vm₁, locs, cells, slots⟩ argsL.toArray v B ∧
      ∀ target, Steps p.tables e below (B.U.setTop { g with pc := g.pc + 3, stack := v.toList ++ rest }) target → Steps p.tables e below (T.setTop g) target := by
  obtain ⟨mk, methM, cM, hnamed, hmethM, -, -, -, -, -, -, hsigM⟩ := Cond.codeWith_spec hcode
  have hstatic : methM.isStatic = true := Cond.static_spec hnamed hmethM hstat
  obtain ⟨kP, hkP, -⟩ := className_of_methodNamed hnamed
  have hinitP : kP.init = .initialized := Cond.initialized_spec (findClass_of_methodNamed hnamed) hkP hinit
  obtain ⟨vm₁, X₁, hstep₁⟩ := X.invokestatic hexec hown hlink hnamed hmethM hstatic hkP hinitP hy (g := g) hg (argsL := argsL) (rest := rest) (hlen _ hsigM) hstack hdg
  obtain ⟨v, B, X', hpost, hsteps⟩ := hK m meth c ⟨T.setVm vm₁, locs, cells, slots⟩ { g with stack := rest } (.invokestatic index) mk argsL.toArray X₁ hg hsize hdg hW (X₁.named hnamed) (hpre vm₁ X₁.warmed)
  exact ⟨v, vm₁, B, X₁.warmed, X', hpost, fun target h => hstep₁ _ fun acts => by rw [doInvoke_state]; exact hsteps.trans h⟩
theorem vx_runSW {y : MethodName} {bytes cc : ByteArray} {maxL nL mc ms n index : Nat} {ret : Option FieldType} {hh : List (Nat × Nat × Nat × Nat)} {ws : List Cond} {rm : Room} {Pc : Array Value → State → Prop} {Qc : Array Value → State → Outcome → State → Prop} {free : Addr → Prop} {Ts : List Cond} {own : String} {As rest : List Value} {g : JFrame}
    (S : CallFix p m c cc nL s args Ts own) (hM : Met l y ws rm Pc Qc mc ms free) (cw : vx_CSW R s args own index y bytes maxL ret hh ws rm mc ms n) (hp : PreS s H Pc As)
    (hg : g.method = m) (hn : As.length = n) (hsize : g.locals.size = nL) (hstack : g.stack = As.reverse ++ rest) (hW : 2 * g.monitorRoom + (rest.map fun v => v.category).sum ≤ 8) (hdg : decode cc g.pc = .ok (.invokestatic index, 3)) (hf : cells + mc ≤ R.cells ∧ slots + ms ≤ R.slots) :
    va_Run p l e R s m args below meth c H locs cells slots mc ms g rest (Qc As.toArray) (free) := by
  obtain ⟨⟨hrc, hrs, hfr, hlo, hws, hcw⟩, hcode, hini, hy, hlen, hl, hstt⟩ := cw
  have hK : Back l R p e below s args y 3 8 (PreOf R mc ms Pc) (PostOf Qc mc ms free) := va_backW (hh := hh) (bytes := bytes) (maxL := maxL) (ret := ret) hM hp.1 hrc hrs hfr hlo hws hcw (fun a' U hW => word_at hW (Or.inl (by first | rfl | simp [Cond.onTables, Cond.keeps, Cond.steady])) hini)
  obtain ⟨hx, hb, hml, ho, -⟩ := S
  intro T hT X
  obtain ⟨v, vm₁, ⟨U', l2, c2, s2⟩, hW₁, X', ⟨g', mk, t, L, e1, e2, hq, h1, hL, h2, h3⟩, st⟩ := vx_callSW X hx (hh := hh) (bytes := bytes) (maxL := maxL) (ret := ret) ho hl hstt hini hcode hy hK hg (hsize.trans hml.symm) (argsL := As) (rest := rest) (fun sig h => hn.trans (hlen sig h)) hstack hW (by rw [hb]; exact hdg)
    (fun vm₁ hW₁ => ⟨hf.1, hf.2, hp.2 (T.setVm vm₁) hT hW₁⟩)
  dsimp only [Pt.U, Pt.locs, Pt.cells, Pt.slots] at X' e1 e2 h1 h2 h3 st
  subst h1; subst h2; subst h3
  exact ⟨v, (T.setVm vm₁).calling g' mk As.toArray, t, U', L, hT, X', hL, e1, e2, hq, st⟩
/-- not caught here, past rows that name other classes: it goes on to the caller -/
theorem vx_outP {p : Program} {l : Launch} {e : Env} {R : Room} {s : State} {m : MethodId} {args : Array Value} {below : List Frame} {meth : Method} {c : Code} {H : Heap} {locs : List Loc} {cells slots : Nat} {free : Addr → Prop} {ls : Array Slot} {rest : List Value} {Qc : Array Value → State → Outcome → State → Prop} {XC : String → State → State → Prop}
    {pc : Nat} {own E : String} {ce : Cell} {q : Addr} {mc ms : Nat} (hown : s.vm.findClass own = some m.cls) (hlocks : meth.locks = false)
    (hpass : ∀ z ∈ c.exceptionTable.toList, covers z pc = false ∨ (z.catchType ≠ 0 ∧ ∃ nm : String, (Cond.classLink own z.catchType nm).before args s = true ∧ va_Nc E nm s)) (hcell : H[q]? = some ce) (hv : ce.vm = .none) (hcl : s.vm.findClass E = some ce.cls)
    (hx : ∀ t : State, t.heap = H → s.vm.Alike t.vm → XC E s t) (hf : ∀ z ∈ locs, free z.base) (hc : cells ≤ mc) (hs : slots ≤ ms) :
    vx_W p l e R s m args below meth c H locs cells slots (vx_MQ below Qc XC args s mc ms free) (F0 m pc ls rest) q := by
  intro T hT X
  have hpl : e.platform.magicAccessors = ({} : Platform).magicAccessors := by rw [X.admits.platform]
  obtain ⟨vm', hW', X', st⟩ := X.outThrough hlocks q (g := F0 m pc ls rest) rfl rfl rfl (cell := ce) (by rw [hT]; exact hcell) (by rw [hv]; rfl)
    (by obtain ⟨k9, h9, -⟩ := Vm.findClass_spec hcl; exact ⟨k9, h9⟩) (fun z hz => by
      rcases hpass z hz with h | ⟨hz0, nm, hl1, hn1⟩
      · exact Or.inl h
      · obtain ⟨c6, hc6, hcl6⟩ := Cond.classLink_spec hown hl1 e.platform hpl
        obtain ⟨a8, b8, h1, h2, h3⟩ := hn1
        cases Option.some.inj (h1.symm.trans hcl)
        cases Option.some.inj (h2.symm.trans hc6)
        exact Or.inr ⟨hz0, _, hcl6, h3⟩)
  obtain ⟨g₀, hfr⟩ := X'.frames_eq
  have hcell9 : ((T.setVm vm').setFrames (.throwing q :: below)).heap[q]? = some ce := by
    show T.heap[q]? = some ce
    rw [hT]; exact hcell
  have hend : Ended ((T.setVm vm').setFrames (.throwing q :: below)) below (.threw q) := State.frames_setFrames _ (State.cur_lt_of_frames hfr)
  refine ⟨(T.setVm vm').setFrames (.throwing q :: below), ?_, .threw q, X'.here.running, hend, Or.inr ⟨q, rfl, E, ce, locs, hx _ hT (X'.ends _).1.alike, hcell9, hv, hcl, (X'.ends _).1, (X'.ends _).2.mono hc hs, hf⟩⟩
  rw [X.pushThrowing_eq]
  exact st
/-- a thing of a world lies in the heap -/
theorem vx_lt {D : va_G} {cl : List vw_C} {ws : va_W} {H1 : Heap} (h : va_P D cl ws H1) {k : Nat} {q : Nat × va_E} (hk : ws[k]? = some q) : q.1 < H1.size := (h k q hk).lt
end VXS
/-! ===== END ===== -/
/-! ===== BEGIN methods with a table of their own: called by a name, returning or throwing ===== -/
section VXH
/-! vx_backW, vx_callVX, vx_callSX, vx_callVW, vx_runVW, vx_runVX, vx_runSX, vx_ofWH follow the same proofs as their sisters above (Free/Laws.lean, Shelf42/LK1.lean); vx_outP calls Shelf42/NT130.lean (outThrough). -/
section
variable {l : Launch} {R : Room} {p : Program} {e : Env} {below : List Frame} {s : State} {sargs : Array Value} {y : MethodName} {len W9 : Nat}
theorem vx_backW {ws : List Cond} {rm : Room} {Pc : Array Value → State → Prop} {Qc : Array Value → State → Outcome → State → Prop} {XC : String → State → State → Prop} {mc ms : Nat} {free : Addr → Prop} {bytes : ByteArray} {maxL : Nat} {ret : Option FieldType} {hh : List (Nat × Nat × Nat × Nat)}
    (hM : vx_Met l y ws rm Pc Qc XC mc ms free) (hblind : FrameBlind Pc) (hrc : rm.cells = mc) (hrs : rm.slots = ms)
    (hframes : rm.frames + 1 ≤ R.frames) (hlocals : W9 + (maxL + 11) + rm.locals ≤ R.locals)
    (hws : ∀ w ∈ ws, ∀ a' U, s.WarmedH U.vm → w.before a' U = true) (hcode : Cond.codeWith y bytes maxL ret hh ∈ ws) (hinit : ∀ a' U, s.WarmedH U.vm → (Cond.initialized y.cls).before a' U = true) :
    vx_Back l R p e below s sargs y len W9 (PreOf R mc ms Pc) (PostOf Qc mc ms free) (vx_Post XC mc ms free) := by
  intro m meth c A g ig mk a X hg hsize hdg hW hn hp
  have h1 : (headSpec ws rm).pre.before a A.U = true := atoms_intro fun w hw => hws w hw _ _ X.warmed
  have h2 : (Cond.codeWith y bytes maxL ret hh).before a A.U = true := hws _ hcode _ _ X.warmed
  have h3 : (Cond.initialized y.cls).before a A.U = true := hinit _ _ X.warmed
  have h4 : A.cells + (headSpec ws rm).room.cells ≤ R.cells := by rw [show (headSpec ws rm).room.cells = mc from hrc]; exact hp.1
  have h5 : A.slots + (headSpec ws rm).room.slots ≤ R.slots := by rw [show (headSpec ws rm).room.slots = ms from hrs]; exact hp.2.1
  have hPc : Pc a (A.U.calling g mk a) := hblind _ _ _ _ hp.2.2
  obtain ⟨U, Ls, c0, s0⟩ := A
  dsimp only [Pt.U, Pt.locs, Pt.cells, Pt.slots] at h1 h2 h3 h4 h5 X hn hPc ⊢
  obtain ⟨m9, methY, cY, hn9, hmY, hcY, -, hlY, -⟩ := Cond.codeWith_spec h2
  cases Option.some.inj (hn9.symm.trans hn)
  obtain ⟨kY, hkY, -⟩ := className_of_methodNamed hn
  have hinitY : kY.init = .initialized := Cond.initialized_spec (findClass_of_methodNamed hn) hkY h3
  have h : At U g.method c below := by rw [hg]; exact X.here
  have hlocals9 : W9 + (maxL + 11) + (headSpec ws rm).room.locals ≤ R.locals := hlocals
  have happ : (headSpec ws rm).appliesLoose y e.platform (U.calling g mk a) = true :=
    Spec.appliesLoose_calling (g := g) h hdg hn hkY hinitY
      (X.room_calling (g := g) (R' := (headSpec ws rm).room) hsize hmY hcY hframes (by rw [hlY]; omega) h4 h5) h1
  obtain ⟨mid, hmid⟩ := h.above
  have hfr : (U.setTop g).frames = (.java g :: mid) ++ below := by rw [State.frames_setTop' g h.top, hmid]; rfl
  obtain ⟨o, s₂, hsteps, -, hend, hq⟩ := Steps.callFree hM p X.admits X.cas X.clock (acts := []) hfr happ hPc trivial
  have hq' : vx_Q Qc XC mc ms free a (U.calling g mk a) o s₂ := hq
  rw [State.frames_setTop' g h.top] at hend
  obtain ⟨g₀, hg0⟩ := Option.isSome_iff_exists.mp h.top
  obtain ⟨r, hr⟩ := State.topJava?_eq_some.mp hg0
  have hr' : (({ U with heap := s₂.heap, slotsUsed := s₂.slotsUsed } : State).setVm s₂.vm).frames = .java g₀ :: r := hr
  rcases hq' with ⟨hqc, L, hfe, hL⟩ | ⟨q, rfl, E, ce, L, hx, hce, hcv, hcl, hW₂, hsm, hL⟩
  · obtain ⟨⟨v, rfl⟩, hW₂, e2, q2, q3, q4, q5, q6⟩ := id hfe
    have e3 : s₂ = ({ (U.calling g mk a).setFrames s₂.frames with heap := s₂.heap, slotsUsed := s₂.slotsUsed } : State).setVm s₂.vm := by
      have : s₂ = ({ s₂ with vm := (U.calling g mk a).vm } : State).setVm s₂.vm := rfl
      rw [e2] at this
      exact this
    obtain ⟨c₂, i₂, len₂, hc₂, hd₂, hf₂⟩ := hend
    have hW' : U.WarmedH s₂.vm := hW₂
    have hcc : c₂ = c := by
      have h1 : s₂.code? g.method = U.code? g.method := by
        rw [State.code?_eq, State.code?_eq, hW'.alike.method?]
      exact Option.some.inj (hc₂.symm.trans (h1.trans h.code))
    subst hcc
    have hlen : len₂ = len := by rw [hdg] at hd₂; cases hd₂; rfl
    subst hlen
    have hs₂ : s₂ = (({ U with heap := s₂.heap, slotsUsed := s₂.slotsUsed } : State).setVm s₂.vm).setTop { g with pc := g.pc + len₂, stack := v.toList ++ g.stack } := by
      refine e3.trans ?_
      rw [hf₂, State.calling_eq h.top, State.setFrames_setFrames, State.setTop_of_frames _ hr', hr]
      rfl
    have hsame : U.sameButNew ({ U with heap := s₂.heap, slotsUsed := s₂.slotsUsed } : State) L mc ms := by
      refine ⟨?_, q2, q3, q4, q5, q6⟩
      obtain ⟨t, ht, -⟩ := State.frames_cons hr
      show ({ U with heap := s₂.heap, slotsUsed := s₂.slotsUsed } : State) = { U.setFrames U.frames with heap := s₂.heap, slotsUsed := s₂.slotsUsed }
      rw [State.setFrames_self ht]
    subst hg
    refine Or.inl ⟨v, ⟨(({ U with heap := s₂.heap, slotsUsed := s₂.slotsUsed } : State).setVm s₂.vm), Ls ++ L, c0 + mc, s0 + ms⟩,
      ⟨X.admits, X.cas, X.clock, X.frames, X.room, X.hears, X.method, X.code, (X.here.setHeapUsed s₂.heap s₂.slotsUsed).setVm hW'.alike, X.tail, State.WarmedH.trans X.warmed hW', X.limits, X.bytes, X.same.trans (hsame.setVm s.vm)⟩,
      ⟨g, mk, s₂, L, rfl, rfl, hqc, rfl, hL, rfl, rfl⟩, ?_⟩
    show Steps p.tables e below _ ((({ U with heap := s₂.heap, slotsUsed := s₂.slotsUsed } : State).setVm s₂.vm).setTop { g with pc := g.pc + len₂, stack := v.toList ++ g.stack })
    rw [← hs₂]
    exact hsteps
  · obtain ⟨e2, q2, q3, q4, q5, q6⟩ := id hsm
    have e3 : s₂ = ({ (U.calling g mk a).setFrames s₂.frames with heap := s₂.heap, slotsUsed := s₂.slotsUsed } : State).setVm s₂.vm := by
      have : s₂ = ({ s₂ with vm := (U.calling g mk a).vm } : State).setVm s₂.vm := rfl
      rw [e2] at this
      exact this
    have hf₂ : s₂.frames = .throwing q :: .java g :: U.frames.tail := hend
    have hW' : U.WarmedH s₂.vm := hW₂
    have hs₂ : s₂ = ((({ U with heap := s₂.heap, slotsUsed := s₂.slotsUsed } : State).setVm s₂.vm).setTop g).pushFrame (.throwing q) := by
      refine e3.trans ?_
      rw [hf₂, State.calling_eq h.top, State.setFrames_setFrames, State.pushFrame, State.frames_setTop _ hr', State.setTop_of_frames _ hr', State.setFrames_setFrames, hr]
      rfl
    have hsame : U.sameButNew ({ U with heap := s₂.heap, slotsUsed := s₂.slotsUsed } : State) L mc ms := by
      refine ⟨?_, q2, q3, q4, q5, q6⟩
      obtain ⟨t, ht, -⟩ := State.frames_cons hr
      show ({ U with heap := s₂.heap, slotsUsed := s₂.slotsUsed } : State) = { U.setFrames U.frames with heap := s₂.heap, slotsUsed := s₂.slotsUsed }
      rw [State.setFrames_self ht]
    subst hg
    refine Or.inr ⟨q, ⟨(({ U with heap := s₂.heap, slotsUsed := s₂.slotsUsed } : State).setVm s₂.vm), Ls ++ L, c0 + mc, s0 + ms⟩,
      ⟨X.admits, X.cas, X.clock, X.frames, X.room, X.hears, X.method, X.code, (X.here.setHeapUsed s₂.heap s₂.slotsUsed).setVm hW'.alike, X.tail, State.WarmedH.trans X.warmed hW', X.limits, X.bytes, X.same.trans (hsame.setVm s.vm)⟩,
      ⟨g, mk, s₂, L, E, ce, rfl, rfl, hx, hce, hcv, hcl, rfl, hL, rfl, rfl⟩, ?_⟩
    show Steps p.tables e below _ (((({ U with heap := s₂.heap, slotsUsed := s₂.slotsUsed } : State).setVm s₂.vm).setTop g).pushFrame (.throwing q))
    rw [← hs₂]
    exact hsteps
end
variable {p : Program} {l : Launch} {e : Env} {R : Room} {s : State} {m : MethodId} {args : Array Value} {below : List Frame} {meth : Method} {c : Code} {T : State} {H : Heap} {locs : List Loc} {cells slots : Nat}
theorem vx_callVX (X : Stand p l e R s m args below meth c T locs cells slots) (hexec : p.tables.exec = Jvm.exec) {own C : String} {index : Nat} {y : MethodName} {bytes : ByteArray} {maxL : Nat} {ret : Option FieldType} {hh : List (Nat × Nat × Nat × Nat)}
    (hown : s.vm.findClass own = some m.cls) (hlink : (Cond.methodLink own index y).before args s = true) (hinst : (Cond.instanceMethod y).before args s = true) (hsel : (Cond.selects C y y).before args s = true)
    (hcode : (Cond.codeWith y bytes maxL ret hh).before args s = true) (hy : y.cls ≠ "java/lang/invoke/MethodHandle" ∧ y.cls ≠ "java/lang/invoke/VarHandle")
    {W9 : Nat} {Pre : Pt → Array Value → Prop} {Post : Pt → Array Value → Option Value → Pt → Prop} {PostX : Pt → Array Value → Addr → Pt → Prop} (hK : vx_Back l R p e below s args y 3 W9 Pre Post PostX)
    {b : Addr} {cellB : Cell} (hcell : T.heap[b]? = some cellB) (hobj : cellB.vm.isStatics = false) (hcls : s.vm.findClass C = some cellB.cls)
    {g : JFrame} (hg : g.method = m) (hsize : g.locals.size = c.maxLocals) {argsL rest : List Value} (hlen : ∀ sig, parseMethodDescriptor y.desc = some sig → argsL.length = sig.parameters.length)
    (hstack : g.stack = argsL.reverse ++ .ref b :: rest) (hW : 2 * g.monitorRoom + (rest.map fun v => v.category).sum ≤ W9) (hdg : decode c.code g.pc = .ok (.invokevirtual index, 3))
    (hpre : ∀ vm₁, s.WarmedH vm₁ → Pre ⟨T.setVm vm₁, locs, cells, slots⟩ (Value.ref b :: argsL).toArray) :
    (∃ (v : Option Value) (vm₁ : Vm) (B : Pt), s.WarmedH vm₁ ∧ Stand p l e R s m args below meth c B.U B.locs B.cells B.slots ∧ Post ⟨T.setVm vm₁, locs, cells, slots⟩ (Value.ref b :: argsL).toArray v B ∧
      ∀ target, Steps p.tables e below (B.U.setTop { g with pc := g.pc + 3, stack := v.toList ++ rest }) target → Steps p.tables e below (T.setTop g) target) ∨
    (∃ (q : Addr) (vm₁ : Vm) (B : Pt), s.WarmedH vm₁ ∧ Stand p l e R s m args below meth c B.U B.locs B.cells B.slots ∧ PostX ⟨T.setVm vm₁, locs, cells, slots⟩ (Value.ref b :: argsL).toArray q B ∧
      Steps p.tables e below (T.setTop g) ((B.U.setTop { g with stack := rest }).pushFrame (.throwing q))) := by
  obtain ⟨mk, methM, hnamed, hmethM, hstM, habM⟩ := Cond.instanceMethod_spec hinst
  obtain ⟨m8, methM', cM, hn8, hmethM', -, -, -, -, -, -, hsigM⟩ := Cond.codeWith_spec hcode
  cases Option.some.inj (hn8.symm.trans hnamed)
  cases hmethM.symm.trans hmethM'
  obtain ⟨c2, r2, m2, q1, q2, q3, q4, kP, hkP, hkPi⟩ := Cond.selects_spec hsel
  cases hcls.symm.trans q1
  cases (State.methodFound?_of_named hnamed hy).symm.trans q2
  cases hnamed.symm.trans q3
  have hselP : selectMethod e.platform s.vm cellB.cls mk = .method mk := by rw [Launch.admits_selectMethod X.admits]; exact q4
  obtain ⟨vm₁, X₁, hstep₁⟩ := X.invokevirtual hexec hown hlink hnamed hmethM hstM hkP hkPi hy (a := b) (cell := cellB) hcell
    (fun z h => by rw [h] at hobj; cases hobj) hselP hmethM habM hkP hkPi (g := g) hg (argsL := argsL) (rest := rest) (hlen _ hsigM) hstack hdg
  rcases hK m meth c ⟨T.setVm vm₁, locs, cells, slots⟩ { g with stack := rest } (.invokevirtual index) mk (Value.ref b :: argsL).toArray X₁ hg hsize hdg hW (X₁.named hnamed) (hpre vm₁ X₁.warmed) with ⟨v, B, X', hpost, hsteps⟩ | ⟨q, B, X', hpost, hsteps⟩
  · exact Or.inl ⟨v, vm₁, B, X₁.warmed, X', hpost, fun target h => hstep₁ _ fun acts => by rw [doInvoke_state]; exact hsteps.trans h⟩
  · exact Or.inr ⟨q, vm₁, B, X₁.warmed, X', hpost, hstep₁ _ fun acts => by rw [doInvoke_state]; exact hsteps⟩
theorem vx_callSX (X : Stand p l e R s m args below meth c T locs cells slots) (hexec : p.tables.exec = Jvm.exec) {own : String} {index : Nat} {y : MethodName} {bytes : ByteArray} {maxL : Nat} {ret : Option FieldType} {hh : List (Nat × Nat × Nat × Nat)}
    (hown : s.vm.findClass own = some m.cls) (hlink : (Cond.methodLink own index y).before args s = true) (hstat : (Cond.static y).before args s = true) (hinit : (Cond.initialized y.cls).before args s = true)
    (hcode : (Cond.codeWith y bytes maxL ret hh).before args s = true) (hy : y.cls ≠ "java/lang/invoke/MethodHandle" ∧ y.cls ≠ "java/lang/invoke/VarHandle")
    {W9 : Nat} {Pre : Pt → Array Value → Prop} {Post : Pt → Array Value → Option Value → Pt → Prop} {PostX : Pt → Array Value → Addr → Pt → Prop} (hK : vx_Back l R p e below s args y 3 W9 Pre Post PostX)
    {g : JFrame} (hg : g.method = m) (hsize : g.locals.size = c.maxLocals) {argsL rest : List Value} (hlen : ∀ sig, parseMethodDescriptor y.desc = some sig → argsL.length = sig.parameters.length)
    (hstack : g.stack = argsL.reverse ++ rest) (hW : 2 * g.monitorRoom + (rest.map fun v => v.category).sum ≤ W9) (hdg : decode c.code g.pc = .ok (.invokestatic index, 3))
    (hpre : ∀ vm₁, s.WarmedH vm₁ → Pre ⟨T.setVm vm₁, locs, cells, slots⟩ argsL.toArray) :
    (∃ (v : Option Value) (vm₁ : Vm) (B : Pt), s.WarmedH vm₁ ∧ Stand p l e R s m args below meth c B.U B.locs B.cells B.slots ∧ Post ⟨T.setVm vm₁, locs, cells, slots⟩ argsL.toArray v B ∧
      ∀ target, Steps p.tables e below (B.U.setTop { g with pc := g.pc + 3, stack := v.toList ++ rest }) target → Steps p.tables e below (T.setTop g) target) ∨
    (∃ (q : Addr) (vm₁ : Vm) (B : Pt), s.WarmedH vm₁ ∧ Stand p l e R s m args below meth c B.U B.locs B.cells B.slots ∧ PostX ⟨T.setVm vm₁, locs, cells, slots⟩ argsL.toArray q B ∧
      Steps p.tables e below (T.setTop g) ((B.U.setTop { g with stack := rest }).pushFrame (.throwing q))) := by
  obtain ⟨mk, methM, cM, hnamed, hmethM, -, -, -, -, -, -, hsigM⟩ := Cond.codeWith_spec hcode
  have hstatic : methM.isStatic = true := Cond.static_spec hnamed hmethM hstat
  obtain ⟨kP, hkP, -⟩ := className_of_methodNamed hnamed
  have hinitP : kP.init = .initialized := Cond.initialized_spec (findClass_of_methodNamed hnamed) hkP hinit
  obtain ⟨vm₁, X₁, hstep₁⟩ := X.invokestatic hexec hown hlink hnamed hmethM hstatic hkP hinitP hy (g := g) hg (argsL := argsL) (rest := rest) (hlen _ hsigM) hstack hdg
  rcases hK m meth c ⟨T.setVm vm₁, locs, cells, slots⟩ { g with stack := rest } (.invokestatic index) mk argsL.toArray X₁ hg hsize hdg hW (X₁.named hnamed) (hpre vm₁ X₁.warmed) with ⟨v, B, X', hpost, hsteps⟩ | ⟨q, B, X', hpost, hsteps⟩
  · exact Or.inl ⟨v, vm₁, B, X₁.warmed, X', hpost, fun target h => hstep₁ _ fun acts => by rw [doInvoke_state]; exact hsteps.trans h⟩
  · exact Or.inr ⟨q, vm₁, B, X₁.warmed, X', hpost, hstep₁ _ fun acts => by rw [doInvoke_state]; exact hsteps⟩
theorem vx_callVW (X : Stand p l e R s m args below meth c T locs cells slots) (hexec : p.tables.exec = Jvm.exec) {own C : String} {index : Nat} {y : MethodName} {bytes : ByteArray} {maxL : Nat} {ret : Option FieldType} {hh : List (Nat × Nat × Nat × Nat)}
    (hown : s.vm.findClass own = some m.cls) (hlink : (Cond.methodLink own index y).before args s = true) (hinst : (Cond.instanceMethod y).before args s = true) (hsel : (Cond.selects C y y).before args s = true)
    (hcode : (Cond.codeWith y bytes maxL ret hh).before args s = true) (hy : y.cls ≠ "java/lang/invoke/MethodHandle" ∧ y.cls ≠ "java/lang/invoke/VarHandle")
    {W9 : Nat} {Pre : Pt → Array Value → Prop} {Post : Pt → Array Value → Option Value → Pt → Prop} (hK : Back l R p e below s args y 3 W9 Pre Post)
    {b : Addr} {cellB : Cell} (hcell : T.heap[b]? = some cellB) (hobj : cellB.vm.isStatics = false) (hcls : s.vm.findClass C = some cellB.cls)
    {g : JFrame} (hg : g.method = m) (hsize : g.locals.size = c.maxLocals) {argsL rest : List Value} (hlen : ∀ sig, parseMethodDescriptor y.desc = some sig → argsL.length = sig.parameters.length)
    (hstack : g.stack = argsL.reverse ++ .ref b :: rest) (hW : 2 * g.monitorRoom + (rest.map fun v => v.category).sum ≤ W9) (hdg : decode c.code g.pc = .ok (.invokevirtual index, 3))
    (hpre : ∀ vm₁, s.WarmedH vm₁ → Pre ⟨T.setVm vm₁, locs, cells, slots⟩ (Value.ref b :: argsL).toArray) :
    ∃ (v : Option Value) (vm₁ : Vm) (B : Pt), s.WarmedH vm₁ ∧ Stand p l e R s m args below meth c B.U B.locs B.cells B.slots ∧ Post ⟨T.setVm vm₁, locs, cells, slots⟩ (Value.ref b :: argsL).toArray v B ∧
      ∀ target, Steps p.tables e below (B.U.setTop { g with pc := g.pc + 3, stack := v.toList ++ rest }) target → Steps p.tables e below (T.setTop g) target := by
  obtain ⟨mk, methM, hnamed, hmethM, hstM, habM⟩ := Cond.instanceMethod_spec hinst
  obtain ⟨m8, methM', cM, hn8, hmethM', -, -, -, -, -, -, hsigM⟩ := Cond.codeWith_spec hcode
  cases Option.some.inj (hn8.symm.trans hnamed)
  cases hmethM.symm.trans hmethM'
  obtain ⟨c2, r2, m2, q1, q2, q3, q4, kP, hkP, hkPi⟩ := Cond.selects_spec hsel
  cases hcls.symm.trans q1
  cases (State.methodFound?_of_named hnamed hy).symm.trans q2
  cases hnamed.symm.trans q3
  have hselP : selectMethod e.platform s.vm cellB.cls mk = .method mk := by rw [Launch.admits_selectMethod X.admits]; exact q4
  obtain ⟨vm₁, X₁, hstep₁⟩ := X.invokevirtual hexec hown hlink hnamed hmethM hstM hkP hkPi hy (a := b) (cell := cellB) hcell
    (fun z h => by rw [h] at hobj; cases hobj) hselP hmethM habM hkP hkPi (g := g) hg (argsL := argsL) (rest := rest) (hlen _ hsigM) hstack hdg
  obtain ⟨v, B, X', hpost, hsteps⟩ := hK m meth c ⟨T.setVm vm₁, locs, cells, slots⟩ { g with stack := rest } (.invokevirtual index) mk (Value.ref b :: argsL).toArray X₁ hg hsize hdg hW (X₁.named hnamed) (hpre vm₁ X₁.warmed)
  exact ⟨v, vm₁, B, X₁.warmed, X', hpost, fun target h => hstep₁ _ fun acts => by rw [doInvoke_state]; exact hsteps.trans h⟩
abbrev vx_CVW (R : Room) (s : State) (args : Array Value) (own C : String) (index : Nat) (y : MethodName) (bytes : ByteArray) (maxL : Nat) (ret : Option FieldType) (hh : List (Nat × Nat × Nat × Nat)) (ws : List Cond) (rm : Room) (mc ms n : Nat) : Prop :=
  (rm.cells = mc ∧ rm.slots = ms ∧ rm.frames + 1 ≤ R.frames ∧ 8 + (maxL + 11) + rm.locals ≤ R.locals ∧ (∀ w ∈ ws, ∀ (a' : Array Value) (U : State), s.WarmedH U.vm → w.before a' U = true) ∧ Cond.codeWith y bytes maxL ret hh ∈ ws) ∧
  (Cond.codeWith y bytes maxL ret hh).before args s = true ∧ (Cond.initialized y.cls).before args s = true ∧ (y.cls ≠ "java/lang/invoke/MethodHandle" ∧ y.cls ≠ "java/lang/invoke/VarHandle") ∧
  (∀ sig, parseMethodDescriptor y.desc = some sig → n = sig.parameters.length) ∧ (Cond.methodLink own index y).before args s = true ∧ (Cond.instanceMethod y).before args s = true ∧ (Cond.selects C y y).before args s = true
theorem vx_cwVW {own C : String} {index maxL mc ms : Nat} {y : MethodName} {bytes : ByteArray} {ret : Option FieldType} {hh : List (Nat × Nat × Nat × Nat)} {Ts ws ws' : List Cond} {rm : Room} (n : Nat) (ht : ∀ w ∈ Ts, w.before args s = true) (hT : GoodIn Ts (wsV own index C y ws)) (hw : ws = Cond.codeWith y bytes maxL ret hh :: ws') (hrc : rm.cells = mc) (hrs : rm.slots = ms)
    (hd : y.cls = C ∧ y.cls ≠ "java/lang/invoke/MethodHandle" ∧ y.cls ≠ "java/lang/invoke/VarHandle" ∧ (parseMethodDescriptor y.desc).map (fun d => d.parameters.length) = some n) (hR : rm.frames + 1 ≤ R.frames ∧ 8 + (maxL + 11) + rm.locals ≤ R.locals) :
    vx_CVW R s args own C index y bytes maxL ret hh ws rm mc ms n := by
  obtain ⟨hC, hd⟩ := hd
  subst hC
  have ok : ∀ w ∈ wsV own index y.cls y ws, w.before args s = true := fun w h => ht w (hT w h).1
  have hG : GoodIn Ts ws := fun w h => hT w (by unfold wsV; exact List.mem_append_right _ h)
  have hc : Cond.codeWith y bytes maxL ret hh ∈ ws := by rw [hw]; exact List.mem_cons_self
  refine ⟨⟨hrc, hrs, hR.1, hR.2, pay_in ht hG, hc⟩, ht _ (hG _ hc).1, ok _ (by simp [wsV]), ⟨hd.1, hd.2.1⟩, fun sig h => ?_, ok _ (by simp [wsV]), ok _ (by simp [wsV]), ok _ (by simp [wsV])⟩
  have h2 := hd.2.2
  rw [h] at h2
  exact (Option.some.inj h2).symm
theorem vx_runVW {y : MethodName} {bytes cc : ByteArray} {maxL nL mc ms n index : Nat} {ret : Option FieldType} {hh : List (Nat × Nat × Nat × Nat)} {ws : List Cond} {rm : Room} {Pc : Array Value → State → Prop} {Qc : Array Value → State → Outcome → State → Prop} {free : Addr → Prop} {Ts : List Cond} {own C : String} {b : Addr} {As rest : List Value} {g : JFrame}
    (S : CallFix p m c cc nL s args Ts own) (hM : Met l y ws rm Pc Qc mc ms free) (cw : vx_CVW R s args own C index y bytes maxL ret hh ws rm mc ms n) (hp : PreV s H C b Pc As)
    (hg : g.method = m) (hn : As.length = n) (hsize : g.locals.size = nL) (hstack : g.stack = As.reverse ++ .ref b :: rest) (hW : 2 * g.monitorRoom + (rest.map fun v => v.category).sum ≤ 8) (hdg : decode cc g.pc = .ok (.invokevirtual index, 3)) (hf : cells + mc ≤ R.cells ∧ slots + ms ≤ R.slots) :
    va_Run p l e R s m args below meth c H locs cells slots mc ms g rest (Qc (Value.ref b :: As).toArray) free := by
  obtain ⟨⟨hrc, hrs, hfr, hlo, hws, hcw⟩, hcode, hini, hy, hlen, hl, hin, hse⟩ := cw
  have hK : Back l R p e below s args y 3 8 (PreOf R mc ms Pc) (PostOf Qc mc ms free) := va_backW (hh := hh) (bytes := bytes) (maxL := maxL) (ret := ret) hM hp.1 hrc hrs hfr hlo hws hcw (fun a' U hW => word_at hW (Or.inl (by first | rfl | simp [Cond.onTables, Cond.keeps, Cond.steady])) hini)
  obtain ⟨hx, hb, hml, ho, -⟩ := S
  obtain ⟨-, ⟨cellB, hcB, hoB, hclB⟩, hPc⟩ := hp
  intro T hT X
  obtain ⟨v, vm₁, ⟨U', l2, c2, s2⟩, hW₁, X', ⟨g', mk, t, L, e1, e2, hq, h1, hL, h2, h3⟩, st⟩ := vx_callVW X hx (C := C) (hh := hh) (bytes := bytes) (maxL := maxL) (ret := ret) ho hl hin hse hcode hy hK (by rw [hT]; exact hcB) hoB hclB hg (hsize.trans hml.symm) (argsL := As) (rest := rest) (fun sig h => hn.trans (hlen sig h)) hstack hW (by rw [hb]; exact hdg)
    (fun vm₁ hW₁ => ⟨hf.1, hf.2, hPc (T.setVm vm₁) hT hW₁⟩)
  dsimp only [Pt.U, Pt.locs, Pt.cells, Pt.slots] at X' e1 e2 h1 h2 h3 st
  subst h1; subst h2; subst h3
  exact ⟨v, (T.setVm vm₁).calling g' mk (Value.ref b :: As).toArray, t, U', L, hT, X', hL, e1, e2, hq, st⟩
section
variable {y : MethodName} {bytes cc : ByteArray} {maxL nL mc ms n index : Nat} {ret : Option FieldType} {ws : List Cond} {rm : Room} {Pc : Array Value → State → Prop} {Qc : Array Value → State → Outcome → State → Prop} {XC : String → State → State → Prop} {free : Addr → Prop} {Ts : List Cond} {own C : String} {b : Addr} {As rest : List Value} {g : JFrame}
theorem vx_runVX {hh : List (Nat × Nat × Nat × Nat)} (S : CallFix p m c cc nL s args Ts own) (hM : vx_Met l y ws rm Pc Qc XC mc ms free) (cw : vx_CVW R s args own C index y bytes maxL ret hh ws rm mc ms n) (hp : PreV s H C b Pc As)
    (hg : g.method = m) (hn : As.length = n) (hsize : g.locals.size = nL) (hstack : g.stack = As.reverse ++ .ref b :: rest) (hW : 2 * g.monitorRoom + (rest.map fun v => v.category).sum ≤ 8) (hdg : decode cc g.pc = .ok (.invokevirtual index, 3)) (hf : cells + mc ≤ R.cells ∧ slots + ms ≤ R.slots) :
    vx_Run p l e R s m args below meth c H locs cells slots mc ms g rest (Qc (Value.ref b :: As).toArray) XC free := by
  obtain ⟨⟨hrc, hrs, hfr, hlo, hws, hcw⟩, hcode, hini, hy, hlen, hl, hin, hse⟩ := cw
  have hK : vx_Back l R p e below s args y 3 8 (PreOf R mc ms Pc) (PostOf Qc mc ms free) (vx_Post XC mc ms free) := vx_backW (hh := hh) (bytes := bytes) (maxL := maxL) (ret := ret) hM hp.1 hrc hrs hfr hlo hws hcw (fun a' U hW => word_at hW (Or.inl (by first | rfl | simp [Cond.onTables, Cond.keeps, Cond.steady])) hini)
  obtain ⟨hx, hb, hml, ho, -⟩ := S
  obtain ⟨-, ⟨cellB, hcB, hoB, hclB⟩, hPc⟩ := hp
  intro T hT X
  rcases vx_callVX X hx (C := C) (hh := hh) (bytes := bytes) (maxL := maxL) (ret := ret) ho hl hin hse hcode hy hK (by rw [hT]; exact hcB) hoB hclB hg (hsize.trans hml.symm) (argsL := As) (rest := rest) (fun sig h => hn.trans (hlen sig h)) hstack hW (by rw [hb]; exact hdg)
    (fun vm₁ hW₁ => ⟨hf.1, hf.2, hPc (T.setVm vm₁) hT hW₁⟩) with ⟨v, vm₁, ⟨U', l2, c2, s2⟩, hW₁, X', ⟨g', mk, t, L, e1, e2, hq, h1, hL, h2, h3⟩, st⟩ | ⟨q, vm₁, ⟨U', l2, c2, s2⟩, hW₁, X', ⟨g', mk, t, L, E, ce, e1, e2, hq, hce, hcv, hcl, h1, hL, h2, h3⟩, st⟩
  · dsimp only [Pt.U, Pt.locs, Pt.cells, Pt.slots] at X' e1 e2 h1 h2 h3 st
    subst h1; subst h2; subst h3
    exact Or.inl ⟨v, (T.setVm vm₁).calling g' mk (Value.ref b :: As).toArray, t, U', L, hT, X', hL, e1, e2, hq, st⟩
  · dsimp only [Pt.U, Pt.locs, Pt.cells, Pt.slots] at X' e1 e2 h1 h2 h3 st hcl
    subst h1; subst h2; subst h3
    exact Or.inr ⟨q, (T.setVm vm₁).calling g' mk (Value.ref b :: As).toArray, t, U', L, E, ce, hT, X', hL, e1, e2, hq, hce, hcv, vx_cls hW₁ hcl, st⟩
theorem vx_runSX {hh : List (Nat × Nat × Nat × Nat)} (S : CallFix p m c cc nL s args Ts own) (hM : vx_Met l y ws rm Pc Qc XC mc ms free) (cw : vx_CSW R s args own index y bytes maxL ret hh ws rm mc ms n) (hp : PreS s H Pc As)
    (hg : g.method = m) (hn : As.length = n) (hsize : g.locals.size = nL) (hstack : g.stack = As.reverse ++ rest) (hW : 2 * g.monitorRoom + (rest.map fun v => v.category).sum ≤ 8) (hdg : decode cc g.pc = .ok (.invokestatic index, 3)) (hf : cells + mc ≤ R.cells ∧ slots + ms ≤ R.slots) :
    vx_Run p l e R s m args below meth c H locs cells slots mc ms g rest (Qc As.toArray) XC free := by
  obtain ⟨⟨hrc, hrs, hfr, hlo, hws, hcw⟩, hcode, hini, hy, hlen, hl, hstt⟩ := cw
  have hK : vx_Back l R p e below s args y 3 8 (PreOf R mc ms Pc) (PostOf Qc mc ms free) (vx_Post XC mc ms free) := vx_backW (hh := hh) (bytes := bytes) (maxL := maxL) (ret := ret) hM hp.1 hrc hrs hfr hlo hws hcw (fun a' U hW => word_at hW (Or.inl (by first | rfl | simp [Cond.onTables, Cond.keeps, Cond.steady])) hini)
  obtain ⟨hx, hb, hml, ho, -⟩ := S
  intro T hT X
  rcases vx_callSX X hx (hh := hh) (bytes := bytes) (maxL := maxL) (ret := ret) ho hl hstt hini hcode hy hK hg (hsize.trans hml.symm) (argsL := As) (rest := rest) (fun sig h => hn.trans (hlen sig h)) hstack hW (by rw [hb]; exact hdg)
    (fun vm₁ hW₁ => ⟨hf.1, hf.2, hp.2 (T.setVm vm₁) hT hW₁⟩) with ⟨v, vm₁, ⟨U', l2, c2, s2⟩, hW₁, X', ⟨g', mk, t, L, e1, e2, hq, h1, hL, h2, h3⟩, st⟩ | ⟨q, vm₁, ⟨U', l2, c2, s2⟩, hW₁, X', ⟨g', mk, t, L, E, ce, e1, e2, hq, hce, hcv, hcl, h1, hL, h2, h3⟩, st⟩
  · dsimp only [Pt.U, Pt.locs, Pt.cells, Pt.slots] at X' e1 e2 h1 h2 h3 st
    subst h1; subst h2; subst h3
    exact Or.inl ⟨v, (T.setVm vm₁).calling g' mk As.toArray, t, U', L, hT, X', hL, e1, e2, hq, st⟩
  · dsimp only [Pt.U, Pt.locs, Pt.cells, Pt.slots] at X' e1 e2 h1 h2 h3 st hcl
    subst h1; subst h2; subst h3
    exact Or.inr ⟨q, (T.setVm vm₁).calling g' mk As.toArray, t, U', L, E, ce, hT, X', hL, e1, e2, hq, hce, hcv, vx_cls hW₁ hcl, st⟩
end
end VXH
theorem vx_ofWH {l : Launch} {y : MethodName} {ws ws' : List Cond} {rm : Room} {Pc : Array Value → State → Prop} {Qc : Array Value → State → Outcome → State → Prop} {XC : String → State → State → Prop} {mc ms : Nat} {free : Addr → Prop} {cc : ByteArray} {maxL : Nat} {ret : Option FieldType} {hh : List (Nat × Nat × Nat × Nat)}
    (hy : plainName y.cls = true) (hw : ws = Cond.codeWith y cc maxL ret hh :: ws')
    (body : ∀ p e s m args below meth c s₁, BodyLoose p l y (headSpec ws rm) cc maxL ret e s m args below meth c s₁ → c.maxLocals = maxL → Pc args s →
      W p l e (headSpec ws rm).room s m args below meth c s.heap [] 0 0 (vx_MQ below Qc XC args s mc ms free) (entryFrame m args maxL)) : vx_Met l y ws rm Pc Qc XC mc ms free := by
  refine MetFree.of_bodyS (code := cc) (maxLocals := maxL) (ret := ret) hy ?_ ?_
  · intro args s m h hn
    obtain ⟨m9, meth, c, hn9, h1, h2, h3, h4, -, h5, h6, -⟩ := Cond.codeWith_spec (atoms_spec (ws := ws) h _ (by rw [hw]; exact List.mem_cons_self))
    cases hn.symm.trans hn9
    exact ⟨meth, c, h1, h2, h3, h4, h5, h6⟩
  · intro p e s m args below meth c s₁ B hml hP _
    have hh0 : s₁.heap = s.heap := by rw [B.state]; rfl
    obtain ⟨t, a1, o, b1, b2, b3⟩ := body p e s m args below meth c s₁ B hml hP s₁ hh0 (Stand.of_body B)
    exact ⟨t, o, a1, b1, b2, b3⟩
/-! ===== END ===== -/

/-! ===== BEGIN what the machine throws by itself, no traces kept ===== -/
section VXM
set_option maxHeartbeats 1000000 in
/-- the machine throws cls with the message text, no traces kept: from its note over the frame g to 'throwing' over the same frame (follows the proofs of Stand.vmThrowsMessage, Shelf/KitTracedVmS.lean, and Stand.throwsMessageColdBareV, StandMessageColdV.lean, without the step out of the frame) -/
theorem vx_vmAt {p : Program} {l : Launch} {e : Env} {R : Room} {s : State} {m₀ : MethodId} {args : Array Value} {below : List Frame} {meth : Method} {c : Code} {W : State} {locs : List Loc} {cells slots : Nat}
    (X : Stand p l e R s m₀ args below meth c W locs cells slots) (hexec : p.tables.exec = Jvm.exec) (htr : e.platform.stackTraces = false) {cls : String} {names : List String} {text : String}
    (hcls : Bundle.fit cls = true) (hnames : ∀ n ∈ names, Bundle.fit n = true) (hsoe : (cls == "java/lang/StackOverflowError") = false) (hoom : (cls == "java/lang/OutOfMemoryError") = false)
    (h : ∀ a ∈ Bundle.messageArmAtoms cls names, a.before args s = true)
    (hlocs : ∀ x ∈ locs, ∀ cell, s.heap[x.base]? = some cell → cell.vm.isStatics = false)
    (htext : (text == notModelled) = false) (hlimit : ¬ (stringBytes (stringToUtf16 text)).size > e.platform.arrayLengthLimit) (hheap : ¬ (stringBytes (stringToUtf16 text)).size * componentBytes .byte > e.platform.maxHeapBytes)
    {g : JFrame} (hg : g.method = m₀) (hsize : g.locals.size = c.maxLocals)
    (hRframes : names.length + 4 < R.frames) (hRlocals : 2 * g.monitorRoom + (g.stack.map fun v => v.category).sum + 10240 ≤ R.locals) (hshort : 13 * names.length + 55 ≤ 10240)
    (hRcells : cells + 3 ≤ R.cells) (hRslots : slots + ((stringBytes (stringToUtf16 text)).size + 4 + 6) ≤ R.slots) (hlocks : meth.locks = false) :
    ∃ (S : State) (q : Addr) (ce : Cell), (∀ target, Steps p.tables e below ((S.setTop g).pushFrame (.throwing q)) target → Steps p.tables e below ((W.setTop g).pushFrame (.throwNew cls (some text) none)) target) ∧
      Stand p l e R s m₀ args below meth c S locs (cells + 3) (slots + ((stringBytes (stringToUtf16 text)).size + 4 + 6)) ∧ S.heap[q]? = some ce ∧ s.vm.findClass cls = some ce.cls ∧ ce.vm = .none := by
  have howns : e.platform.frameOwnsMonitors = true := by rw [X.admits.platform]
  have hfin : e.platform.finalization = false := by rw [X.admits.platform]
  have hpl : e.platform.magicAccessors = ({} : Platform).magicAccessors := by rw [X.admits.platform]
  have a : ∀ x, x ∈ Bundle.messageArmAtoms cls names → x.holds args s none s [] = true := fun x hx => h x hx
  obtain ⟨T, Z0, L, -, Y⟩ := ThrowableC.of_atoms (args := args) howns hfin hpl (fun x hx => h x (by simp [Bundle.messageArmAtoms, hx]))
  obtain ⟨Z, M, LZ, LM, hnZ⟩ := Init0T.ofS_atoms (args := args) hpl L Y (fun x hx => h x (by simp [Bundle.messageArmAtoms, hx]))
  obtain ⟨P1, Ps, hlen, L1, hL, hP1m, hlink1, hlink⟩ := Bundle.chainS (args := args) hpl hnZ names cls hcls hnames (fun x hx => h x (by simp [Bundle.messageArmAtoms, hx]))
  obtain ⟨Zs, LZs, hn4, hfitv, hfitc⟩ := StringT.of_atoms (args := args) (fun x hx => h x (by simp [Bundle.messageArmAtoms, hx]))
  have hfound : s.vm.findClass cls = some P1.m.cls := findClass_of_methodNamed hP1m
  obtain ⟨c1, kX, hc1, hk, hord, -, -, hn6⟩ := Cond.instantiable_spec (a (.instantiable cls 6) (by simp [Bundle.messageArmAtoms]))
  cases Option.some.inj (hc1.symm.trans hfound)
  have hinit := Cond.initialized_spec hfound hk (a (.initialized cls) (by simp [Bundle.messageArmAtoms]))
  have hctor : kX.findMethod "<init>" "(Ljava/lang/String;)V" = some P1.m.idx := findMethod_of_methodNamed hP1m hk
  have hsel0 : selectMethod e.platform s.vm P1.m.cls T.fill0 = .method T.fill0 := by
    obtain ⟨c2, r2, m2, q1, q2, q3, q4, -⟩ := Cond.selects_spec (a (.selects cls Bundle.tFill0 Bundle.tFill0) (by simp [Bundle.messageArmAtoms]))
    cases Option.some.inj (q1.symm.trans hfound)
    cases Option.some.inj (q2.symm.trans (State.methodFound?_of_named Y.fill0 (by decide)))
    cases Option.some.inj (q3.symm.trans Y.fill0)
    rw [Launch.admits_selectMethod X.admits]; exact q4
  have hselF : selectMethod e.platform s.vm P1.m.cls T.fill = .method T.fill := by
    obtain ⟨c2, r2, m2, q1, q2, q3, q4, -⟩ := Cond.selects_spec (a (.selects cls Bundle.tFill Bundle.tFill) (by simp [Bundle.messageArmAtoms]))
    cases Option.some.inj (q1.symm.trans hfound)
    cases Option.some.inj (q2.symm.trans (State.methodFound?_of_named Y.fill (by decide)))
    cases Option.some.inj (q3.symm.trans Y.fill)
    rw [Launch.admits_selectMethod X.admits]; exact q4
  obtain ⟨cellS0, hcS0, hiss⟩ := Y.statics
  obtain ⟨u0, hu0⟩ := Cond.staticRefV Y.unassigned L.unassignedStatic L.statics hcS0 hiss (a (.isRef (.static Bundle.tN "UNASSIGNED_STACK" Bundle.steD)) (by simp [Bundle.messageArmAtoms]))
  obtain ⟨sen, hsen⟩ := Cond.staticRefV Y.sentinel L.sentinelStatic L.statics hcS0 hiss (a (.isRef (.static Bundle.tN "SUPPRESSED_SENTINEL" Bundle.listD)) (by simp [Bundle.messageArmAtoms]))
  obtain ⟨ci198, i198, fB, hk198, hg198, ha198, hsB, -, hnB, htB, hffB⟩ := Cond.ownField (t := .object "java/lang/Object") Y.found L.cls (by decide +kernel) (a (.fieldLink Bundle.tN 198 Bundle.tN "backtrace" "Ljava/lang/Object;") (by simp [Bundle.messageArmAtoms])) (a (.lays Bundle.tN Bundle.tN "backtrace" "Ljava/lang/Object;") (by simp [Bundle.messageArmAtoms])) e.platform hpl
  obtain ⟨cellS, hcS', heS, -, hkeep⟩ := X.same.2.2.2.2.2 T.aS cellS0 hcS0
  have hcellS : W.heap[T.aS]? = some cellS := hcS'
  have hout' : ∀ i, (⟨T.aS, i⟩ : Loc) ∉ locs := fun i hmem => by
    have := hlocs _ hmem cellS0 hcS0
    rw [hiss] at this; cases this
  have hknownS : cellS.vm ≠ .unknown := by
    rw [heS]; intro hu
    rw [show cellS0.vm = .unknown from hu] at hiss
    cases hiss
  have hvU : cellS.slots[T.fUnassigned.slot]? = some u0.v := by rw [hkeep _ (hout' _)]; exact hu0
  have hvSen : cellS.slots[T.fSentinel.slot]? = some sen.v := by rw [hkeep _ (hout' _)]; exact hsen
  obtain ⟨iM, hffM⟩ := Y.msg
  obtain ⟨tyC, dC, hdC, hdnC⟩ := Cond.laysAt hfound hk Y.cause (a (.lays cls Bundle.tN "cause" "Ljava/lang/Throwable;") (by simp [Bundle.messageArmAtoms]))
  obtain ⟨tyS, dS, hdS, hdnS⟩ := Cond.laysAt hfound hk Y.stack (a (.lays cls Bundle.tN "stackTrace" Bundle.steD) (by simp [Bundle.messageArmAtoms]))
  obtain ⟨tyP, dP, hdP, hdnP⟩ := Cond.laysAt hfound hk Y.supp (a (.lays cls Bundle.tN "suppressedExceptions" Bundle.listD) (by simp [Bundle.messageArmAtoms]))
  obtain ⟨tyM, dM, hdM, hdnM⟩ := Cond.laysAt hfound hk hffM (a (.lays cls Bundle.tN "detailMessage" "Ljava/lang/String;") (by simp [Bundle.messageArmAtoms]))
  obtain ⟨tyB, dB, hdB, hdnB⟩ := Cond.laysAt hfound hk hffB (a (.lays cls Bundle.tN "backtrace" "Ljava/lang/Object;") (by simp [Bundle.messageArmAtoms]))
  have bC := Cond.laysApart hdB hdC hdnB hdnC (by rw [hnB, Y.causeName]; decide)
  have bS := Cond.laysApart hdB hdS hdnB hdnS (by rw [hnB, Y.stackName]; decide)
  have bP := Cond.laysApart hdB hdP hdnB hdnP (by rw [hnB, Y.suppName]; decide)
  have hbk : ((preparedCellV T.toThrowableT (freshCell P1.m.cls kX) (W.heap.size + 2) u0 sen).withEntry W.cur).slots[fB.slot]? = some .null := by
    have := fresh_default (c := P1.m.cls) tyB
    rw [htB] at this
    simpa [preparedCellV, Cell.setSlot, Cell.withEntry, Array.getElem?_setIfInBounds, bC, bS, bP, bC.symm, bS.symm, bP.symm, defaultValue] using this
  have tkC := Takes.of_laid (v := .ref (W.heap.size + 2)) hk hord tyC (by rw [Y.causeType]; rfl)
  have tkS := Takes.of_laid (v := u0.v) hk hord tyS (by rw [Y.stackType]; exact fits_refV_array _ u0)
  have tkP := Takes.of_laid (v := sen.v) hk hord tyP (by rw [Y.suppType]; exact fits_refV_object _ sen)
  have tkM := Takes.of_laid (v := .ref (W.heap.size + 1)) hk hord tyM (by rw [Y.msgType]; rfl)
  have hskip : SkipFacts T e.platform s (fun u => u) u0 ((preparedCellV T.toThrowableT (freshCell P1.m.cls kX) (W.heap.size + 2) u0 sen).withEntry W.cur) := ⟨{ ci198 := ci198, i198 := i198, fBack := fB }, ⟨hk198, hg198, ha198, hsB⟩, hbk, fun _ _ => rfl⟩
  have h0 : At W g.method c below := by rw [hg]; exact X.here
  obtain ⟨hbeyond, hfreeW⟩ := X.vmMayThrow hsize (.throwNew cls (some text) none) (fun f hf => by cases hf) rfl hRlocals
  have hfr' : W.frames.length + Ps.length + 4 < (e.platform.stackLimits W.me).1 := by have := X.framesAbove hRframes; omega
  have hwd' : (stackUse (.java g :: W.frames.tail)).2 + 13 * Ps.length + 55 ≤ (e.platform.stackLimits W.me).2 := by have := X.stackAbove hsize (K := 13 * Ps.length + 55) (by omega); omega
  have hslots : W.slotsUsed + (stringBytes (stringToUtf16 text)).size + Zs.kS.instanceTypes.size + kX.instanceTypes.size ≤ e.platform.maxSlots := by
    have := X.slotsAbove hRslots
    rw [hn4, hn6]
    omega
  obtain ⟨vm', hW', st⟩ := Steps.vmThrowsMessageColdByV p (s₀ := s) (S := W) (g := g) h0 hexec T L Z LZ M LM X.warmed (t := W.cur) rfl Zs LZs P1 L1 Ps hL hlink1 hlink hsoe hoom hfound hk hinit hord hctor
    (Launch.admits_hotImplicitExceptions X.admits) hbeyond hfreeW htext hlimit hheap (X.cellsAbove hRcells) hslots (hfitv _) (hfitc _)
    (Nn := fun u => u) heapOnly_id (fun _ _ => rfl) (fun _ => rfl) (fun u x y => setCell_twice _ _ _ _) (fun _ => Nat.le_refl _) (cN := ((preparedCellV T.toThrowableT (freshCell P1.m.cls kX) (W.heap.size + 2) u0 sen).withEntry W.cur))
    hsel0 hcellS hknownS hvU tkS (fun _ hu => hu) (fun _ hu => hu) rfl rfl rfl (by simp [preparedCellV, Cell.setSlot, Cell.withEntry]) hskip (fun _ _ hA hW _ hroom _ hrest => L.nativeOff p htr hA hW hroom hrest) hselF hvSen tkC tkP tkM Y.objLocals rfl hfr' hwd'
  rw [plainBareV_eq T.toThrowableT (W.heap.size + 2) u0 sen (.ref (W.heap.size + 1)) W.cur rfl rfl] at st
  obtain ⟨-, -, w3, w4, -, -, -⟩ := withThrown_facts e.platform W Zs text P1.m.cls kX
  have X3 := ((X.pushed (bytesOf Zs.cB (stringToUtf16 text))).pushed (stringAt Zs.cS Zs.kS Zs.fv Zs.fc (stringToUtf16 text) W.heap.size)).pushed (freshCell P1.m.cls kX)
  rw [← withString_eq] at X3
  have X4 := X3.noted hW'
  have ha : (W.heap.size + 2) < ((withThrown W Zs text P1.m.cls kX).setVm vm').heap.size := by show _ < (withThrown W Zs text P1.m.cls kX).heap.size; rw [w3]; omega
  have hcell : ((withThrown W Zs text P1.m.cls kX).setVm vm').heap[(W.heap.size + 2)]? = some (freshCell P1.m.cls kX) := w4
  have X5 := ((((X4.stored hcell T.fCause.slot (.ref (W.heap.size + 2))).storedAgain ha T.fStack.slot u0.v).storedAgain ha T.fSupp.slot sen.v).storedAgain ha T.fStack.slot u0.v).storedAgain ha T.fMsg.slot (.ref (W.heap.size + 1))
  obtain ⟨g₁, hfrM⟩ := X5.frames_eq
  have hU : ((((withThrown W Zs text P1.m.cls kX).setVm vm').setCell (W.heap.size + 2) (plainBareV T.toThrowableT (freshCell P1.m.cls kX) (W.heap.size + 2) u0 sen (.ref (W.heap.size + 1)))).setTop g).pushFrame (.throwing (W.heap.size + 2)) = (((withThrown W Zs text P1.m.cls kX).setVm vm').setCell (W.heap.size + 2) (plainBareV T.toThrowableT (freshCell P1.m.cls kX) (W.heap.size + 2) u0 sen (.ref (W.heap.size + 1)))).setFrames (.throwing (W.heap.size + 2) :: .java g :: below) := by
    rw [State.pushFrame, State.frames_setTop _ hfrM, State.setTop_of_frames _ hfrM, State.setFrames_setFrames]
  have b1 : (bytesOf Zs.cB (stringToUtf16 text)).slots.size = (stringBytes (stringToUtf16 text)).size := by
    rw [(Cell.writeAll_facts _ _).2.2]; simp [bytes0]
  have b2 : (stringAt Zs.cS Zs.kS Zs.fv Zs.fc (stringToUtf16 text) W.heap.size).slots.size = 4 := by simp [string0, Cell.setSlot, hn4]
  have b3 : (freshCell P1.m.cls kX).slots.size = 6 := by simp [hn6]
  rw [b1, b2, b3] at X5
  have e9 : slots + (stringBytes (stringToUtf16 text)).size + 4 + 6 = slots + ((stringBytes (stringToUtf16 text)).size + 4 + 6) := by omega
  rw [e9] at X5
  simp only [List.append_assoc, List.cons_append, List.nil_append] at X5
  refine ⟨((withThrown W Zs text P1.m.cls kX).setVm vm').setCell (W.heap.size + 2) (plainBareV T.toThrowableT (freshCell P1.m.cls kX) (W.heap.size + 2) u0 sen (.ref (W.heap.size + 1))), W.heap.size + 2, _, fun target ht => st _ (by rw [X.tail, ← hU]; exact ht),
    X5.forget (fun y hy => ?_), heapAt_setCell_self _ ha, hfound, rfl⟩
  simp only [List.mem_cons, List.not_mem_nil, or_false] at hy
  have hge : s.heap.size ≤ W.heap.size := X.same.2.1
  rcases hy with rfl | rfl | rfl | rfl | rfl <;> exact Nat.le_trans hge (Nat.le_add_right _ 2)
set_option maxHeartbeats 1000000 in
/-- the machine throws NullPointerException, no traces kept: from its note over the frame g to 'throwing' over the same frame (follows the proof of Stand.vmThrowsNpe, Shelf42/KT2.lean; throwsNpeColdBareVAt, Shelf42/NT91.lean, called) -/
theorem vx_npeAt {p : Program} {l : Launch} {e : Env} {R : Room} {s : State} {m₀ : MethodId} {args : Array Value} {below : List Frame} {meth : Method} {c : Code} {W : State} {locs : List Loc} {cells slots : Nat}
    (X : Stand p l e R s m₀ args below meth c W locs cells slots) (hexec : p.tables.exec = Jvm.exec) (htr : e.platform.stackTraces = false) {n : Nat}
    (h : ∀ a ∈ Bundle.npeArmAtoms n, a.before args s = true)
    (hlocs : ∀ x ∈ locs, ∀ cell, s.heap[x.base]? = some cell → cell.vm.isStatics = false)
    {g : JFrame} (hg : g.method = m₀) (hsize : g.locals.size = c.maxLocals)
    (hRframes : 7 < R.frames) (hRlocals : 2 * g.monitorRoom + (g.stack.map fun v => v.category).sum + 10240 ≤ R.locals)
    (hRcells : cells + 1 ≤ R.cells) (hRslots : slots + n ≤ R.slots) (hlocks : meth.locks = false) :
    ∃ (S : State) (q : Addr) (ce : Cell), (∀ target, Steps p.tables e below ((S.setTop g).pushFrame (.throwing q)) target → Steps p.tables e below ((W.setTop g).pushFrame (.throwNew "java/lang/NullPointerException" none none)) target) ∧
      Stand p l e R s m₀ args below meth c S locs (cells + 1) (slots + n) ∧ S.heap[q]? = some ce ∧ s.vm.findClass "java/lang/NullPointerException" = some ce.cls ∧ ce.vm = .none := by
  have howns : e.platform.frameOwnsMonitors = true := by rw [X.admits.platform]
  have hfin : e.platform.finalization = false := by rw [X.admits.platform]
  have hpl : e.platform.magicAccessors = ({} : Platform).magicAccessors := by rw [X.admits.platform]
  have hpl2 : e.platform.arrayCloneIsPublic = true := by rw [X.admits.platform]
  have a' : ∀ x, x ∈ Bundle.npeArmAtoms n → x.holds args s none s [] = true := fun x hx => h x hx
  obtain ⟨T, Z, L, LZ, Y⟩ := ThrowableC.of_atoms (args := args) howns hfin hpl (fun x hx => h x (by simp [Bundle.npeArmAtoms, hx]))
  obtain ⟨N, LN, hcN, hnNF, hordN, hffS⟩ := NpeC.of_atoms (args := args) hpl hpl2 L Y (fun x hx => h x (by simp [Bundle.npeArmAtoms, hx]))
  obtain ⟨P1, L1, hP1m, hP1s⟩ := PassC.of_atoms (args := args) (s := s) hpl (X := Bundle.nN) (Y := Bundle.rN) (by decide) (by decide) LibCode.NullPointerException.Init0.at_0 LibCode.NullPointerException.Init0.at_1 LibCode.NullPointerException.Init0.at_4 (fun x hx => h x (by simp [Bundle.npeArmAtoms, hx]))
  obtain ⟨PR, LR, hPRm, hPRs⟩ := PassC.of_atoms (args := args) (s := s) hpl (X := Bundle.rN) (Y := Bundle.eN) (by decide) (by decide) LibCode.RuntimeException.Init0.at_0 LibCode.RuntimeException.Init0.at_1 LibCode.RuntimeException.Init0.at_4 (fun x hx => h x (by simp [Bundle.npeArmAtoms, hx]))
  obtain ⟨PE, LEx, hPEm, hPEs⟩ := PassC.of_atoms (args := args) (s := s) hpl (X := Bundle.eN) (Y := Bundle.tN) (by decide) (by decide) LibCode.Exception.Init0.at_0 LibCode.Exception.Init0.at_1 LibCode.Exception.Init0.at_4 (fun x hx => h x (by simp [Bundle.npeArmAtoms, hx]))
  have hfound : s.vm.findClass Bundle.nN = some P1.m.cls := findClass_of_methodNamed hP1m
  have ecls : N.cN = P1.m.cls := Option.some.inj (hcN.symm.trans hfound)
  have hk : s.vm.classes[P1.m.cls]? = some N.kN := by rw [← ecls]; exact LN.cls
  have hinit := Cond.initialized_spec hfound hk (a' (.initialized Bundle.nN) (by simp [Bundle.npeArmAtoms]))
  have hctor : N.kN.findMethod "<init>" "()V" = some P1.m.idx := findMethod_of_methodNamed hP1m hk
  obtain ⟨c1, k1, hc1, hk1, -, -, -, hn⟩ := Cond.instantiable_spec (a' (.instantiable Bundle.nN n) (by simp [Bundle.npeArmAtoms]))
  cases Option.some.inj (hc1.symm.trans hfound)
  cases Option.some.inj (hk1.symm.trans hk)
  have hfsz : (freshCell P1.m.cls N.kN).slots.size = n := by simp [hn]
  have hlink1 : P1.sup = PR.m := Option.some.inj (hP1s.symm.trans hPRm)
  have hlinkR : PR.sup = PE.m := Option.some.inj (hPRs.symm.trans hPEm)
  have hlinkE : PE.sup = Z.m T.toThrowableT := Option.some.inj (hPEs.symm.trans Y.init0)
  have hLs : ∀ P, P ∈ [PR, PE] → P.Links0 e.platform s := fun P hP => by
    simp only [List.mem_cons, List.not_mem_nil, or_false] at hP
    rcases hP with rfl | rfl
    · exact LR
    · exact LEx
  have hsel0 : selectMethod e.platform s.vm P1.m.cls T.fill0 = .method T.fill0 := by
    obtain ⟨c2, r2, m2, q1, q2, q3, q4, -⟩ := Cond.selects_spec (a' (.selects Bundle.nN Bundle.tFill0 Bundle.tFill0) (by simp [Bundle.npeArmAtoms]))
    cases Option.some.inj (q1.symm.trans hfound)
    cases Option.some.inj (q2.symm.trans (State.methodFound?_of_named Y.fill0 (by decide)))
    cases Option.some.inj (q3.symm.trans Y.fill0)
    rw [Launch.admits_selectMethod X.admits]; exact q4
  have hselF : selectMethod e.platform s.vm P1.m.cls T.fill = .method N.fill := by
    obtain ⟨c2, r2, m2, q1, q2, q3, q4, -⟩ := Cond.selects_spec (a' (.selects Bundle.nN Bundle.tFill Bundle.nFill) (by simp [Bundle.npeArmAtoms]))
    cases Option.some.inj (q1.symm.trans hfound)
    cases Option.some.inj (q2.symm.trans (State.methodFound?_of_named Y.fill (by decide)))
    cases Option.some.inj (q3.symm.trans hnNF)
    rw [Launch.admits_selectMethod X.admits]; exact q4
  obtain ⟨cellS0, hcS0, hiss⟩ := Y.statics
  obtain ⟨u0, hu0⟩ := Cond.staticRefV Y.unassigned L.unassignedStatic L.statics hcS0 hiss (a' (.isRef (.static Bundle.tN "UNASSIGNED_STACK" Bundle.steD)) (by simp [Bundle.npeArmAtoms]))
  obtain ⟨sen, hsen⟩ := Cond.staticRefV Y.sentinel L.sentinelStatic L.statics hcS0 hiss (a' (.isRef (.static Bundle.tN "SUPPRESSED_SENTINEL" Bundle.listD)) (by simp [Bundle.npeArmAtoms]))
  obtain ⟨ci198, i198, fB, hk198, hg198, ha198, hsB, -, hnB, htB, hffB⟩ := Cond.ownField (t := .object "java/lang/Object") Y.found L.cls (by decide +kernel) (a' (.fieldLink Bundle.tN 198 Bundle.tN "backtrace" Bundle.objD) (by simp [Bundle.npeArmAtoms])) (a' (.lays Bundle.tN Bundle.tN "backtrace" Bundle.objD) (by simp [Bundle.npeArmAtoms])) e.platform hpl
  obtain ⟨cellS, hcS', heS, -, hkeep⟩ := X.same.2.2.2.2.2 T.aS cellS0 hcS0
  have hcellS : W.heap[T.aS]? = some cellS := hcS'
  have hout' : ∀ i, (⟨T.aS, i⟩ : Loc) ∉ locs := fun i hmem => by
    have := hlocs _ hmem cellS0 hcS0
    rw [hiss] at this; cases this
  have hknownS : cellS.vm ≠ .unknown := by
    rw [heS]; intro hu
    rw [show cellS0.vm = .unknown from hu] at hiss
    cases hiss
  have hvU : cellS.slots[T.fUnassigned.slot]? = some u0.v := by rw [hkeep _ (hout' _)]; exact hu0
  have hvSen : cellS.slots[T.fSentinel.slot]? = some sen.v := by rw [hkeep _ (hout' _)]; exact hsen
  obtain ⟨tyC, dC, hdC, hdnC⟩ := Cond.laysAt hfound hk Y.cause (a' (.lays Bundle.nN Bundle.tN "cause" "Ljava/lang/Throwable;") (by simp [Bundle.npeArmAtoms]))
  obtain ⟨tyS, dS, hdS, hdnS⟩ := Cond.laysAt hfound hk Y.stack (a' (.lays Bundle.nN Bundle.tN "stackTrace" Bundle.steD) (by simp [Bundle.npeArmAtoms]))
  obtain ⟨tyP, dP, hdP, hdnP⟩ := Cond.laysAt hfound hk Y.supp (a' (.lays Bundle.nN Bundle.tN "suppressedExceptions" Bundle.listD) (by simp [Bundle.npeArmAtoms]))
  obtain ⟨tyX, dX, hdX, hdnX⟩ := Cond.laysAt hfound hk hffS (a' (.lays Bundle.nN Bundle.nN "extendedMessageState" "I") (by simp [Bundle.npeArmAtoms, Bundle.npeAtoms]))
  obtain ⟨hnX, htX⟩ := State.fieldFound?_type hffS (t := .int) (by decide +kernel)
  have xC := Cond.laysApart hdC hdX hdnC hdnX (by rw [hnX, Y.causeName]; decide)
  have xS := Cond.laysApart hdS hdX hdnS hdnX (by rw [hnX, Y.stackName]; decide)
  have xP := Cond.laysApart hdP hdX hdnP hdnX (by rw [hnX, Y.suppName]; decide)
  have hv0 : (freshCell P1.m.cls N.kN).slots[N.fState.slot]? = some (.int 0) := by
    have := fresh_default (c := P1.m.cls) tyX
    rw [htX] at this; exact this
  obtain ⟨tyB, dB, hdB, hdnB⟩ := Cond.laysAt hfound hk hffB (a' (.lays Bundle.nN Bundle.tN "backtrace" Bundle.objD) (by simp [Bundle.npeArmAtoms]))
  have bC := Cond.laysApart hdB hdC hdnB hdnC (by rw [hnB, Y.causeName]; decide)
  have bS := Cond.laysApart hdB hdS hdnB hdnS (by rw [hnB, Y.stackName]; decide)
  have bP := Cond.laysApart hdB hdP hdnB hdnP (by rw [hnB, Y.suppName]; decide)
  have bX := Cond.laysApart hdB hdX hdnB hdnX (by rw [hnB, hnX]; decide)
  have hbk : ((npeCell N.toNpeT (preparedCellV T.toThrowableT (freshCell P1.m.cls N.kN) W.heap.size u0 sen) W.cur).withEntry W.cur).slots[fB.slot]? = some .null := by
    have := fresh_default (c := P1.m.cls) tyB
    rw [htB] at this
    simpa [npeCell, preparedCellV, Cell.setSlot, Cell.withEntry, Array.getElem?_setIfInBounds, bC, bS, bP, bX, bC.symm, bS.symm, bP.symm, bX.symm, defaultValue] using this
  have tkC := Takes.of_laid (v := .ref W.heap.size) hk hordN tyC (by rw [Y.causeType]; rfl)
  have tkS := Takes.of_laid (v := u0.v) hk hordN tyS (by rw [Y.stackType]; exact fits_refV_array _ u0)
  have tkP := Takes.of_laid (v := sen.v) hk hordN tyP (by rw [Y.suppType]; exact fits_refV_object _ sen)
  have tkX := Takes.of_laid (v := .int 1) hk hordN tyX (by rw [htX]; rfl)
  have hskip : SkipFacts T e.platform s (fun u => u) u0 ((npeCell N.toNpeT (preparedCellV T.toThrowableT (freshCell P1.m.cls N.kN) W.heap.size u0 sen) W.cur).withEntry W.cur) := ⟨{ ci198 := ci198, i198 := i198, fBack := fB }, ⟨hk198, hg198, ha198, hsB⟩, hbk, fun _ _ => rfl⟩
  obtain ⟨vm', X3, st, -⟩ := X.throwsNpeColdBareVAt hexec hg hsize T L Z LZ N LN P1 L1 [PR, PE] hLs hlink1 ⟨hlinkR, hlinkE, trivial⟩ hfound hk hinit hordN hctor hsel0 hselF hcellS hknownS hvU hvSen
    hv0 xC xS xP tkC tkS tkP tkX Y.objLocals hskip (fun _ _ hA hW _ hroom _ hrest => L.nativeOff p htr hA hW hroom hrest) (by simpa using hRframes) hRlocals (by simp) hRcells (by rw [hn]; exact hRslots)
  have hlt : W.heap.size < ((W.pushCell (freshCell P1.m.cls N.kN)).setVm vm').heap.size := by
    show W.heap.size < (W.pushCell (freshCell P1.m.cls N.kN)).heap.size
    rw [State.heap_size_pushCell]; omega
  rw [hfsz] at X3
  obtain ⟨g₁, hfrM⟩ := X3.frames_eq
  have hU : ((((W.pushCell (freshCell P1.m.cls N.kN)).setVm vm').setCell W.heap.size (npeBareV T.toThrowableT N.toNpeT (freshCell P1.m.cls N.kN) W.heap.size u0 sen)).setTop g).pushFrame (.throwing W.heap.size) = (((W.pushCell (freshCell P1.m.cls N.kN)).setVm vm').setCell W.heap.size (npeBareV T.toThrowableT N.toNpeT (freshCell P1.m.cls N.kN) W.heap.size u0 sen)).setFrames (.throwing W.heap.size :: .java g :: below) := by
    rw [State.pushFrame, State.frames_setTop _ hfrM, State.setTop_of_frames _ hfrM, State.setFrames_setFrames]
  refine ⟨_, W.heap.size, _, fun target ht => st.trans (by rw [← hU]; exact ht), X3.forget (fun y hy => ?_), heapAt_setCell_self _ hlt, hfound, rfl⟩
  simp only [List.mem_cons, List.not_mem_nil, or_false] at hy
  have hge : s.heap.size ≤ W.heap.size := X.same.2.1
  rcases hy with rfl | rfl | rfl | rfl | rfl <;> exact hge
/-- the words of a machine's NullPointerException, but the four that speak of the heap -/
def vx_atN (n : Nat) : List Cond := (Bundle.npeArmAtoms n).filter vx_no
/-- the words of a machine's throw with a message, but the four that speak of the heap -/
def vx_atM (X : String) (names : List String) : List Cond := (Bundle.messageArmAtoms X names).filter vx_no
section
variable {p : Program} {l : Launch} {e : Env} {R : Room} {s : State} {m : MethodId} {args : Array Value} {below : List Frame} {meth : Method} {c : Code} {H : Heap} {locs : List Loc} {cells slots : Nat}
/-- a frame seen from a rebased start, seen from the first start again -/
theorem vx_back9 {T S : State} {R' : Room} {k n : Nat} (X : Stand p l e R s m args below meth c T locs cells slots) (Y : Stand p l e R' ((T.setVm s.vm).setFrames (.invoking m args :: below)) m args below meth c T [] 0 0) (Z : Stand p l e R' ((T.setVm s.vm).setFrames (.invoking m args :: below)) m args below meth c S [] k n) :
    Stand p l e R s m args below meth c S locs (cells + k) (slots + n) := by
  have hW0 : s.WarmedH ((T.setVm s.vm).setFrames (.invoking m args :: below)).vm := State.WarmedH.refl s
  refine { admits := X.admits, cas := X.cas, clock := X.clock, frames := X.frames, room := X.room, hears := X.hears, method := X.method, code := X.code, here := Z.here, tail := Z.tail, warmed := State.WarmedH.trans hW0 Z.warmed, limits := Z.limits.trans (Y.limits.symm.trans X.limits), bytes := Z.bytes.trans (Y.bytes.symm.trans X.bytes), same := ?_ }
  obtain ⟨e1, e2⟩ := Z.same
  rw [State.setFrames_setFrames] at e1
  have h2 : (T.setVm s.vm).sameButNew (S.setVm s.vm) [] k n := ⟨e1, e2⟩
  have h3 := X.same.trans h2
  rw [List.append_nil] at h3
  exact h3
/-- from the machine's note that E is thrown here with this text -/
def vx_Note (p : Program) (l : Launch) (e : Env) (R : Room) (s : State) (m : MethodId) (args : Array Value) (below : List Frame) (meth : Method) (c : Code) (H : Heap) (locs : List Loc) (cells slots : Nat) (Q : State → Prop) (g : JFrame) (E text : String) : Prop :=
  ∀ T : State, T.heap = H → Stand p l e R s m args below meth c T locs cells slots → ∃ t, Steps p.tables e below ((T.setTop g).pushFrame (.throwNew E (some text) none)) t ∧ Q t
theorem vx_vm {pc : Nat} {ls : Array Slot} {rest : List Value} {Q : State → Prop} (hexec : p.tables.exec = Jvm.exec) (hl : l.stackTraces = false) {cls text : String} {names : List String} {nb : Nat} {A : Nat → Prop}
    (hcls : Bundle.fit cls = true) (hnames : ∀ n ∈ names, Bundle.fit n = true) (hsoe : (cls == "java/lang/StackOverflowError") = false) (hoom : (cls == "java/lang/OutOfMemoryError") = false)
    (hat : ∀ w ∈ vx_atM cls names, w.before args s = true) (hgood : ∀ w ∈ vx_atM cls names, vx_ot w = true)
    (hU : vx_Zq Bundle.tN "UNASSIGNED_STACK" Bundle.steD A s s.heap) (hN : vx_Zq Bundle.tN "SUPPRESSED_SENTINEL" Bundle.listD A s s.heap) (hS : va_S A s.heap H locs) (hsize : ls.size = c.maxLocals)
    (htext : (text == notModelled) = false) (hnb : (stringBytes (stringToUtf16 text)).size ≤ nb) (hnb1 : nb ≤ 1000)
    (hRframes : names.length + 4 < R.frames) (hRlocals : (rest.map fun v => v.category).sum + 10240 ≤ R.locals) (hshort : 13 * names.length + 55 ≤ 10240) (hRcells : cells + 3 ≤ R.cells) (hRslots : slots + (nb + 10) ≤ R.slots) (hlocks : meth.locks = false)
    (k : ∀ (H1 : Heap) (q9 : Addr) (ce : Cell), H.size ≤ H1.size → (∀ q : Nat, q < H.size → H1[q]? = H[q]?) → va_S A s.heap H1 locs → H1[q9]? = some ce → ce.vm = .none → s.vm.findClass cls = some ce.cls → vx_W p l e R s m args below meth c H1 locs (cells + 3) (slots + (nb + 10)) Q (F0 m pc ls rest) q9) :
    vx_Note p l e R s m args below meth c H locs cells slots Q (F0 m pc ls rest) cls text := by
  intro T hT X
  have htr : e.platform.stackTraces = false := (show e.platform.stackTraces = l.stackTraces by rw [X.admits.platform]).trans hl
  have Y := vx_rebase X (R' := { frames := R.frames, locals := R.locals, cells := 3, slots := nb + 10 }) (Nat.le_refl _) (Nat.le_refl _) hRcells hRslots
  have hhp : ((T.setVm s.vm).setFrames (.invoking m args :: below)).heap = H := hT
  have hW0 : s.WarmedH ((T.setVm s.vm).setFrames (.invoking m args :: below)).vm := State.WarmedH.refl s
  have hat' : ∀ w ∈ vx_atM cls names, w.before args ((T.setVm s.vm).setFrames (.invoking m args :: below)) = true := fun w hw => vx_ot_at hW0 rfl (hgood w hw) (hat w hw)
  have hU' : vx_Zq Bundle.tN "UNASSIGNED_STACK" Bundle.steD A ((T.setVm s.vm).setFrames (.invoking m args :: below)) ((T.setVm s.vm).setFrames (.invoking m args :: below)).heap := by rw [hhp]; exact vx_Zq.moved hW0.alike (hU.kept hS.2.1)
  have hN' : vx_Zq Bundle.tN "SUPPRESSED_SENTINEL" Bundle.listD A ((T.setVm s.vm).setFrames (.invoking m args :: below)) ((T.setVm s.vm).setFrames (.invoking m args :: below)).heap := by rw [hhp]; exact vx_Zq.moved hW0.alike (hN.kept hS.2.1)
  obtain ⟨S, q, ce, st, Z, hce, hcl', hv⟩ := vx_vmAt Y hexec htr (cls := cls) (names := names) (text := text) hcls hnames hsoe hoom (vx_own hat' (vx_isRefq hU'.1) (vx_isRefq hN'.1) hU'.2.word hN'.2.word) (fun x hx => nomatch hx) htext
    (by rw [Launch.admits_arrayLengthLimit X.admits]; omega) (by rw [Launch.admits_maxHeapBytes X.admits]; simp only [componentBytes]; omega)
    (g := F0 m pc ls rest) rfl hsize hRframes (by show 2 * 0 + (rest.map fun v => v.category).sum + 10240 ≤ R.locals; omega) hshort (by show 0 + 3 ≤ 3; omega) (by show 0 + (_ + 4 + 6) ≤ nb + 10; omega) hlocks
  obtain ⟨f1, f2⟩ := vx_frame Z.same
  have f1' : H.size ≤ S.heap.size := by rw [← hT]; exact f1
  have f2' : ∀ q : Nat, q < H.size → S.heap[q]? = H[q]? := fun q hq => by
    rw [← hT]
    exact f2 q (by rw [← hT] at hq; exact hq) (fun z hz => nomatch hz)
  have X5 := vx_back9 X Y Z
  have X6 : Stand p l e R s m args below meth c S locs (cells + 3) (slots + (nb + 10)) := { X5 with same := X5.same.mono (by omega) (by omega) }
  obtain ⟨t, a1, b1⟩ := k S.heap q ce f1' f2' ⟨Nat.le_trans hS.1 f1', fun q h1 h2 => (f2' q (Nat.lt_of_lt_of_le h1 hS.1)).trans (hS.2.1 q h1 h2), hS.2.2⟩ hce hv hcl' S rfl X6
  exact ⟨t, st t a1, b1⟩
/-- from the machine's note that NullPointerException is thrown here -/
def vx_NoteN (p : Program) (l : Launch) (e : Env) (R : Room) (s : State) (m : MethodId) (args : Array Value) (below : List Frame) (meth : Method) (c : Code) (H : Heap) (locs : List Loc) (cells slots : Nat) (Q : State → Prop) (g : JFrame) : Prop :=
  ∀ T : State, T.heap = H → Stand p l e R s m args below meth c T locs cells slots → ∃ t, Steps p.tables e below ((T.setTop g).pushFrame (.throwNew "java/lang/NullPointerException" none none)) t ∧ Q t
theorem vx_npe {pc : Nat} {ls : Array Slot} {rest : List Value} {Q : State → Prop} (hexec : p.tables.exec = Jvm.exec) (hl : l.stackTraces = false) {nb : Nat} {A : Nat → Prop}
    (hat : ∀ w ∈ vx_atN nb, w.before args s = true) (hgood : ∀ w ∈ vx_atN nb, vx_ot w = true)
    (hU : vx_Zq Bundle.tN "UNASSIGNED_STACK" Bundle.steD A s s.heap) (hN : vx_Zq Bundle.tN "SUPPRESSED_SENTINEL" Bundle.listD A s s.heap) (hS : va_S A s.heap H locs) (hsize : ls.size = c.maxLocals)
    (hRframes : 7 < R.frames) (hRlocals : (rest.map fun v => v.category).sum + 10240 ≤ R.locals) (hRcells : cells + 1 ≤ R.cells) (hRslots : slots + nb ≤ R.slots) (hlocks : meth.locks = false)
    (k : ∀ (H1 : Heap) (q9 : Addr) (ce : Cell), H.size ≤ H1.size → (∀ q : Nat, q < H.size → H1[q]? = H[q]?) → va_S A s.heap H1 locs → H1[q9]? = some ce → ce.vm = .none → s.vm.findClass "java/lang/NullPointerException" = some ce.cls → vx_W p l e R s m args below meth c H1 locs (cells + 1) (slots + nb) Q (F0 m pc ls rest) q9) :
    vx_NoteN p l e R s m args below meth c H locs cells slots Q (F0 m pc ls rest) := by
  intro T hT X
  have htr : e.platform.stackTraces = false := (show e.platform.stackTraces = l.stackTraces by rw [X.admits.platform]).trans hl
  have Y := vx_rebase X (R' := { frames := R.frames, locals := R.locals, cells := 1, slots := nb }) (Nat.le_refl _) (Nat.le_refl _) hRcells hRslots
  have hhp : ((T.setVm s.vm).setFrames (.invoking m args :: below)).heap = H := hT
  have hW0 : s.WarmedH ((T.setVm s.vm).setFrames (.invoking m args :: below)).vm := State.WarmedH.refl s
  have hat' : ∀ w ∈ vx_atN nb, w.before args ((T.setVm s.vm).setFrames (.invoking m args :: below)) = true := fun w hw => vx_ot_at hW0 rfl (hgood w hw) (hat w hw)
  have hU' : vx_Zq Bundle.tN "UNASSIGNED_STACK" Bundle.steD A ((T.setVm s.vm).setFrames (.invoking m args :: below)) ((T.setVm s.vm).setFrames (.invoking m args :: below)).heap := by rw [hhp]; exact vx_Zq.moved hW0.alike (hU.kept hS.2.1)
  have hN' : vx_Zq Bundle.tN "SUPPRESSED_SENTINEL" Bundle.listD A ((T.setVm s.vm).setFrames (.invoking m args :: below)) ((T.setVm s.vm).setFrames (.invoking m args :: below)).heap := by rw [hhp]; exact vx_Zq.moved hW0.alike (hN.kept hS.2.1)
  obtain ⟨S, q, ce, st, Z, hce, hcl', hv⟩ := vx_npeAt Y hexec htr (n := nb) (vx_own hat' (vx_isRefq hU'.1) (vx_isRefq hN'.1) hU'.2.word hN'.2.word) (fun x hx => nomatch hx)
    (g := F0 m pc ls rest) rfl hsize hRframes (by show 2 * 0 + (rest.map fun v => v.category).sum + 10240 ≤ R.locals; omega) (by show 0 + 1 ≤ 1; omega) (by show 0 + nb ≤ nb; omega) hlocks
  obtain ⟨f1, f2⟩ := vx_frame Z.same
  have f1' : H.size ≤ S.heap.size := by rw [← hT]; exact f1
  have f2' : ∀ q : Nat, q < H.size → S.heap[q]? = H[q]? := fun q hq => by
    rw [← hT]
    exact f2 q (by rw [← hT] at hq; exact hq) (fun z hz => nomatch hz)
  have X5 := vx_back9 X Y Z
  have X6 : Stand p l e R s m args below meth c S locs (cells + 1) (slots + nb) := { X5 with same := X5.same.mono (by omega) (by omega) }
  obtain ⟨t, a1, b1⟩ := k S.heap q ce f1' f2' ⟨Nat.le_trans hS.1 f1', fun q h1 h2 => (f2' q (Nat.lt_of_lt_of_le h1 hS.1)).trans (hS.2.1 q h1 h2), hS.2.2⟩ hce hv hcl' S rfl X6
  exact ⟨t, st t a1, b1⟩
variable {Q : State → Prop} {cc : ByteArray} {pc : Nat} {ls : Array Slot} {rest : List Value}
theorem vx_idivZ (hexec : p.tables.exec = Jvm.exec) (hb : c.code = cc) {a b : Int32} (h0 : b = 0) (d : decode cc pc = .ok (.idiv, 1)) (k : vx_Note p l e R s m args below meth c H locs cells slots Q (F0 m pc ls rest) "java/lang/ArithmeticException" "/ by zero") :
    W p l e R s m args below meth c H locs cells slots Q (F0 m pc ls (.int b :: .int a :: rest)) := by
  intro T hT X
  obtain ⟨t, st, q⟩ := k T hT X
  exact ⟨t, X.idivZero hexec (g := F0 m pc ls (.int b :: .int a :: rest)) rfl (a := a) (rest := rest) (by rw [h0]) (by rw [hb]; exact d) t st, q⟩
theorem vx_iremZ (hexec : p.tables.exec = Jvm.exec) (hb : c.code = cc) {a b : Int32} (h0 : b = 0) (d : decode cc pc = .ok (.irem, 1)) (k : vx_Note p l e R s m args below meth c H locs cells slots Q (F0 m pc ls rest) "java/lang/ArithmeticException" "/ by zero") :
    W p l e R s m args below meth c H locs cells slots Q (F0 m pc ls (.int b :: .int a :: rest)) := by
  intro T hT X
  obtain ⟨t, st, q⟩ := k T hT X
  exact ⟨t, X.iremZero hexec (g := F0 m pc ls (.int b :: .int a :: rest)) rfl (a := a) (rest := rest) (by rw [h0]) (by rw [hb]; exact d) t st, q⟩
theorem vx_ldivZ (hexec : p.tables.exec = Jvm.exec) (hb : c.code = cc) {a b : Int64} (h0 : b = 0) (d : decode cc pc = .ok (.ldiv, 1)) (k : vx_Note p l e R s m args below meth c H locs cells slots Q (F0 m pc ls rest) "java/lang/ArithmeticException" "/ by zero") :
    W p l e R s m args below meth c H locs cells slots Q (F0 m pc ls (.long b :: .long a :: rest)) := by
  intro T hT X
  obtain ⟨t, st, q⟩ := k T hT X
  exact ⟨t, X.ldivZero hexec (g := F0 m pc ls (.long b :: .long a :: rest)) rfl (a := a) (rest := rest) (by rw [h0]) (by rw [hb]; exact d) t st, q⟩
theorem vx_lremZ (hexec : p.tables.exec = Jvm.exec) (hb : c.code = cc) {a b : Int64} (h0 : b = 0) (d : decode cc pc = .ok (.lrem, 1)) (k : vx_Note p l e R s m args below meth c H locs cells slots Q (F0 m pc ls rest) "java/lang/ArithmeticException" "/ by zero") :
    W p l e R s m args below meth c H locs cells slots Q (F0 m pc ls (.long b :: .long a :: rest)) := by
  intro T hT X
  obtain ⟨t, st, q⟩ := k T hT X
  exact ⟨t, X.lremZero hexec (g := F0 m pc ls (.long b :: .long a :: rest)) rfl (a := a) (rest := rest) (by rw [h0]) (by rw [hb]; exact d) t st, q⟩
theorem vx_ialdZ {D : va_G} {cl : List vw_C} {ws : va_W} {tys : List (ClassId × FieldType)} {a : Nat} (hexec : p.tables.exec = Jvm.exec) (hb : c.code = cc) (hK : va_K D cl tys s) (hP : va_P D cl ws H) (q0 t0 : Nat) {cA : ClassId} {n : Nat} {f : Nat → Int32} (ha : ws[q0]? = some (a, .inl (cA, n, .inl f))) (ht : tys[t0]? = some (cA, .int)) {i : Int32} (hout : ¬ vp_in i n) (hdg : decode cc pc = .ok (.iaload, 1))
    (k : ∀ tx : String, tx = (toString "Index " ++ toString i ++ toString " out of bounds for length " ++ toString n : String) → vx_Note p l e R s m args below meth c H locs cells slots Q (F0 m pc ls rest) "java/lang/ArrayIndexOutOfBoundsException" tx) : W p l e R s m args below meth c H locs cells slots Q (F0 m pc ls (.int i :: .ref a :: rest)) := by
  intro T hT X
  obtain ⟨t, st, q⟩ := k _ rfl T hT X
  refine ⟨t, ?_, q⟩
  have h1 := X.ialoadOut hexec (by rw [hT]; exact hP q0 _ ha) ((hK.2 t0 _ ht).1 n (fun j => .int (f j))) (j := i) (by show (i < 0 ∨ (arrV _ _ _).slots.size ≤ _); rw [arrV_size]; exact Classical.byContradiction hout) (g := F0 m pc ls (.int i :: .ref a :: rest)) rfl (rest := rest) rfl (by rw [hb]; exact hdg) t
  simp only [arrV_size] at h1
  exact h1 st
theorem vx_iastZ {D : va_G} {cl : List vw_C} {ws : va_W} {tys : List (ClassId × FieldType)} {a : Nat} (hexec : p.tables.exec = Jvm.exec) (hb : c.code = cc) (hK : va_K D cl tys s) (hP : va_P D cl ws H) (q0 t0 : Nat) {cA : ClassId} {n : Nat} {f : Nat → Int32} (ha : ws[q0]? = some (a, .inl (cA, n, .inl f))) (ht : tys[t0]? = some (cA, .int)) {i : Int32} {x : Int32} (hout : ¬ vp_in i n) (hdg : decode cc pc = .ok (.iastore, 1))
    (k : ∀ tx : String, tx = (toString "Index " ++ toString i ++ toString " out of bounds for length " ++ toString n : String) → vx_Note p l e R s m args below meth c H locs cells slots Q (F0 m pc ls rest) "java/lang/ArrayIndexOutOfBoundsException" tx) : W p l e R s m args below meth c H locs cells slots Q (F0 m pc ls (.int x :: .int i :: .ref a :: rest)) := by
  intro T hT X
  obtain ⟨t, st, q⟩ := k _ rfl T hT X
  refine ⟨t, ?_, q⟩
  have h1 := X.iastoreOut hexec (by rw [hT]; exact hP q0 _ ha) ((hK.2 t0 _ ht).1 n (fun j => .int (f j))) (j := i) (by show (i < 0 ∨ (arrV _ _ _).slots.size ≤ _); rw [arrV_size]; exact Classical.byContradiction hout) (g := F0 m pc ls (.int x :: .int i :: .ref a :: rest)) rfl (rest := rest) rfl (by rw [hb]; exact hdg) t
  simp only [arrV_size] at h1
  exact h1 st
theorem vx_baldZ {D : va_G} {cl : List vw_C} {ws : va_W} {tys : List (ClassId × FieldType)} {a : Nat} (hexec : p.tables.exec = Jvm.exec) (hb : c.code = cc) (hK : va_K D cl tys s) (hP : va_P D cl ws H) (q0 t0 : Nat) {cA : ClassId} {n : Nat} {f : Nat → Int32} (ha : ws[q0]? = some (a, .inl (cA, n, .inl f))) (ht : tys[t0]? = some (cA, .byte)) {i : Int32} (hout : ¬ vp_in i n) (hdg : decode cc pc = .ok (.baload, 1))
    (k : ∀ tx : String, tx = (toString "Index " ++ toString i ++ toString " out of bounds for length " ++ toString n : String) → vx_Note p l e R s m args below meth c H locs cells slots Q (F0 m pc ls rest) "java/lang/ArrayIndexOutOfBoundsException" tx) : W p l e R s m args below meth c H locs cells slots Q (F0 m pc ls (.int i :: .ref a :: rest)) := by
  intro T hT X
  obtain ⟨t, st, q⟩ := k _ rfl T hT X
  refine ⟨t, ?_, q⟩
  have h1 := X.baloadOut hexec (by rw [hT]; exact hP q0 _ ha) ((hK.2 t0 _ ht).1 n (fun j => .int (f j))) (j := i) (by show (i < 0 ∨ (arrV _ _ _).slots.size ≤ _); rw [arrV_size]; exact Classical.byContradiction hout) (g := F0 m pc ls (.int i :: .ref a :: rest)) rfl (rest := rest) rfl (by rw [hb]; exact hdg) t
  simp only [arrV_size] at h1
  exact h1 st
theorem vx_bastZ {D : va_G} {cl : List vw_C} {ws : va_W} {tys : List (ClassId × FieldType)} {a : Nat} (hexec : p.tables.exec = Jvm.exec) (hb : c.code = cc) (hK : va_K D cl tys s) (hP : va_P D cl ws H) (q0 t0 : Nat) {cA : ClassId} {n : Nat} {f : Nat → Int32} (ha : ws[q0]? = some (a, .inl (cA, n, .inl f))) (ht : tys[t0]? = some (cA, .byte)) {i : Int32} {x : Int32} (hout : ¬ vp_in i n) (hdg : decode cc pc = .ok (.bastore, 1))
    (k : ∀ tx : String, tx = (toString "Index " ++ toString i ++ toString " out of bounds for length " ++ toString n : String) → vx_Note p l e R s m args below meth c H locs cells slots Q (F0 m pc ls rest) "java/lang/ArrayIndexOutOfBoundsException" tx) : W p l e R s m args below meth c H locs cells slots Q (F0 m pc ls (.int x :: .int i :: .ref a :: rest)) := by
  intro T hT X
  obtain ⟨t, st, q⟩ := k _ rfl T hT X
  refine ⟨t, ?_, q⟩
  have h1 := X.bastoreOut hexec (by rw [hT]; exact hP q0 _ ha) ((hK.2 t0 _ ht).1 n (fun j => .int (f j))) (j := i) (by show (i < 0 ∨ (arrV _ _ _).slots.size ≤ _); rw [arrV_size]; exact Classical.byContradiction hout) (g := F0 m pc ls (.int x :: .int i :: .ref a :: rest)) rfl (rest := rest) rfl (by rw [hb]; exact hdg) t
  simp only [arrV_size] at h1
  exact h1 st
theorem vx_zaldZ {D : va_G} {cl : List vw_C} {ws : va_W} {tys : List (ClassId × FieldType)} {a : Nat} (hexec : p.tables.exec = Jvm.exec) (hb : c.code = cc) (hK : va_K D cl tys s) (hP : va_P D cl ws H) (q0 t0 : Nat) {cA : ClassId} {n : Nat} {f : Nat → Int32} (ha : ws[q0]? = some (a, .inl (cA, n, .inl f))) (ht : tys[t0]? = some (cA, .boolean)) {i : Int32} (hout : ¬ vp_in i n) (hdg : decode cc pc = .ok (.baload, 1))
    (k : ∀ tx : String, tx = (toString "Index " ++ toString i ++ toString " out of bounds for length " ++ toString n : String) → vx_Note p l e R s m args below meth c H locs cells slots Q (F0 m pc ls rest) "java/lang/ArrayIndexOutOfBoundsException" tx) : W p l e R s m args below meth c H locs cells slots Q (F0 m pc ls (.int i :: .ref a :: rest)) := by
  intro T hT X
  obtain ⟨t, st, q⟩ := k _ rfl T hT X
  refine ⟨t, ?_, q⟩
  have h1 := X.baloadOut hexec (by rw [hT]; exact hP q0 _ ha) ((hK.2 t0 _ ht).1 n (fun j => .int (f j))) (j := i) (by show (i < 0 ∨ (arrV _ _ _).slots.size ≤ _); rw [arrV_size]; exact Classical.byContradiction hout) (g := F0 m pc ls (.int i :: .ref a :: rest)) rfl (rest := rest) rfl (by rw [hb]; exact hdg) t
  simp only [arrV_size] at h1
  exact h1 st
theorem vx_zastZ {D : va_G} {cl : List vw_C} {ws : va_W} {tys : List (ClassId × FieldType)} {a : Nat} (hexec : p.tables.exec = Jvm.exec) (hb : c.code = cc) (hK : va_K D cl tys s) (hP : va_P D cl ws H) (q0 t0 : Nat) {cA : ClassId} {n : Nat} {f : Nat → Int32} (ha : ws[q0]? = some (a, .inl (cA, n, .inl f))) (ht : tys[t0]? = some (cA, .boolean)) {i : Int32} {x : Int32} (hout : ¬ vp_in i n) (hdg : decode cc pc = .ok (.bastore, 1))
    (k : ∀ tx : String, tx = (toString "Index " ++ toString i ++ toString " out of bounds for length " ++ toString n : String) → vx_Note p l e R s m args below meth c H locs cells slots Q (F0 m pc ls rest) "java/lang/ArrayIndexOutOfBoundsException" tx) : W p l e R s m args below meth c H locs cells slots Q (F0 m pc ls (.int x :: .int i :: .ref a :: rest)) := by
  intro T hT X
  obtain ⟨t, st, q⟩ := k _ rfl T hT X
  refine ⟨t, ?_, q⟩
  have h1 := X.bastoreOut hexec (by rw [hT]; exact hP q0 _ ha) ((hK.2 t0 _ ht).1 n (fun j => .int (f j))) (j := i) (by show (i < 0 ∨ (arrV _ _ _).slots.size ≤ _); rw [arrV_size]; exact Classical.byContradiction hout) (g := F0 m pc ls (.int x :: .int i :: .ref a :: rest)) rfl (rest := rest) rfl (by rw [hb]; exact hdg) t
  simp only [arrV_size] at h1
  exact h1 st
theorem vx_caldZ {D : va_G} {cl : List vw_C} {ws : va_W} {tys : List (ClassId × FieldType)} {a : Nat} (hexec : p.tables.exec = Jvm.exec) (hb : c.code = cc) (hK : va_K D cl tys s) (hP : va_P D cl ws H) (q0 t0 : Nat) {cA : ClassId} {n : Nat} {f : Nat → Int32} (ha : ws[q0]? = some (a, .inl (cA, n, .inl f))) (ht : tys[t0]? = some (cA, .char)) {i : Int32} (hout : ¬ vp_in i n) (hdg : decode cc pc = .ok (.caload, 1))
    (k : ∀ tx : String, tx = (toString "Index " ++ toString i ++ toString " out of bounds for length " ++ toString n : String) → vx_Note p l e R s m args below meth c H locs cells slots Q (F0 m pc ls rest) "java/lang/ArrayIndexOutOfBoundsException" tx) : W p l e R s m args below meth c H locs cells slots Q (F0 m pc ls (.int i :: .ref a :: rest)) := by
  intro T hT X
  obtain ⟨t, st, q⟩ := k _ rfl T hT X
  refine ⟨t, ?_, q⟩
  have h1 := X.caloadOut hexec (by rw [hT]; exact hP q0 _ ha) ((hK.2 t0 _ ht).1 n (fun j => .int (f j))) (j := i) (by show (i < 0 ∨ (arrV _ _ _).slots.size ≤ _); rw [arrV_size]; exact Classical.byContradiction hout) (g := F0 m pc ls (.int i :: .ref a :: rest)) rfl (rest := rest) rfl (by rw [hb]; exact hdg) t
  simp only [arrV_size] at h1
  exact h1 st
theorem vx_castZ {D : va_G} {cl : List vw_C} {ws : va_W} {tys : List (ClassId × FieldType)} {a : Nat} (hexec : p.tables.exec = Jvm.exec) (hb : c.code = cc) (hK : va_K D cl tys s) (hP : va_P D cl ws H) (q0 t0 : Nat) {cA : ClassId} {n : Nat} {f : Nat → Int32} (ha : ws[q0]? = some (a, .inl (cA, n, .inl f))) (ht : tys[t0]? = some (cA, .char)) {i : Int32} {x : Int32} (hout : ¬ vp_in i n) (hdg : decode cc pc = .ok (.castore, 1))
    (k : ∀ tx : String, tx = (toString "Index " ++ toString i ++ toString " out of bounds for length " ++ toString n : String) → vx_Note p l e R s m args below meth c H locs cells slots Q (F0 m pc ls rest) "java/lang/ArrayIndexOutOfBoundsException" tx) : W p l e R s m args below meth c H locs cells slots Q (F0 m pc ls (.int x :: .int i :: .ref a :: rest)) := by
  intro T hT X
  obtain ⟨t, st, q⟩ := k _ rfl T hT X
  refine ⟨t, ?_, q⟩
  have h1 := X.castoreOut hexec (by rw [hT]; exact hP q0 _ ha) ((hK.2 t0 _ ht).1 n (fun j => .int (f j))) (j := i) (by show (i < 0 ∨ (arrV _ _ _).slots.size ≤ _); rw [arrV_size]; exact Classical.byContradiction hout) (g := F0 m pc ls (.int x :: .int i :: .ref a :: rest)) rfl (rest := rest) rfl (by rw [hb]; exact hdg) t
  simp only [arrV_size] at h1
  exact h1 st
theorem vx_saldZ {D : va_G} {cl : List vw_C} {ws : va_W} {tys : List (ClassId × FieldType)} {a : Nat} (hexec : p.tables.exec = Jvm.exec) (hb : c.code = cc) (hK : va_K D cl tys s) (hP : va_P D cl ws H) (q0 t0 : Nat) {cA : ClassId} {n : Nat} {f : Nat → Int32} (ha : ws[q0]? = some (a, .inl (cA, n, .inl f))) (ht : tys[t0]? = some (cA, .short)) {i : Int32} (hout : ¬ vp_in i n) (hdg : decode cc pc = .ok (.saload, 1))
    (k : ∀ tx : String, tx = (toString "Index " ++ toString i ++ toString " out of bounds for length " ++ toString n : String) → vx_Note p l e R s m args below meth c H locs cells slots Q (F0 m pc ls rest) "java/lang/ArrayIndexOutOfBoundsException" tx) : W p l e R s m args below meth c H locs cells slots Q (F0 m pc ls (.int i :: .ref a :: rest)) := by
  intro T hT X
  obtain ⟨t, st, q⟩ := k _ rfl T hT X
  refine ⟨t, ?_, q⟩
  have h1 := X.saloadOut hexec (by rw [hT]; exact hP q0 _ ha) ((hK.2 t0 _ ht).1 n (fun j => .int (f j))) (j := i) (by show (i < 0 ∨ (arrV _ _ _).slots.size ≤ _); rw [arrV_size]; exact Classical.byContradiction hout) (g := F0 m pc ls (.int i :: .ref a :: rest)) rfl (rest := rest) rfl (by rw [hb]; exact hdg) t
  simp only [arrV_size] at h1
  exact h1 st
theorem vx_sastZ {D : va_G} {cl : List vw_C} {ws : va_W} {tys : List (ClassId × FieldType)} {a : Nat} (hexec : p.tables.exec = Jvm.exec) (hb : c.code = cc) (hK : va_K D cl tys s) (hP : va_P D cl ws H) (q0 t0 : Nat) {cA : ClassId} {n : Nat} {f : Nat → Int32} (ha : ws[q0]? = some (a, .inl (cA, n, .inl f))) (ht : tys[t0]? = some (cA, .short)) {i : Int32} {x : Int32} (hout : ¬ vp_in i n) (hdg : decode cc pc = .ok (.sastore, 1))
    (k : ∀ tx : String, tx = (toString "Index " ++ toString i ++ toString " out of bounds for length " ++ toString n : String) → vx_Note p l e R s m args below meth c H locs cells slots Q (F0 m pc ls rest) "java/lang/ArrayIndexOutOfBoundsException" tx) : W p l e R s m args below meth c H locs cells slots Q (F0 m pc ls (.int x :: .int i :: .ref a :: rest)) := by
  intro T hT X
  obtain ⟨t, st, q⟩ := k _ rfl T hT X
  refine ⟨t, ?_, q⟩
  have h1 := X.sastoreOut hexec (by rw [hT]; exact hP q0 _ ha) ((hK.2 t0 _ ht).1 n (fun j => .int (f j))) (j := i) (by show (i < 0 ∨ (arrV _ _ _).slots.size ≤ _); rw [arrV_size]; exact Classical.byContradiction hout) (g := F0 m pc ls (.int x :: .int i :: .ref a :: rest)) rfl (rest := rest) rfl (by rw [hb]; exact hdg) t
  simp only [arrV_size] at h1
  exact h1 st
theorem vx_laldZ {D : va_G} {cl : List vw_C} {ws : va_W} {tys : List (ClassId × FieldType)} {a : Nat} (hexec : p.tables.exec = Jvm.exec) (hb : c.code = cc) (hK : va_K D cl tys s) (hP : va_P D cl ws H) (q0 t0 : Nat) {cA : ClassId} {n : Nat} {f : Nat → Int64} (ha : ws[q0]? = some (a, .inl (cA, n, .inr (.inl f)))) (ht : tys[t0]? = some (cA, .long)) {i : Int32} (hout : ¬ vp_in i n) (hdg : decode cc pc = .ok (.laload, 1))
    (k : ∀ tx : String, tx = (toString "Index " ++ toString i ++ toString " out of bounds for length " ++ toString n : String) → vx_Note p l e R s m args below meth c H locs cells slots Q (F0 m pc ls rest) "java/lang/ArrayIndexOutOfBoundsException" tx) : W p l e R s m args below meth c H locs cells slots Q (F0 m pc ls (.int i :: .ref a :: rest)) := by
  intro T hT X
  obtain ⟨t, st, q⟩ := k _ rfl T hT X
  refine ⟨t, ?_, q⟩
  have h1 := X.laloadOut hexec (by rw [hT]; exact hP q0 _ ha) ((hK.2 t0 _ ht).1 n (fun j => .long (f j))) (j := i) (by show (i < 0 ∨ (arrV _ _ _).slots.size ≤ _); rw [arrV_size]; exact Classical.byContradiction hout) (g := F0 m pc ls (.int i :: .ref a :: rest)) rfl (rest := rest) rfl (by rw [hb]; exact hdg) t
  simp only [arrV_size] at h1
  exact h1 st
theorem vx_lastZ {D : va_G} {cl : List vw_C} {ws : va_W} {tys : List (ClassId × FieldType)} {a : Nat} (hexec : p.tables.exec = Jvm.exec) (hb : c.code = cc) (hK : va_K D cl tys s) (hP : va_P D cl ws H) (q0 t0 : Nat) {cA : ClassId} {n : Nat} {f : Nat → Int64} (ha : ws[q0]? = some (a, .inl (cA, n, .inr (.inl f)))) (ht : tys[t0]? = some (cA, .long)) {i : Int32} {x : Int64} (hout : ¬ vp_in i n) (hdg : decode cc pc = .ok (.lastore, 1))
    (k : ∀ tx : String, tx = (toString "Index " ++ toString i ++ toString " out of bounds for length " ++ toString n : String) → vx_Note p l e R s m args below meth c H locs cells slots Q (F0 m pc ls rest) "java/lang/ArrayIndexOutOfBoundsException" tx) : W p l e R s m args below meth c H locs cells slots Q (F0 m pc ls (.long x :: .int i :: .ref a :: rest)) := by
  intro T hT X
  obtain ⟨t, st, q⟩ := k _ rfl T hT X
  refine ⟨t, ?_, q⟩
  have h1 := X.lastoreOut hexec (by rw [hT]; exact hP q0 _ ha) ((hK.2 t0 _ ht).1 n (fun j => .long (f j))) (j := i) (by show (i < 0 ∨ (arrV _ _ _).slots.size ≤ _); rw [arrV_size]; exact Classical.byContradiction hout) (g := F0 m pc ls (.long x :: .int i :: .ref a :: rest)) rfl (rest := rest) rfl (by rw [hb]; exact hdg) t
  simp only [arrV_size] at h1
  exact h1 st
theorem vx_faldZ {D : va_G} {cl : List vw_C} {ws : va_W} {tys : List (ClassId × FieldType)} {a : Nat} (hexec : p.tables.exec = Jvm.exec) (hb : c.code = cc) (hK : va_K D cl tys s) (hP : va_P D cl ws H) (q0 t0 : Nat) {cA : ClassId} {n : Nat} {f : Nat → UInt32} (ha : ws[q0]? = some (a, .inl (cA, n, .inr (.inr (.inl f))))) (ht : tys[t0]? = some (cA, .float)) {i : Int32} (hout : ¬ vp_in i n) (hdg : decode cc pc = .ok (.faload, 1))
    (k : ∀ tx : String, tx = (toString "Index " ++ toString i ++ toString " out of bounds for length " ++ toString n : String) → vx_Note p l e R s m args below meth c H locs cells slots Q (F0 m pc ls rest) "java/lang/ArrayIndexOutOfBoundsException" tx) : W p l e R s m args below meth c H locs cells slots Q (F0 m pc ls (.int i :: .ref a :: rest)) := by
  intro T hT X
  obtain ⟨t, st, q⟩ := k _ rfl T hT X
  refine ⟨t, ?_, q⟩
  have h1 := X.faloadOut hexec (by rw [hT]; exact hP q0 _ ha) ((hK.2 t0 _ ht).1 n (fun j => .float (f j))) (j := i) (by show (i < 0 ∨ (arrV _ _ _).slots.size ≤ _); rw [arrV_size]; exact Classical.byContradiction hout) (g := F0 m pc ls (.int i :: .ref a :: rest)) rfl (rest := rest) rfl (by rw [hb]; exact hdg) t
  simp only [arrV_size] at h1
  exact h1 st
theorem vx_fastZ {D : va_G} {cl : List vw_C} {ws : va_W} {tys : List (ClassId × FieldType)} {a : Nat} (hexec : p.tables.exec = Jvm.exec) (hb : c.code = cc) (hK : va_K D cl tys s) (hP : va_P D cl ws H) (q0 t0 : Nat) {cA : ClassId} {n : Nat} {f : Nat → UInt32} (ha : ws[q0]? = some (a, .inl (cA, n, .inr (.inr (.inl f))))) (ht : tys[t0]? = some (cA, .float)) {i : Int32} {x : UInt32} (hout : ¬ vp_in i n) (hdg : decode cc pc = .ok (.fastore, 1))
    (k : ∀ tx : String, tx = (toString "Index " ++ toString i ++ toString " out of bounds for length " ++ toString n : String) → vx_Note p l e R s m args below meth c H locs cells slots Q (F0 m pc ls rest) "java/lang/ArrayIndexOutOfBoundsException" tx) : W p l e R s m args below meth c H locs cells slots Q (F0 m pc ls (.float x :: .int i :: .ref a :: rest)) := by
  intro T hT X
  obtain ⟨t, st, q⟩ := k _ rfl T hT X
  refine ⟨t, ?_, q⟩
  have h1 := X.fastoreOut hexec (by rw [hT]; exact hP q0 _ ha) ((hK.2 t0 _ ht).1 n (fun j => .float (f j))) (j := i) (by show (i < 0 ∨ (arrV _ _ _).slots.size ≤ _); rw [arrV_size]; exact Classical.byContradiction hout) (g := F0 m pc ls (.float x :: .int i :: .ref a :: rest)) rfl (rest := rest) rfl (by rw [hb]; exact hdg) t
  simp only [arrV_size] at h1
  exact h1 st
theorem vx_daldZ {D : va_G} {cl : List vw_C} {ws : va_W} {tys : List (ClassId × FieldType)} {a : Nat} (hexec : p.tables.exec = Jvm.exec) (hb : c.code = cc) (hK : va_K D cl tys s) (hP : va_P D cl ws H) (q0 t0 : Nat) {cA : ClassId} {n : Nat} {f : Nat → UInt64} (ha : ws[q0]? = some (a, .inl (cA, n, .inr (.inr (.inr (.inl f)))))) (ht : tys[t0]? = some (cA, .double)) {i : Int32} (hout : ¬ vp_in i n) (hdg : decode cc pc = .ok (.daload, 1))
    (k : ∀ tx : String, tx = (toString "Index " ++ toString i ++ toString " out of bounds for length " ++ toString n : String) → vx_Note p l e R s m args below meth c H locs cells slots Q (F0 m pc ls rest) "java/lang/ArrayIndexOutOfBoundsException" tx) : W p l e R s m args below meth c H locs cells slots Q (F0 m pc ls (.int i :: .ref a :: rest)) := by
  intro T hT X
  obtain ⟨t, st, q⟩ := k _ rfl T hT X
  refine ⟨t, ?_, q⟩
  have h1 := X.daloadOut hexec (by rw [hT]; exact hP q0 _ ha) ((hK.2 t0 _ ht).1 n (fun j => .double (f j))) (j := i) (by show (i < 0 ∨ (arrV _ _ _).slots.size ≤ _); rw [arrV_size]; exact Classical.byContradiction hout) (g := F0 m pc ls (.int i :: .ref a :: rest)) rfl (rest := rest) rfl (by rw [hb]; exact hdg) t
  simp only [arrV_size] at h1
  exact h1 st
theorem vx_dastZ {D : va_G} {cl : List vw_C} {ws : va_W} {tys : List (ClassId × FieldType)} {a : Nat} (hexec : p.tables.exec = Jvm.exec) (hb : c.code = cc) (hK : va_K D cl tys s) (hP : va_P D cl ws H) (q0 t0 : Nat) {cA : ClassId} {n : Nat} {f : Nat → UInt64} (ha : ws[q0]? = some (a, .inl (cA, n, .inr (.inr (.inr (.inl f)))))) (ht : tys[t0]? = some (cA, .double)) {i : Int32} {x : UInt64} (hout : ¬ vp_in i n) (hdg : decode cc pc = .ok (.dastore, 1))
    (k : ∀ tx : String, tx = (toString "Index " ++ toString i ++ toString " out of bounds for length " ++ toString n : String) → vx_Note p l e R s m args below meth c H locs cells slots Q (F0 m pc ls rest) "java/lang/ArrayIndexOutOfBoundsException" tx) : W p l e R s m args below meth c H locs cells slots Q (F0 m pc ls (.double x :: .int i :: .ref a :: rest)) := by
  intro T hT X
  obtain ⟨t, st, q⟩ := k _ rfl T hT X
  refine ⟨t, ?_, q⟩
  have h1 := X.dastoreOut hexec (by rw [hT]; exact hP q0 _ ha) ((hK.2 t0 _ ht).1 n (fun j => .double (f j))) (j := i) (by show (i < 0 ∨ (arrV _ _ _).slots.size ≤ _); rw [arrV_size]; exact Classical.byContradiction hout) (g := F0 m pc ls (.double x :: .int i :: .ref a :: rest)) rfl (rest := rest) rfl (by rw [hb]; exact hdg) t
  simp only [arrV_size] at h1
  exact h1 st
theorem vx_arraylengthN (hexec : p.tables.exec = Jvm.exec) (hb : c.code = cc) (hdg : decode cc pc = .ok (.arraylength, 1)) (k : vx_NoteN p l e R s m args below meth c H locs cells slots Q (F0 m pc ls rest)) : W p l e R s m args below meth c H locs cells slots Q (F0 m pc ls (.null :: rest)) := by
  intro T hT X
  obtain ⟨t, st, q⟩ := k T hT X
  exact ⟨t, X.arraylengthNull hexec (g := F0 m pc ls (.null :: rest)) rfl (rest := rest) rfl (by rw [hb]; exact hdg) t st, q⟩
theorem vx_ialoadN (hexec : p.tables.exec = Jvm.exec) (hb : c.code = cc) {i : Int32} (hdg : decode cc pc = .ok (.iaload, 1)) (k : vx_NoteN p l e R s m args below meth c H locs cells slots Q (F0 m pc ls rest)) : W p l e R s m args below meth c H locs cells slots Q (F0 m pc ls (.int i :: .null :: rest)) := by
  intro T hT X
  obtain ⟨t, st, q⟩ := k T hT X
  exact ⟨t, X.ialoadNull hexec (g := F0 m pc ls (.int i :: .null :: rest)) rfl (rest := rest) rfl (by rw [hb]; exact hdg) t st, q⟩
theorem vx_laloadN (hexec : p.tables.exec = Jvm.exec) (hb : c.code = cc) {i : Int32} (hdg : decode cc pc = .ok (.laload, 1)) (k : vx_NoteN p l e R s m args below meth c H locs cells slots Q (F0 m pc ls rest)) : W p l e R s m args below meth c H locs cells slots Q (F0 m pc ls (.int i :: .null :: rest)) := by
  intro T hT X
  obtain ⟨t, st, q⟩ := k T hT X
  exact ⟨t, X.laloadNull hexec (g := F0 m pc ls (.int i :: .null :: rest)) rfl (rest := rest) rfl (by rw [hb]; exact hdg) t st, q⟩
theorem vx_faloadN (hexec : p.tables.exec = Jvm.exec) (hb : c.code = cc) {i : Int32} (hdg : decode cc pc = .ok (.faload, 1)) (k : vx_NoteN p l e R s m args below meth c H locs cells slots Q (F0 m pc ls rest)) : W p l e R s m args below meth c H locs cells slots Q (F0 m pc ls (.int i :: .null :: rest)) := by
  intro T hT X
  obtain ⟨t, st, q⟩ := k T hT X
  exact ⟨t, X.faloadNull hexec (g := F0 m pc ls (.int i :: .null :: rest)) rfl (rest := rest) rfl (by rw [hb]; exact hdg) t st, q⟩
theorem vx_daloadN (hexec : p.tables.exec = Jvm.exec) (hb : c.code = cc) {i : Int32} (hdg : decode cc pc = .ok (.daload, 1)) (k : vx_NoteN p l e R s m args below meth c H locs cells slots Q (F0 m pc ls rest)) : W p l e R s m args below meth c H locs cells slots Q (F0 m pc ls (.int i :: .null :: rest)) := by
  intro T hT X
  obtain ⟨t, st, q⟩ := k T hT X
  exact ⟨t, X.daloadNull hexec (g := F0 m pc ls (.int i :: .null :: rest)) rfl (rest := rest) rfl (by rw [hb]; exact hdg) t st, q⟩
theorem vx_aaloadN (hexec : p.tables.exec = Jvm.exec) (hb : c.code = cc) {i : Int32} (hdg : decode cc pc = .ok (.aaload, 1)) (k : vx_NoteN p l e R s m args below meth c H locs cells slots Q (F0 m pc ls rest)) : W p l e R s m args below meth c H locs cells slots Q (F0 m pc ls (.int i :: .null :: rest)) := by
  intro T hT X
  obtain ⟨t, st, q⟩ := k T hT X
  exact ⟨t, X.aaloadNull hexec (g := F0 m pc ls (.int i :: .null :: rest)) rfl (rest := rest) rfl (by rw [hb]; exact hdg) t st, q⟩
theorem vx_baloadN (hexec : p.tables.exec = Jvm.exec) (hb : c.code = cc) {i : Int32} (hdg : decode cc pc = .ok (.baload, 1)) (k : vx_NoteN p l e R s m args below meth c H locs cells slots Q (F0 m pc ls rest)) : W p l e R s m args below meth c H locs cells slots Q (F0 m pc ls (.int i :: .null :: rest)) := by
  intro T hT X
  obtain ⟨t, st, q⟩ := k T hT X
  exact ⟨t, X.baloadNull hexec (g := F0 m pc ls (.int i :: .null :: rest)) rfl (rest := rest) rfl (by rw [hb]; exact hdg) t st, q⟩
theorem vx_caloadN (hexec : p.tables.exec = Jvm.exec) (hb : c.code = cc) {i : Int32} (hdg : decode cc pc = .ok (.caload, 1)) (k : vx_NoteN p l e R s m args below meth c H locs cells slots Q (F0 m pc ls rest)) : W p l e R s m args below meth c H locs cells slots Q (F0 m pc ls (.int i :: .null :: rest)) := by
  intro T hT X
  obtain ⟨t, st, q⟩ := k T hT X
  exact ⟨t, X.caloadNull hexec (g := F0 m pc ls (.int i :: .null :: rest)) rfl (rest := rest) rfl (by rw [hb]; exact hdg) t st, q⟩
theorem vx_saloadN (hexec : p.tables.exec = Jvm.exec) (hb : c.code = cc) {i : Int32} (hdg : decode cc pc = .ok (.saload, 1)) (k : vx_NoteN p l e R s m args below meth c H locs cells slots Q (F0 m pc ls rest)) : W p l e R s m args below meth c H locs cells slots Q (F0 m pc ls (.int i :: .null :: rest)) := by
  intro T hT X
  obtain ⟨t, st, q⟩ := k T hT X
  exact ⟨t, X.saloadNull hexec (g := F0 m pc ls (.int i :: .null :: rest)) rfl (rest := rest) rfl (by rw [hb]; exact hdg) t st, q⟩
theorem vx_iastoreN (hexec : p.tables.exec = Jvm.exec) (hb : c.code = cc) {x : Int32} {i : Int32} (hdg : decode cc pc = .ok (.iastore, 1)) (k : vx_NoteN p l e R s m args below meth c H locs cells slots Q (F0 m pc ls rest)) : W p l e R s m args below meth c H locs cells slots Q (F0 m pc ls (.int x :: .int i :: .null :: rest)) := by
  intro T hT X
  obtain ⟨t, st, q⟩ := k T hT X
  exact ⟨t, X.iastoreNull hexec (g := F0 m pc ls (.int x :: .int i :: .null :: rest)) rfl (rest := rest) rfl (by rw [hb]; exact hdg) t st, q⟩
theorem vx_lastoreN (hexec : p.tables.exec = Jvm.exec) (hb : c.code = cc) {x : Int64} {i : Int32} (hdg : decode cc pc = .ok (.lastore, 1)) (k : vx_NoteN p l e R s m args below meth c H locs cells slots Q (F0 m pc ls rest)) : W p l e R s m args below meth c H locs cells slots Q (F0 m pc ls (.long x :: .int i :: .null :: rest)) := by
  intro T hT X
  obtain ⟨t, st, q⟩ := k T hT X
  exact ⟨t, X.lastoreNull hexec (g := F0 m pc ls (.long x :: .int i :: .null :: rest)) rfl (rest := rest) rfl (by rw [hb]; exact hdg) t st, q⟩
theorem vx_fastoreN (hexec : p.tables.exec = Jvm.exec) (hb : c.code = cc) {x : UInt32} {i : Int32} (hdg : decode cc pc = .ok (.fastore, 1)) (k : vx_NoteN p l e R s m args below meth c H locs cells slots Q (F0 m pc ls rest)) : W p l e R s m args below meth c H locs cells slots Q (F0 m pc ls (.float x :: .int i :: .null :: rest)) := by
  intro T hT X
  obtain ⟨t, st, q⟩ := k T hT X
  exact ⟨t, X.fastoreNull hexec (g := F0 m pc ls (.float x :: .int i :: .null :: rest)) rfl (rest := rest) rfl (by rw [hb]; exact hdg) t st, q⟩
theorem vx_dastoreN (hexec : p.tables.exec = Jvm.exec) (hb : c.code = cc) {x : UInt64} {i : Int32} (hdg : decode cc pc = .ok (.dastore, 1)) (k : vx_NoteN p l e R s m args below meth c H locs cells slots Q (F0 m pc ls rest)) : W p l e R s m args below meth c H locs cells slots Q (F0 m pc ls (.double x :: .int i :: .null :: rest)) := by
  intro T hT X
  obtain ⟨t, st, q⟩ := k T hT X
  exact ⟨t, X.dastoreNull hexec (g := F0 m pc ls (.double x :: .int i :: .null :: rest)) rfl (rest := rest) rfl (by rw [hb]; exact hdg) t st, q⟩
theorem vx_bastoreN (hexec : p.tables.exec = Jvm.exec) (hb : c.code = cc) {x : Int32} {i : Int32} (hdg : decode cc pc = .ok (.bastore, 1)) (k : vx_NoteN p l e R s m args below meth c H locs cells slots Q (F0 m pc ls rest)) : W p l e R s m args below meth c H locs cells slots Q (F0 m pc ls (.int x :: .int i :: .null :: rest)) := by
  intro T hT X
  obtain ⟨t, st, q⟩ := k T hT X
  exact ⟨t, X.bastoreNull hexec (g := F0 m pc ls (.int x :: .int i :: .null :: rest)) rfl (rest := rest) rfl (by rw [hb]; exact hdg) t st, q⟩
theorem vx_castoreN (hexec : p.tables.exec = Jvm.exec) (hb : c.code = cc) {x : Int32} {i : Int32} (hdg : decode cc pc = .ok (.castore, 1)) (k : vx_NoteN p l e R s m args below meth c H locs cells slots Q (F0 m pc ls rest)) : W p l e R s m args below meth c H locs cells slots Q (F0 m pc ls (.int x :: .int i :: .null :: rest)) := by
  intro T hT X
  obtain ⟨t, st, q⟩ := k T hT X
  exact ⟨t, X.castoreNull hexec (g := F0 m pc ls (.int x :: .int i :: .null :: rest)) rfl (rest := rest) rfl (by rw [hb]; exact hdg) t st, q⟩
theorem vx_sastoreN (hexec : p.tables.exec = Jvm.exec) (hb : c.code = cc) {x : Int32} {i : Int32} (hdg : decode cc pc = .ok (.sastore, 1)) (k : vx_NoteN p l e R s m args below meth c H locs cells slots Q (F0 m pc ls rest)) : W p l e R s m args below meth c H locs cells slots Q (F0 m pc ls (.int x :: .int i :: .null :: rest)) := by
  intro T hT X
  obtain ⟨t, st, q⟩ := k T hT X
  exact ⟨t, X.sastoreNull hexec (g := F0 m pc ls (.int x :: .int i :: .null :: rest)) rfl (rest := rest) rfl (by rw [hb]; exact hdg) t st, q⟩
theorem vx_invokeN {own C : String} {index maxL : Nat} {y : MethodName} {bytes : ByteArray} {ret : Option FieldType} (hexec : p.tables.exec = Jvm.exec) (hb : c.code = cc) (hown : s.vm.findClass own = some m.cls) (hlink : (Cond.methodLink own index y).before args s = true) (hinst : (Cond.instanceMethod y).before args s = true) (hcode : (Cond.code y bytes maxL ret).before args s = true) (hsel : (Cond.selects C y y).before args s = true)
    (hx : y.cls ≠ "java/lang/invoke/MethodHandle" ∧ y.cls ≠ "java/lang/invoke/VarHandle") {As : List Value} (hlen : (parseMethodDescriptor y.desc).map (fun d => d.parameters.length) = some As.length) (hdg : decode cc pc = .ok (.invokevirtual index, 3))
    (k : vx_NoteN p l e R s m args below meth c H locs cells slots Q (F0 m pc ls rest)) {st0 : List Value} (hst : st0 = As.reverse ++ .null :: rest) : W p l e R s m args below meth c H locs cells slots Q (F0 m pc ls st0) := by
  intro T hT X
  obtain ⟨r0, r, hn, hrm, hstR, hsigR⟩ := va_Decl.of hinst hcode
  obtain ⟨c2, r2, m2, q1, q2, q3, q4, kP, hkP, hkPi⟩ := Cond.selects_spec hsel
  cases hn.symm.trans q3
  have hl9 : As.length = r.sig.parameters.length := by
    rw [hsigR] at hlen
    exact (Option.some.inj hlen).symm
  obtain ⟨vm', X1, st1⟩ := X.invokevirtualNull hexec hown hlink hn hrm hstR hkP hkPi hx (g := F0 m pc ls st0) rfl (argsL := As) (rest := rest) hl9 hst (by rw [hb]; exact hdg)
  obtain ⟨t, st, q⟩ := k (T.setVm vm') hT X1
  exact ⟨t, st1 t st, q⟩
theorem vx_newarrayZ {atype : ArrayType} (hexec : p.tables.exec = Jvm.exec) (hb : c.code = cc) {n : Int32} (h0 : n < 0) (hdg : decode cc pc = .ok (.newarray atype, 2)) (k : ∀ tx : String, tx = toString n → vx_Note p l e R s m args below meth c H locs cells slots Q (F0 m pc ls rest) "java/lang/NegativeArraySizeException" tx) : W p l e R s m args below meth c H locs cells slots Q (F0 m pc ls (.int n :: rest)) := by
  intro T hT X
  obtain ⟨t, st, q⟩ := k _ rfl T hT X
  exact ⟨t, X.newarrayNegative hexec (g := F0 m pc ls (.int n :: rest)) rfl h0 (rest := rest) rfl (by rw [hb]; exact hdg) t st, q⟩
end
end VXM
/-! ===== END ===== -/

/-! ===== BEGIN printed: names, fields, word lists, decode rows ===== -/
def RX0 : String := "MagnetColony$Changes"
def TX0 : u_T := fun k => match k with
  | 0 => ("MagnetColony$Changes", "colony", "LMagnetColony$Colony;", true)
  | 1 => ("MagnetColony$Changes", "survey", "LMagnetColony$Survey;", true)
  | 2 => ("MagnetColony$Changes", "forces", "LMagnetColony$Forces;", true)
  | _ => ("MagnetColony$Changes", "detail", "I", false)
def tyX0 : Nat → FieldType := fun k => match k with
  | 0 => .object "MagnetColony$Colony"
  | 1 => .object "MagnetColony$Survey"
  | 2 => .object "MagnetColony$Forces"
  | _ => .int
abbrev wsX00 : List Cond := u_ws RX0 TX0 4
theorem nmX0 : ∀ a, a < 4 → ∀ b, b < 4 → a ≠ b → (TX0 a).2.1 ≠ (TX0 b).2.1 := by decide +kernel
theorem tyX0_ok : ∀ k, k < 4 → parseFieldDescriptor (TX0 k).2.2.1 = some (tyX0 k) := by decide +kernel
abbrev cX0_init : ByteArray := prog_2_method_1_code
def yX0_init : MethodName := ⟨RX0, "<init>", "(LMagnetColony$Colony;LMagnetColony$Survey;LMagnetColony$Forces;)V"⟩
abbrev cX0_judge : ByteArray := prog_2_method_2_code
def yX0_judge : MethodName := ⟨RX0, "judge", "(III)I"⟩
abbrev cX0_judgeAdding : ByteArray := prog_2_method_3_code
def yX0_judgeAdding : MethodName := ⟨RX0, "judgeAdding", "(II)I"⟩
abbrev cX0_judgeStrength : ByteArray := prog_2_method_4_code
def yX0_judgeStrength : MethodName := ⟨RX0, "judgeStrength", "(II)I"⟩
abbrev cX0_judgeDigging : ByteArray := prog_2_method_5_code
def yX0_judgeDigging : MethodName := ⟨RX0, "judgeDigging", "(II)I"⟩
abbrev cX0_judgeSettling : ByteArray := prog_2_method_6_code
def yX0_judgeSettling : MethodName := ⟨RX0, "judgeSettling", "()I"⟩
abbrev cX0_deny : ByteArray := prog_2_method_7_code
def yX0_deny : MethodName := ⟨RX0, "deny", "(II)I"⟩
abbrev cX0_carryOut : ByteArray := prog_2_method_8_code
def yX0_carryOut : MethodName := ⟨RX0, "carryOut", "(IIII)I"⟩
def RX1 : String := "MagnetColony$Colony"
def TX1 : u_T := fun k => match k with
  | 0 => ("MagnetColony$Colony", "magnets", "I", false)
  | 1 => ("MagnetColony$Colony", "positions", "[I", true)
  | 2 => ("MagnetColony$Colony", "strengths", "[I", true)
  | 3 => ("MagnetColony$Colony", "turns", "[I", true)
  | 4 => ("MagnetColony$Colony", "norths", "I", false)
  | 5 => ("MagnetColony$Colony", "tunnels", "I", false)
  | 6 => ("MagnetColony$Colony", "firsts", "[I", true)
  | 7 => ("MagnetColony$Colony", "seconds", "[I", true)
  | 8 => ("MagnetColony$Colony", "allTurns", "I", false)
  | _ => ("MagnetColony$Colony", "allMoves", "I", false)
def tyX1 : Nat → FieldType := fun k => match k with
  | 0 => .int
  | 1 => .array .int
  | 2 => .array .int
  | 3 => .array .int
  | 4 => .int
  | 5 => .int
  | 6 => .array .int
  | 7 => .array .int
  | 8 => .int
  | _ => .int
abbrev wsX10 : List Cond := u_ws RX1 TX1 10
theorem nmX1 : ∀ a, a < 10 → ∀ b, b < 10 → a ≠ b → (TX1 a).2.1 ≠ (TX1 b).2.1 := by decide +kernel
theorem tyX1_ok : ∀ k, k < 10 → parseFieldDescriptor (TX1 k).2.2.1 = some (tyX1 k) := by decide +kernel
abbrev cX1_init : ByteArray := prog_3_method_1_code
def yX1_init : MethodName := ⟨RX1, "<init>", "()V"⟩
abbrev cX1_copyFrom : ByteArray := prog_3_method_2_code
def yX1_copyFrom : MethodName := ⟨RX1, "copyFrom", "(LMagnetColony$Colony;)V"⟩
abbrev cX1_hasMagnet : ByteArray := prog_3_method_3_code
def yX1_hasMagnet : MethodName := ⟨RX1, "hasMagnet", "(I)Z"⟩
abbrev cX1_hasTunnel : ByteArray := prog_3_method_4_code
def yX1_hasTunnel : MethodName := ⟨RX1, "hasTunnel", "(I)Z"⟩
abbrev cX1_magnetOn : ByteArray := prog_3_method_5_code
def yX1_magnetOn : MethodName := ⟨RX1, "magnetOn", "(I)I"⟩
abbrev cX1_magnetOfRank : ByteArray := prog_3_method_6_code
def yX1_magnetOfRank : MethodName := ⟨RX1, "magnetOfRank", "(I)I"⟩
abbrev cX1_rankOf : ByteArray := prog_3_method_7_code
def yX1_rankOf : MethodName := ⟨RX1, "rankOf", "(I)I"⟩
abbrev cX1_poleSign : ByteArray := prog_3_method_8_code
def yX1_poleSign : MethodName := ⟨RX1, "poleSign", "(I)C"⟩
abbrev cX1_sumOfStrengths : ByteArray := prog_3_method_9_code
def yX1_sumOfStrengths : MethodName := ⟨RX1, "sumOfStrengths", "()I"⟩
abbrev cX1_place : ByteArray := prog_3_method_10_code
def yX1_place : MethodName := ⟨RX1, "place", "(IIZ)I"⟩
abbrev cX1_strengthen : ByteArray := prog_3_method_11_code
def yX1_strengthen : MethodName := ⟨RX1, "strengthen", "(II)I"⟩
abbrev cX1_turnFrom : ByteArray := prog_3_method_12_code
def yX1_turnFrom : MethodName := ⟨RX1, "turnFrom", "(I)I"⟩
abbrev cX1_turnSet : ByteArray := prog_3_method_13_code
def yX1_turnSet : MethodName := ⟨RX1, "turnSet", "(I)I"⟩
abbrev cX1_tunnelBetween : ByteArray := prog_3_method_14_code
def yX1_tunnelBetween : MethodName := ⟨RX1, "tunnelBetween", "(II)I"⟩
abbrev cX1_otherEnd : ByteArray := prog_3_method_15_code
def yX1_otherEnd : MethodName := ⟨RX1, "otherEnd", "(II)I"⟩
abbrev cX1_hasUnlikePoles : ByteArray := prog_3_method_16_code
def yX1_hasUnlikePoles : MethodName := ⟨RX1, "hasUnlikePoles", "(I)Z"⟩
abbrev cX1_isBlockedWith : ByteArray := prog_3_method_17_code
def yX1_isBlockedWith : MethodName := ⟨RX1, "isBlockedWith", "(II)Z"⟩
abbrev cX1_countBlocked : ByteArray := prog_3_method_18_code
def yX1_countBlocked : MethodName := ⟨RX1, "countBlocked", "()I"⟩
abbrev cX1_countBlockedWith : ByteArray := prog_3_method_19_code
def yX1_countBlockedWith : MethodName := ⟨RX1, "countBlockedWith", "(I)I"⟩
abbrev cX1_join : ByteArray := prog_3_method_20_code
def yX1_join : MethodName := ⟨RX1, "join", "(II)I"⟩
abbrev cX1_remove : ByteArray := prog_3_method_21_code
def yX1_remove : MethodName := ⟨RX1, "remove", "(I)I"⟩
def RX2 : String := "MagnetColony$Command"
def TX2 : u_T := fun k => match k with
  | 0 => ("MagnetColony$Command", "kind", "I", false)
  | 1 => ("MagnetColony$Command", "first", "I", false)
  | 2 => ("MagnetColony$Command", "second", "I", false)
  | _ => ("MagnetColony$Command", "third", "I", false)
def tyX2 : Nat → FieldType := fun k => match k with
  | 0 => .int
  | 1 => .int
  | 2 => .int
  | _ => .int
abbrev wsX20 : List Cond := u_ws RX2 TX2 4
theorem nmX2 : ∀ a, a < 4 → ∀ b, b < 4 → a ≠ b → (TX2 a).2.1 ≠ (TX2 b).2.1 := by decide +kernel
theorem tyX2_ok : ∀ k, k < 4 → parseFieldDescriptor (TX2 k).2.2.1 = some (tyX2 k) := by decide +kernel
abbrev cX2_init : ByteArray := prog_4_method_1_code
def yX2_init : MethodName := ⟨RX2, "<init>", "()V"⟩
abbrev cX2_setParameter : ByteArray := prog_4_method_2_code
def yX2_setParameter : MethodName := ⟨RX2, "setParameter", "(II)V"⟩
def RX3 : String := "MagnetColony$Forces"
def TX3 : u_T := fun k => match k with
  | _ => ("MagnetColony$Forces", "colony", "LMagnetColony$Colony;", true)
def tyX3 : Nat → FieldType := fun k => match k with
  | _ => .object "MagnetColony$Colony"
abbrev wsX30 : List Cond := u_ws RX3 TX3 1
theorem nmX3 : ∀ a, a < 1 → ∀ b, b < 1 → a ≠ b → (TX3 a).2.1 ≠ (TX3 b).2.1 := by decide +kernel
theorem tyX3_ok : ∀ k, k < 1 → parseFieldDescriptor (TX3 k).2.2.1 = some (tyX3 k) := by decide +kernel
abbrev cX3_init : ByteArray := prog_5_method_1_code
def yX3_init : MethodName := ⟨RX3, "<init>", "(LMagnetColony$Colony;)V"⟩
abbrev cX3_forceOn : ByteArray := prog_5_method_2_code
def yX3_forceOn : MethodName := ⟨RX3, "forceOn", "(I)F"⟩
abbrev cX3_moveEach : ByteArray := prog_5_method_3_code
def yX3_moveEach : MethodName := ⟨RX3, "moveEach", "()I"⟩
abbrev cX3_targetOf : ByteArray := prog_5_method_4_code
def yX3_targetOf : MethodName := ⟨RX3, "targetOf", "(I)I"⟩
abbrev cX3_fieldAt : ByteArray := prog_5_method_5_code
def yX3_fieldAt : MethodName := ⟨RX3, "fieldAt", "(I)D"⟩
abbrev cX3_unsignedFieldAt : ByteArray := prog_5_method_6_code
def yX3_unsignedFieldAt : MethodName := ⟨RX3, "unsignedFieldAt", "(I)D"⟩
abbrev cX3_positionOfStrongestField : ByteArray := prog_5_method_7_code
def yX3_positionOfStrongestField : MethodName := ⟨RX3, "positionOfStrongestField", "()I"⟩
abbrev cX3_magnetInStrongestField : ByteArray := prog_5_method_8_code
def yX3_magnetInStrongestField : MethodName := ⟨RX3, "magnetInStrongestField", "()I"⟩
def RX4 : String := "MagnetColony$History"
def TX4 : u_T := fun k => match k with
  | 0 => ("MagnetColony$History", "ring", "[LMagnetColony$Colony;", true)
  | 1 => ("MagnetColony$History", "next", "I", false)
  | _ => ("MagnetColony$History", "size", "I", false)
def tyX4 : Nat → FieldType := fun k => match k with
  | 0 => .array (.object "MagnetColony$Colony")
  | 1 => .int
  | _ => .int
abbrev wsX40 : List Cond := u_ws RX4 TX4 3
theorem nmX4 : ∀ a, a < 3 → ∀ b, b < 3 → a ≠ b → (TX4 a).2.1 ≠ (TX4 b).2.1 := by decide +kernel
theorem tyX4_ok : ∀ k, k < 3 → parseFieldDescriptor (TX4 k).2.2.1 = some (tyX4 k) := by decide +kernel
abbrev cX4_init : ByteArray := prog_6_method_1_code
def yX4_init : MethodName := ⟨RX4, "<init>", "()V"⟩
abbrev cX4_push : ByteArray := prog_6_method_2_code
def yX4_push : MethodName := ⟨RX4, "push", "(LMagnetColony$Colony;)V"⟩
abbrev cX4_popInto : ByteArray := prog_6_method_3_code
def yX4_popInto : MethodName := ⟨RX4, "popInto", "(LMagnetColony$Colony;)V"⟩
abbrev cX4_forgetAll : ByteArray := prog_6_method_4_code
def yX4_forgetAll : MethodName := ⟨RX4, "forgetAll", "()V"⟩
def RX5 : String := "MagnetColony$Line"
def TX5 : u_T := fun k => match k with
  | 0 => ("MagnetColony$Line", "characters", "[C", true)
  | _ => ("MagnetColony$Line", "length", "I", false)
def tyX5 : Nat → FieldType := fun k => match k with
  | 0 => .array .char
  | _ => .int
abbrev wsX50 : List Cond := u_ws RX5 TX5 2
theorem nmX5 : ∀ a, a < 2 → ∀ b, b < 2 → a ≠ b → (TX5 a).2.1 ≠ (TX5 b).2.1 := by decide +kernel
theorem tyX5_ok : ∀ k, k < 2 → parseFieldDescriptor (TX5 k).2.2.1 = some (tyX5 k) := by decide +kernel
abbrev cX5_init : ByteArray := prog_7_method_1_code
def yX5_init : MethodName := ⟨RX5, "<init>", "()V"⟩
abbrev cX5_describe : ByteArray := prog_7_method_2_code
def yX5_describe : MethodName := ⟨RX5, "describe", "(LMagnetColony$Colony;I)V"⟩
abbrev cX5_putNumber : ByteArray := prog_7_method_3_code
def yX5_putNumber : MethodName := ⟨RX5, "putNumber", "(I)V"⟩
abbrev cX5_put : ByteArray := prog_7_method_4_code
def yX5_put : MethodName := ⟨RX5, "put", "(C)V"⟩
def RX6 : String := "MagnetColony$Survey"
def TX6 : u_T := fun k => match k with
  | 0 => ("MagnetColony$Survey", "colony", "LMagnetColony$Colony;", true)
  | 1 => ("MagnetColony$Survey", "labels", "[I", true)
  | 2 => ("MagnetColony$Survey", "distances", "[I", true)
  | 3 => ("MagnetColony$Survey", "numbers", "[I", true)
  | 4 => ("MagnetColony$Survey", "lowest", "[I", true)
  | 5 => ("MagnetColony$Survey", "givenNorths", "I", false)
  | 6 => ("MagnetColony$Survey", "lastNumber", "I", false)
  | _ => ("MagnetColony$Survey", "bridgesFound", "I", false)
def tyX6 : Nat → FieldType := fun k => match k with
  | 0 => .object "MagnetColony$Colony"
  | 1 => .array .int
  | 2 => .array .int
  | 3 => .array .int
  | 4 => .array .int
  | 5 => .int
  | 6 => .int
  | _ => .int
abbrev wsX60 : List Cond := u_ws RX6 TX6 8
theorem nmX6 : ∀ a, a < 8 → ∀ b, b < 8 → a ≠ b → (TX6 a).2.1 ≠ (TX6 b).2.1 := by decide +kernel
theorem tyX6_ok : ∀ k, k < 8 → parseFieldDescriptor (TX6 k).2.2.1 = some (tyX6 k) := by decide +kernel
abbrev cX6_init : ByteArray := prog_8_method_1_code
def yX6_init : MethodName := ⟨RX6, "<init>", "(LMagnetColony$Colony;)V"⟩
abbrev cX6_countParts : ByteArray := prog_8_method_2_code
def yX6_countParts : MethodName := ⟨RX6, "countParts", "(I)I"⟩
abbrev cX6_separateLabels : ByteArray := prog_8_method_3_code
def yX6_separateLabels : MethodName := ⟨RX6, "separateLabels", "()V"⟩
abbrev cX6_unite : ByteArray := prog_8_method_4_code
def yX6_unite : MethodName := ⟨RX6, "unite", "(II)Z"⟩
abbrev cX6_shortestWalk : ByteArray := prog_8_method_5_code
def yX6_shortestWalk : MethodName := ⟨RX6, "shortestWalk", "(II)I"⟩
abbrev cX6_walkOn : ByteArray := prog_8_method_6_code
def yX6_walkOn : MethodName := ⟨RX6, "walkOn", "(III)V"⟩
abbrev cX6_countBridges : ByteArray := prog_8_method_7_code
def yX6_countBridges : MethodName := ⟨RX6, "countBridges", "()I"⟩
abbrev cX6_explore : ByteArray := prog_8_method_8_code
def yX6_explore : MethodName := ⟨RX6, "explore", "(LMagnetColony$Survey;III)V"⟩
abbrev cX6_numberMagnet : ByteArray := prog_8_method_9_code
def yX6_numberMagnet : MethodName := ⟨RX6, "numberMagnet", "(I)V"⟩
abbrev cX6_reachNumber : ByteArray := prog_8_method_10_code
def yX6_reachNumber : MethodName := ⟨RX6, "reachNumber", "(II)V"⟩
abbrev cX6_countBridgesByFilling : ByteArray := prog_8_method_11_code
def yX6_countBridgesByFilling : MethodName := ⟨RX6, "countBridgesByFilling", "()I"⟩
abbrev cX6_canUniteCounterparts : ByteArray := prog_8_method_12_code
def yX6_canUniteCounterparts : MethodName := ⟨RX6, "canUniteCounterparts", "()Z"⟩
abbrev cX6_bestTurnSet : ByteArray := prog_8_method_13_code
def yX6_bestTurnSet : MethodName := ⟨RX6, "bestTurnSet", "()I"⟩
abbrev cX6_givePolesFrom : ByteArray := prog_8_method_14_code
def yX6_givePolesFrom : MethodName := ⟨RX6, "givePolesFrom", "(I)I"⟩
abbrev cX6_bestTurnSetOf : ByteArray := prog_8_method_15_code
def yX6_bestTurnSetOf : MethodName := ⟨RX6, "bestTurnSetOf", "(II)I"⟩
abbrev cX6_bestTurnSetSize : ByteArray := prog_8_method_16_code
def yX6_bestTurnSetSize : MethodName := ⟨RX6, "bestTurnSetSize", "()I"⟩
abbrev cX6_smallestSettlingSet : ByteArray := prog_8_method_17_code
def yX6_smallestSettlingSet : MethodName := ⟨RX6, "smallestSettlingSet", "()I"⟩
abbrev cX6_leastBlockedOfSets : ByteArray := prog_8_method_18_code
def yX6_leastBlockedOfSets : MethodName := ⟨RX6, "leastBlockedOfSets", "()I"⟩
abbrev cX6_leastBlockedWithinBounds : ByteArray := prog_8_method_19_code
def yX6_leastBlockedWithinBounds : MethodName := ⟨RX6, "leastBlockedWithinBounds", "()I"⟩
abbrev cX6_bound : ByteArray := prog_8_method_20_code
def yX6_bound : MethodName := ⟨RX6, "bound", "(LMagnetColony$Survey;IIII)I"⟩
abbrev cX6_blockedToEarlier : ByteArray := prog_8_method_21_code
def yX6_blockedToEarlier : MethodName := ⟨RX6, "blockedToEarlier", "(II)I"⟩
def RX7 : String := "MagnetColony$Text"
def TX7 : u_T := fun k => match k with
  | 0 => ("MagnetColony$Text", "characters", "[C", true)
  | 1 => ("MagnetColony$Text", "length", "I", false)
  | 2 => ("MagnetColony$Text", "commands", "[LMagnetColony$Command;", true)
  | 3 => ("MagnetColony$Text", "commandCount", "I", false)
  | _ => ("MagnetColony$Text", "fault", "I", false)
def tyX7 : Nat → FieldType := fun k => match k with
  | 0 => .array .char
  | 1 => .int
  | 2 => .array (.object "MagnetColony$Command")
  | 3 => .int
  | _ => .int
abbrev wsX70 : List Cond := u_ws RX7 TX7 5
theorem nmX7 : ∀ a, a < 5 → ∀ b, b < 5 → a ≠ b → (TX7 a).2.1 ≠ (TX7 b).2.1 := by decide +kernel
theorem tyX7_ok : ∀ k, k < 5 → parseFieldDescriptor (TX7 k).2.2.1 = some (tyX7 k) := by decide +kernel
abbrev cX7_init : ByteArray := prog_9_method_1_code
def yX7_init : MethodName := ⟨RX7, "<init>", "()V"⟩
abbrev cX7_hasRoom : ByteArray := prog_9_method_2_code
def yX7_hasRoom : MethodName := ⟨RX7, "hasRoom", "()Z"⟩
abbrev cX7_append : ByteArray := prog_9_method_3_code
def yX7_append : MethodName := ⟨RX7, "append", "(C)V"⟩
abbrev cX7_clear : ByteArray := prog_9_method_4_code
def yX7_clear : MethodName := ⟨RX7, "clear", "()V"⟩
abbrev cX7_parse : ByteArray := prog_9_method_5_code
def yX7_parse : MethodName := ⟨RX7, "parse", "()Z"⟩
abbrev cX7_parseCommand : ByteArray := prog_9_method_6_code
def yX7_parseCommand : MethodName := ⟨RX7, "parseCommand", "(ILMagnetColony$Command;)I"⟩
abbrev cX7_shapeOf : ByteArray := prog_9_method_7_code
def yX7_shapeOf : MethodName := ⟨RX7, "shapeOf", "(I)Ljava/lang/String;"⟩
abbrev cX7_matchKind : ByteArray := prog_9_method_8_code
def yX7_matchKind : MethodName := ⟨RX7, "matchKind", "(IILMagnetColony$Command;)I"⟩
abbrev cX7_widthOf : ByteArray := prog_9_method_9_code
def yX7_widthOf : MethodName := ⟨RX7, "widthOf", "(CI)I"⟩
abbrev cX7_isDigitAt : ByteArray := prog_9_method_10_code
def yX7_isDigitAt : MethodName := ⟨RX7, "isDigitAt", "(I)Z"⟩
abbrev cX7_hasAt : ByteArray := prog_9_method_11_code
def yX7_hasAt : MethodName := ⟨RX7, "hasAt", "(IC)Z"⟩
abbrev cX7_valueOf : ByteArray := prog_9_method_12_code
def yX7_valueOf : MethodName := ⟨RX7, "valueOf", "(CII)I"⟩
def RX8 : String := "MagnetColony"
def TX8 : u_T := fun k => match k with
  | 0 => ("MagnetColony", "colony", "LMagnetColony$Colony;", true)
  | 1 => ("MagnetColony", "survey", "LMagnetColony$Survey;", true)
  | 2 => ("MagnetColony", "forces", "LMagnetColony$Forces;", true)
  | 3 => ("MagnetColony", "changes", "LMagnetColony$Changes;", true)
  | 4 => ("MagnetColony", "history", "LMagnetColony$History;", true)
  | 5 => ("MagnetColony", "beforeText", "LMagnetColony$Colony;", true)
  | 6 => ("MagnetColony", "snapshot", "LMagnetColony$Colony;", true)
  | 7 => ("MagnetColony", "text", "LMagnetColony$Text;", true)
  | 8 => ("MagnetColony", "line", "LMagnetColony$Line;", true)
  | 9 => ("MagnetColony", "hasSnapshot", "Z", false)
  | 10 => ("MagnetColony", "keptFault", "I", false)
  | 11 => ("MagnetColony", "deniedNumber", "I", false)
  | 12 => ("MagnetColony", "deniedDetail", "I", false)
  | _ => ("MagnetColony", "deniedCause", "I", false)
def tyX8 : Nat → FieldType := fun k => match k with
  | 0 => .object "MagnetColony$Colony"
  | 1 => .object "MagnetColony$Survey"
  | 2 => .object "MagnetColony$Forces"
  | 3 => .object "MagnetColony$Changes"
  | 4 => .object "MagnetColony$History"
  | 5 => .object "MagnetColony$Colony"
  | 6 => .object "MagnetColony$Colony"
  | 7 => .object "MagnetColony$Text"
  | 8 => .object "MagnetColony$Line"
  | 9 => .boolean
  | 10 => .int
  | 11 => .int
  | 12 => .int
  | _ => .int
abbrev wsX80 : List Cond := u_ws RX8 TX8 14
theorem nmX8 : ∀ a, a < 14 → ∀ b, b < 14 → a ≠ b → (TX8 a).2.1 ≠ (TX8 b).2.1 := by decide +kernel
theorem tyX8_ok : ∀ k, k < 14 → parseFieldDescriptor (TX8 k).2.2.1 = some (tyX8 k) := by decide +kernel
abbrev cX8_init : ByteArray := prog_1_method_1_code
def yX8_init : MethodName := ⟨RX8, "<init>", "()V"⟩
abbrev cX8_addMagnet : ByteArray := prog_1_method_2_code
def yX8_addMagnet : MethodName := ⟨RX8, "addMagnet", "(IIZ)I"⟩
abbrev cX8_setStrength : ByteArray := prog_1_method_3_code
def yX8_setStrength : MethodName := ⟨RX8, "setStrength", "(II)I"⟩
abbrev cX8_turn : ByteArray := prog_1_method_4_code
def yX8_turn : MethodName := ⟨RX8, "turn", "(I)I"⟩
abbrev cX8_shift : ByteArray := prog_1_method_5_code
def yX8_shift : MethodName := ⟨RX8, "shift", "(I)I"⟩
abbrev cX8_move : ByteArray := prog_1_method_6_code
def yX8_move : MethodName := ⟨RX8, "move", "()I"⟩
abbrev cX8_magnetCount : ByteArray := prog_1_method_7_code
def yX8_magnetCount : MethodName := ⟨RX8, "magnetCount", "()I"⟩
abbrev cX8_position : ByteArray := prog_1_method_8_code
def yX8_position : MethodName := ⟨RX8, "position", "(I)I"⟩
abbrev cX8_strength : ByteArray := prog_1_method_9_code
def yX8_strength : MethodName := ⟨RX8, "strength", "(I)I"⟩
abbrev cX8_pole : ByteArray := prog_1_method_10_code
def yX8_pole : MethodName := ⟨RX8, "pole", "(I)C"⟩
abbrev cX8_magnetAt : ByteArray := prog_1_method_11_code
def yX8_magnetAt : MethodName := ⟨RX8, "magnetAt", "(I)I"⟩
abbrev cX8_magnetByStrength : ByteArray := prog_1_method_12_code
def yX8_magnetByStrength : MethodName := ⟨RX8, "magnetByStrength", "(I)I"⟩
abbrev cX8_dig : ByteArray := prog_1_method_13_code
def yX8_dig : MethodName := ⟨RX8, "dig", "(II)I"⟩
abbrev cX8_fill : ByteArray := prog_1_method_14_code
def yX8_fill : MethodName := ⟨RX8, "fill", "(I)I"⟩
abbrev cX8_settle : ByteArray := prog_1_method_15_code
def yX8_settle : MethodName := ⟨RX8, "settle", "()I"⟩
abbrev cX8_tunnelCount : ByteArray := prog_1_method_16_code
def yX8_tunnelCount : MethodName := ⟨RX8, "tunnelCount", "()I"⟩
abbrev cX8_isOpen : ByteArray := prog_1_method_17_code
def yX8_isOpen : MethodName := ⟨RX8, "isOpen", "(I)Z"⟩
abbrev cX8_blocked : ByteArray := prog_1_method_18_code
def yX8_blocked : MethodName := ⟨RX8, "blocked", "()I"⟩
abbrev cX8_parts : ByteArray := prog_1_method_19_code
def yX8_parts : MethodName := ⟨RX8, "parts", "()I"⟩
abbrev cX8_walk : ByteArray := prog_1_method_20_code
def yX8_walk : MethodName := ⟨RX8, "walk", "(II)I"⟩
abbrev cX8_bridges : ByteArray := prog_1_method_21_code
def yX8_bridges : MethodName := ⟨RX8, "bridges", "()I"⟩
abbrev cX8_bridgesByFilling : ByteArray := prog_1_method_22_code
def yX8_bridgesByFilling : MethodName := ⟨RX8, "bridgesByFilling", "()I"⟩
abbrev cX8_canSettle : ByteArray := prog_1_method_23_code
def yX8_canSettle : MethodName := ⟨RX8, "canSettle", "()Z"⟩
abbrev cX8_canSettleByUnions : ByteArray := prog_1_method_24_code
def yX8_canSettleByUnions : MethodName := ⟨RX8, "canSettleByUnions", "()Z"⟩
abbrev cX8_fewestTurns : ByteArray := prog_1_method_25_code
def yX8_fewestTurns : MethodName := ⟨RX8, "fewestTurns", "()I"⟩
abbrev cX8_fewestTurnsBySets : ByteArray := prog_1_method_26_code
def yX8_fewestTurnsBySets : MethodName := ⟨RX8, "fewestTurnsBySets", "()I"⟩
abbrev cX8_leastBlocked : ByteArray := prog_1_method_27_code
def yX8_leastBlocked : MethodName := ⟨RX8, "leastBlocked", "()I"⟩
abbrev cX8_leastBlockedByBounds : ByteArray := prog_1_method_28_code
def yX8_leastBlockedByBounds : MethodName := ⟨RX8, "leastBlockedByBounds", "()I"⟩
abbrev cX8_force : ByteArray := prog_1_method_29_code
def yX8_force : MethodName := ⟨RX8, "force", "(I)F"⟩
abbrev cX8_wholeForce : ByteArray := prog_1_method_30_code
def yX8_wholeForce : MethodName := ⟨RX8, "wholeForce", "(I)I"⟩
abbrev cX8_field : ByteArray := prog_1_method_31_code
def yX8_field : MethodName := ⟨RX8, "field", "(I)D"⟩
abbrev cX8_strongestPosition : ByteArray := prog_1_method_32_code
def yX8_strongestPosition : MethodName := ⟨RX8, "strongestPosition", "()I"⟩
abbrev cX8_queen : ByteArray := prog_1_method_33_code
def yX8_queen : MethodName := ⟨RX8, "queen", "()I"⟩
abbrev cX8_meanStrength : ByteArray := prog_1_method_34_code
def yX8_meanStrength : MethodName := ⟨RX8, "meanStrength", "()D"⟩
abbrev cX8_openShare : ByteArray := prog_1_method_35_code
def yX8_openShare : MethodName := ⟨RX8, "openShare", "()F"⟩
abbrev cX8_turnTotal : ByteArray := prog_1_method_36_code
def yX8_turnTotal : MethodName := ⟨RX8, "turnTotal", "()I"⟩
abbrev cX8_turnsOf : ByteArray := prog_1_method_37_code
def yX8_turnsOf : MethodName := ⟨RX8, "turnsOf", "(I)I"⟩
abbrev cX8_moved : ByteArray := prog_1_method_38_code
def yX8_moved : MethodName := ⟨RX8, "moved", "()I"⟩
abbrev cX8_feed : ByteArray := prog_1_method_39_code
def yX8_feed : MethodName := ⟨RX8, "feed", "(C)I"⟩
abbrev cX8_execute : ByteArray := prog_1_method_40_code
def yX8_execute : MethodName := ⟨RX8, "execute", "()I"⟩
abbrev cX8_faultPosition : ByteArray := prog_1_method_41_code
def yX8_faultPosition : MethodName := ⟨RX8, "faultPosition", "()I"⟩
abbrev cX8_writeMagnet : ByteArray := prog_1_method_42_code
def yX8_writeMagnet : MethodName := ⟨RX8, "writeMagnet", "(I)I"⟩
abbrev cX8_lineCharacter : ByteArray := prog_1_method_43_code
def yX8_lineCharacter : MethodName := ⟨RX8, "lineCharacter", "(I)C"⟩
abbrev cX8_denial : ByteArray := prog_1_method_44_code
def yX8_denial : MethodName := ⟨RX8, "denial", "()I"⟩
abbrev cX8_denialDetail : ByteArray := prog_1_method_45_code
def yX8_denialDetail : MethodName := ⟨RX8, "denialDetail", "()I"⟩
abbrev cX8_denialCause : ByteArray := prog_1_method_46_code
def yX8_denialCause : MethodName := ⟨RX8, "denialCause", "()I"⟩
abbrev cX8_undo : ByteArray := prog_1_method_47_code
def yX8_undo : MethodName := ⟨RX8, "undo", "()I"⟩
abbrev cX8_undoCount : ByteArray := prog_1_method_48_code
def yX8_undoCount : MethodName := ⟨RX8, "undoCount", "()I"⟩
abbrev cX8_saveSnapshot : ByteArray := prog_1_method_49_code
def yX8_saveSnapshot : MethodName := ⟨RX8, "saveSnapshot", "()I"⟩
abbrev cX8_restoreSnapshot : ByteArray := prog_1_method_50_code
def yX8_restoreSnapshot : MethodName := ⟨RX8, "restoreSnapshot", "()I"⟩
abbrev cX8_change : ByteArray := prog_1_method_51_code
def yX8_change : MethodName := ⟨RX8, "change", "(IIII)I"⟩
abbrev cX8_refuse : ByteArray := prog_1_method_52_code
def yX8_refuse : MethodName := ⟨RX8, "refuse", "(I)V"⟩
abbrev cX8_causeOf : ByteArray := prog_1_method_53_code
def yX8_causeOf : MethodName := ⟨RX8, "causeOf", "(I)I"⟩
abbrev cX8_keepDenial : ByteArray := prog_1_method_54_code
def yX8_keepDenial : MethodName := ⟨RX8, "keepDenial", "(III)V"⟩
abbrev cX8_isPosition : ByteArray := prog_1_method_55_code
def yX8_isPosition : MethodName := ⟨RX8, "isPosition", "(I)Z"⟩
abbrev cX8_isStrength : ByteArray := prog_1_method_56_code
def yX8_isStrength : MethodName := ⟨RX8, "isStrength", "(I)Z"⟩
abbrev cX8_isIn : ByteArray := prog_1_method_57_code
def yX8_isIn : MethodName := ⟨RX8, "isIn", "(II)Z"⟩
abbrev cX8_requirePosition : ByteArray := prog_1_method_58_code
def yX8_requirePosition : MethodName := ⟨RX8, "requirePosition", "(I)V"⟩
abbrev cX8_requireFound : ByteArray := prog_1_method_59_code
def yX8_requireFound : MethodName := ⟨RX8, "requireFound", "(I)I"⟩
abbrev cX8_requireMagnet : ByteArray := prog_1_method_60_code
def yX8_requireMagnet : MethodName := ⟨RX8, "requireMagnet", "(I)V"⟩
abbrev cX8_requireTunnel : ByteArray := prog_1_method_61_code
def yX8_requireTunnel : MethodName := ⟨RX8, "requireTunnel", "(I)V"⟩
abbrev cX8_requireDenial : ByteArray := prog_1_method_62_code
def yX8_requireDenial : MethodName := ⟨RX8, "requireDenial", "()V"⟩
def RX9 : String := "MagnetColonyModel"
def TX9 : u_T := fun k => match k with
  | 0 => ("MagnetColonyModel", "g", "[I", true)
  | 1 => ("MagnetColonyModel", "kept", "[I", true)
  | 2 => ("MagnetColonyModel", "saved", "[I", true)
  | 3 => ("MagnetColonyModel", "before", "[I", true)
  | 4 => ("MagnetColonyModel", "isSaved", "Z", false)
  | 5 => ("MagnetColonyModel", "changes", "I", false)
  | 6 => ("MagnetColonyModel", "isWithin", "Z", false)
  | 7 => ("MagnetColonyModel", "isDenied", "Z", false)
  | 8 => ("MagnetColonyModel", "code", "I", false)
  | 9 => ("MagnetColonyModel", "why", "I", false)
  | 10 => ("MagnetColonyModel", "detail", "I", false)
  | 11 => ("MagnetColonyModel", "cause", "I", false)
  | 12 => ("MagnetColonyModel", "input", "[I", true)
  | 13 => ("MagnetColonyModel", "length", "I", false)
  | 14 => ("MagnetColonyModel", "fault", "I", false)
  | 15 => ("MagnetColonyModel", "signs", "[C", true)
  | 16 => ("MagnetColonyModel", "signMany", "I", false)
  | 17 => ("MagnetColonyModel", "at", "I", false)
  | 18 => ("MagnetColonyModel", "told", "[I", true)
  | _ => ("MagnetColonyModel", "toldMany", "I", false)
def tyX9 : Nat → FieldType := fun k => match k with
  | 0 => .array .int
  | 1 => .array .int
  | 2 => .array .int
  | 3 => .array .int
  | 4 => .boolean
  | 5 => .int
  | 6 => .boolean
  | 7 => .boolean
  | 8 => .int
  | 9 => .int
  | 10 => .int
  | 11 => .int
  | 12 => .array .int
  | 13 => .int
  | 14 => .int
  | 15 => .array .char
  | 16 => .int
  | 17 => .int
  | 18 => .array .int
  | _ => .int
abbrev wsX90 : List Cond := u_ws RX9 TX9 20
theorem nmX9 : ∀ a, a < 20 → ∀ b, b < 20 → a ≠ b → (TX9 a).2.1 ≠ (TX9 b).2.1 := by decide +kernel
theorem tyX9_ok : ∀ k, k < 20 → parseFieldDescriptor (TX9 k).2.2.1 = some (tyX9 k) := by decide +kernel
abbrev cX9_init : ByteArray := prog_11_method_1_code
def yX9_init : MethodName := ⟨RX9, "<init>", "()V"⟩
abbrev cX9_thrown : ByteArray := prog_11_method_2_code
def yX9_thrown : MethodName := ⟨RX9, "thrown", "()I"⟩
abbrev cX9_fails : ByteArray := prog_11_method_3_code
def yX9_fails : MethodName := ⟨RX9, "fails", "(I)Z"⟩
abbrev cX9_denies : ByteArray := prog_11_method_4_code
def yX9_denies : MethodName := ⟨RX9, "denies", "(III)I"⟩
abbrev cX9_in : ByteArray := prog_11_method_5_code
def yX9_in : MethodName := ⟨RX9, "in", "(III)Z"⟩
abbrev cX9_size : ByteArray := prog_11_method_6_code
def yX9_size : MethodName := ⟨RX9, "size", "(I)I"⟩
abbrev cX9_strong : ByteArray := prog_11_method_7_code
def yX9_strong : MethodName := ⟨RX9, "strong", "(D)D"⟩
abbrev cX9_copies : ByteArray := prog_11_method_8_code
def yX9_copies : MethodName := ⟨RX9, "copies", "([II[II)V"⟩
abbrev cX9_keeps : ByteArray := prog_11_method_9_code
def yX9_keeps : MethodName := ⟨RX9, "keeps", "([I)V"⟩
abbrev cX9_bits : ByteArray := prog_11_method_10_code
def yX9_bits : MethodName := ⟨RX9, "bits", "(I)I"⟩
abbrev cX9_isMagnet : ByteArray := prog_11_method_11_code
def yX9_isMagnet : MethodName := ⟨RX9, "isMagnet", "(I)Z"⟩
abbrev cX9_isNone : ByteArray := prog_11_method_12_code
def yX9_isNone : MethodName := ⟨RX9, "isNone", "(I)Z"⟩
abbrev cX9_of : ByteArray := prog_11_method_13_code
def yX9_of : MethodName := ⟨RX9, "of", "(II)I"⟩
abbrev cX9_lays : ByteArray := prog_11_method_14_code
def yX9_lays : MethodName := ⟨RX9, "lays", "(III)V"⟩
abbrev cX9_found : ByteArray := prog_11_method_15_code
def yX9_found : MethodName := ⟨RX9, "found", "(I)I"⟩
abbrev cX9_addMagnet : ByteArray := prog_11_method_16_code
def yX9_addMagnet : MethodName := ⟨RX9, "addMagnet", "(IIZ)I"⟩
abbrev cX9_setStrength : ByteArray := prog_11_method_17_code
def yX9_setStrength : MethodName := ⟨RX9, "setStrength", "(II)I"⟩
abbrev cX9_turnsOne : ByteArray := prog_11_method_18_code
def yX9_turnsOne : MethodName := ⟨RX9, "turnsOne", "(I)V"⟩
abbrev cX9_turn : ByteArray := prog_11_method_19_code
def yX9_turn : MethodName := ⟨RX9, "turn", "(I)I"⟩
abbrev cX9_shift : ByteArray := prog_11_method_20_code
def yX9_shift : MethodName := ⟨RX9, "shift", "(I)I"⟩
abbrev cX9_pull : ByteArray := prog_11_method_21_code
def yX9_pull : MethodName := ⟨RX9, "pull", "(I)F"⟩
abbrev cX9_move : ByteArray := prog_11_method_22_code
def yX9_move : MethodName := ⟨RX9, "move", "()I"⟩
abbrev cX9_magnetCount : ByteArray := prog_11_method_23_code
def yX9_magnetCount : MethodName := ⟨RX9, "magnetCount", "()I"⟩
abbrev cX9_position : ByteArray := prog_11_method_24_code
def yX9_position : MethodName := ⟨RX9, "position", "(I)I"⟩
abbrev cX9_strength : ByteArray := prog_11_method_25_code
def yX9_strength : MethodName := ⟨RX9, "strength", "(I)I"⟩
abbrev cX9_sign : ByteArray := prog_11_method_26_code
def yX9_sign : MethodName := ⟨RX9, "sign", "(I)C"⟩
abbrev cX9_pole : ByteArray := prog_11_method_27_code
def yX9_pole : MethodName := ⟨RX9, "pole", "(I)C"⟩
abbrev cX9_magnetAt : ByteArray := prog_11_method_28_code
def yX9_magnetAt : MethodName := ⟨RX9, "magnetAt", "(I)I"⟩
abbrev cX9_isAhead : ByteArray := prog_11_method_29_code
def yX9_isAhead : MethodName := ⟨RX9, "isAhead", "(II)Z"⟩
abbrev cX9_magnetByStrength : ByteArray := prog_11_method_30_code
def yX9_magnetByStrength : MethodName := ⟨RX9, "magnetByStrength", "(I)I"⟩
abbrev cX9_isTunnel : ByteArray := prog_11_method_31_code
def yX9_isTunnel : MethodName := ⟨RX9, "isTunnel", "(I)Z"⟩
abbrev cX9_joins : ByteArray := prog_11_method_32_code
def yX9_joins : MethodName := ⟨RX9, "joins", "(II)I"⟩
abbrev cX9_between : ByteArray := prog_11_method_33_code
def yX9_between : MethodName := ⟨RX9, "between", "(II)I"⟩
abbrev cX9_isFree : ByteArray := prog_11_method_34_code
def yX9_isFree : MethodName := ⟨RX9, "isFree", "(II)Z"⟩
abbrev cX9_shut : ByteArray := prog_11_method_35_code
def yX9_shut : MethodName := ⟨RX9, "shut", "(I)I"⟩
abbrev cX9_dig : ByteArray := prog_11_method_36_code
def yX9_dig : MethodName := ⟨RX9, "dig", "(II)I"⟩
abbrev cX9_fill : ByteArray := prog_11_method_37_code
def yX9_fill : MethodName := ⟨RX9, "fill", "(I)I"⟩
abbrev cX9_best : ByteArray := prog_11_method_38_code
def yX9_best : MethodName := ⟨RX9, "best", "()I"⟩
abbrev cX9_settle : ByteArray := prog_11_method_39_code
def yX9_settle : MethodName := ⟨RX9, "settle", "()I"⟩
abbrev cX9_tunnelCount : ByteArray := prog_11_method_40_code
def yX9_tunnelCount : MethodName := ⟨RX9, "tunnelCount", "()I"⟩
abbrev cX9_isOpen : ByteArray := prog_11_method_41_code
def yX9_isOpen : MethodName := ⟨RX9, "isOpen", "(I)Z"⟩
abbrev cX9_blocked : ByteArray := prog_11_method_42_code
def yX9_blocked : MethodName := ⟨RX9, "blocked", "()I"⟩
abbrev cX9_part : ByteArray := prog_11_method_43_code
def yX9_part : MethodName := ⟨RX9, "part", "(II)I"⟩
abbrev cX9_partsWithout : ByteArray := prog_11_method_44_code
def yX9_partsWithout : MethodName := ⟨RX9, "partsWithout", "(I)I"⟩
abbrev cX9_parts : ByteArray := prog_11_method_45_code
def yX9_parts : MethodName := ⟨RX9, "parts", "()I"⟩
abbrev cX9_walk : ByteArray := prog_11_method_46_code
def yX9_walk : MethodName := ⟨RX9, "walk", "(II)I"⟩
abbrev cX9_spans : ByteArray := prog_11_method_47_code
def yX9_spans : MethodName := ⟨RX9, "spans", "()I"⟩
abbrev cX9_bridges : ByteArray := prog_11_method_48_code
def yX9_bridges : MethodName := ⟨RX9, "bridges", "()I"⟩
abbrev cX9_bridgesByFilling : ByteArray := prog_11_method_49_code
def yX9_bridgesByFilling : MethodName := ⟨RX9, "bridgesByFilling", "()I"⟩
abbrev cX9_canSettle : ByteArray := prog_11_method_50_code
def yX9_canSettle : MethodName := ⟨RX9, "canSettle", "()Z"⟩
abbrev cX9_canSettleByUnions : ByteArray := prog_11_method_51_code
def yX9_canSettleByUnions : MethodName := ⟨RX9, "canSettleByUnions", "()Z"⟩
abbrev cX9_fewest : ByteArray := prog_11_method_52_code
def yX9_fewest : MethodName := ⟨RX9, "fewest", "()I"⟩
abbrev cX9_fewestTurns : ByteArray := prog_11_method_53_code
def yX9_fewestTurns : MethodName := ⟨RX9, "fewestTurns", "()I"⟩
abbrev cX9_fewestTurnsBySets : ByteArray := prog_11_method_54_code
def yX9_fewestTurnsBySets : MethodName := ⟨RX9, "fewestTurnsBySets", "()I"⟩
abbrev cX9_leastShut : ByteArray := prog_11_method_55_code
def yX9_leastShut : MethodName := ⟨RX9, "leastShut", "()I"⟩
abbrev cX9_leastBlocked : ByteArray := prog_11_method_56_code
def yX9_leastBlocked : MethodName := ⟨RX9, "leastBlocked", "()I"⟩
abbrev cX9_leastBlockedByBounds : ByteArray := prog_11_method_57_code
def yX9_leastBlockedByBounds : MethodName := ⟨RX9, "leastBlockedByBounds", "()I"⟩
abbrev cX9_force : ByteArray := prog_11_method_58_code
def yX9_force : MethodName := ⟨RX9, "force", "(I)F"⟩
abbrev cX9_wholeForce : ByteArray := prog_11_method_59_code
def yX9_wholeForce : MethodName := ⟨RX9, "wholeForce", "(I)I"⟩
abbrev cX9_fieldAt : ByteArray := prog_11_method_60_code
def yX9_fieldAt : MethodName := ⟨RX9, "fieldAt", "(I)D"⟩
abbrev cX9_field : ByteArray := prog_11_method_61_code
def yX9_field : MethodName := ⟨RX9, "field", "(I)D"⟩
abbrev cX9_strongestPosition : ByteArray := prog_11_method_62_code
def yX9_strongestPosition : MethodName := ⟨RX9, "strongestPosition", "()I"⟩
abbrev cX9_queen : ByteArray := prog_11_method_63_code
def yX9_queen : MethodName := ⟨RX9, "queen", "()I"⟩
abbrev cX9_meanStrength : ByteArray := prog_11_method_64_code
def yX9_meanStrength : MethodName := ⟨RX9, "meanStrength", "()D"⟩
abbrev cX9_openShare : ByteArray := prog_11_method_65_code
def yX9_openShare : MethodName := ⟨RX9, "openShare", "()F"⟩
abbrev cX9_turnTotal : ByteArray := prog_11_method_66_code
def yX9_turnTotal : MethodName := ⟨RX9, "turnTotal", "()I"⟩
abbrev cX9_turnsOf : ByteArray := prog_11_method_67_code
def yX9_turnsOf : MethodName := ⟨RX9, "turnsOf", "(I)I"⟩
abbrev cX9_moved : ByteArray := prog_11_method_68_code
def yX9_moved : MethodName := ⟨RX9, "moved", "()I"⟩
abbrev cX9_feed : ByteArray := prog_11_method_69_code
def yX9_feed : MethodName := ⟨RX9, "feed", "(C)I"⟩
abbrev cX9_here : ByteArray := prog_11_method_70_code
def yX9_here : MethodName := ⟨RX9, "here", "()I"⟩
abbrev cX9_skips : ByteArray := prog_11_method_71_code
def yX9_skips : MethodName := ⟨RX9, "skips", "(I)Z"⟩
abbrev cX9_isWord : ByteArray := prog_11_method_72_code
def yX9_isWord : MethodName := ⟨RX9, "isWord", "(ILjava/lang/String;)Z"⟩
abbrev cX9_figures : ByteArray := prog_11_method_73_code
def yX9_figures : MethodName := ⟨RX9, "figures", "(III)Z"⟩
abbrev cX9_poleHere : ByteArray := prog_11_method_74_code
def yX9_poleHere : MethodName := ⟨RX9, "poleHere", "(I)Z"⟩
abbrev cX9_commandHere : ByteArray := prog_11_method_75_code
def yX9_commandHere : MethodName := ⟨RX9, "commandHere", "()Z"⟩
abbrev cX9_isText : ByteArray := prog_11_method_76_code
def yX9_isText : MethodName := ⟨RX9, "isText", "()Z"⟩
abbrev cX9_carries : ByteArray := prog_11_method_77_code
def yX9_carries : MethodName := ⟨RX9, "carries", "(I)I"⟩
abbrev cX9_deniesText : ByteArray := prog_11_method_78_code
def yX9_deniesText : MethodName := ⟨RX9, "deniesText", "(I)I"⟩
abbrev cX9_execute : ByteArray := prog_11_method_79_code
def yX9_execute : MethodName := ⟨RX9, "execute", "()I"⟩
abbrev cX9_faultPosition : ByteArray := prog_11_method_80_code
def yX9_faultPosition : MethodName := ⟨RX9, "faultPosition", "()I"⟩
abbrev cX9_writes : ByteArray := prog_11_method_81_code
def yX9_writes : MethodName := ⟨RX9, "writes", "(I)V"⟩
abbrev cX9_writesNumber : ByteArray := prog_11_method_82_code
def yX9_writesNumber : MethodName := ⟨RX9, "writesNumber", "(I)V"⟩
abbrev cX9_writesBehind : ByteArray := prog_11_method_83_code
def yX9_writesBehind : MethodName := ⟨RX9, "writesBehind", "(II)V"⟩
abbrev cX9_writeMagnet : ByteArray := prog_11_method_84_code
def yX9_writeMagnet : MethodName := ⟨RX9, "writeMagnet", "(I)I"⟩
abbrev cX9_lineCharacter : ByteArray := prog_11_method_85_code
def yX9_lineCharacter : MethodName := ⟨RX9, "lineCharacter", "(I)C"⟩
abbrev cX9_denial : ByteArray := prog_11_method_86_code
def yX9_denial : MethodName := ⟨RX9, "denial", "()I"⟩
abbrev cX9_denialDetail : ByteArray := prog_11_method_87_code
def yX9_denialDetail : MethodName := ⟨RX9, "denialDetail", "()I"⟩
abbrev cX9_denialCause : ByteArray := prog_11_method_88_code
def yX9_denialCause : MethodName := ⟨RX9, "denialCause", "()I"⟩
abbrev cX9_undo : ByteArray := prog_11_method_89_code
def yX9_undo : MethodName := ⟨RX9, "undo", "()I"⟩
abbrev cX9_undoCount : ByteArray := prog_11_method_90_code
def yX9_undoCount : MethodName := ⟨RX9, "undoCount", "()I"⟩
abbrev cX9_saveSnapshot : ByteArray := prog_11_method_91_code
def yX9_saveSnapshot : MethodName := ⟨RX9, "saveSnapshot", "()I"⟩
abbrev cX9_restoreSnapshot : ByteArray := prog_11_method_92_code
def yX9_restoreSnapshot : MethodName := ⟨RX9, "restoreSnapshot", "()I"⟩
def RJx145de : String := "java/io/Serializable"
def TJx145de : u_T := fun k => match k with
  | _ => ("", "", "", false)
def tyJx145de : Nat → FieldType := fun k => match k with
  | _ => .int
abbrev wsJx145de0 : List Cond := u_ws RJx145de TJx145de 0
theorem nmJx145de : ∀ a, a < 0 → ∀ b, b < 0 → a ≠ b → (TJx145de a).2.1 ≠ (TJx145de b).2.1 := by decide +kernel
theorem tyJx145de_ok : ∀ k, k < 0 → parseFieldDescriptor (TJx145de k).2.2.1 = some (tyJx145de k) := by decide +kernel
def RJx00060 : String := "java/lang/ArrayIndexOutOfBoundsException"
def TJx00060 : u_T := fun k => match k with
  | 0 => ("java/lang/Throwable", "backtrace", "Ljava/lang/Object;", false)
  | 1 => ("java/lang/Throwable", "detailMessage", "Ljava/lang/String;", false)
  | 2 => ("java/lang/Throwable", "cause", "Ljava/lang/Throwable;", false)
  | 3 => ("java/lang/Throwable", "stackTrace", "[Ljava/lang/StackTraceElement;", false)
  | 4 => ("java/lang/Throwable", "depth", "I", false)
  | _ => ("java/lang/Throwable", "suppressedExceptions", "Ljava/util/List;", false)
def tyJx00060 : Nat → FieldType := fun k => match k with
  | 0 => .object "java/lang/Object"
  | 1 => .object "java/lang/String"
  | 2 => .object "java/lang/Throwable"
  | 3 => .array (.object "java/lang/StackTraceElement")
  | 4 => .int
  | _ => .object "java/util/List"
abbrev wsJx000600 : List Cond := u_ws RJx00060 TJx00060 6
theorem nmJx00060 : ∀ a, a < 6 → ∀ b, b < 6 → a ≠ b → (TJx00060 a).2.1 ≠ (TJx00060 b).2.1 := by decide +kernel
theorem tyJx00060_ok : ∀ k, k < 6 → parseFieldDescriptor (TJx00060 k).2.2.1 = some (tyJx00060 k) := by decide +kernel
abbrev cJx00060_init_a7421 : ByteArray := prog_14_method_2_code
def yJx00060_init_a7421 : MethodName := ⟨RJx00060, "<init>", "(Ljava/lang/String;)V"⟩
def RJx9f9b0 : String := "java/lang/CharSequence"
def TJx9f9b0 : u_T := fun k => match k with
  | _ => ("", "", "", false)
def tyJx9f9b0 : Nat → FieldType := fun k => match k with
  | _ => .int
abbrev wsJx9f9b00 : List Cond := u_ws RJx9f9b0 TJx9f9b0 0
theorem nmJx9f9b0 : ∀ a, a < 0 → ∀ b, b < 0 → a ≠ b → (TJx9f9b0 a).2.1 ≠ (TJx9f9b0 b).2.1 := by decide +kernel
theorem tyJx9f9b0_ok : ∀ k, k < 0 → parseFieldDescriptor (TJx9f9b0 k).2.2.1 = some (tyJx9f9b0 k) := by decide +kernel
def RJxb160c : String := "java/lang/Comparable"
def TJxb160c : u_T := fun k => match k with
  | _ => ("", "", "", false)
def tyJxb160c : Nat → FieldType := fun k => match k with
  | _ => .int
abbrev wsJxb160c0 : List Cond := u_ws RJxb160c TJxb160c 0
theorem nmJxb160c : ∀ a, a < 0 → ∀ b, b < 0 → a ≠ b → (TJxb160c a).2.1 ≠ (TJxb160c b).2.1 := by decide +kernel
theorem tyJxb160c_ok : ∀ k, k < 0 → parseFieldDescriptor (TJxb160c k).2.2.1 = some (tyJxb160c k) := by decide +kernel
def RJ6 : String := "java/lang/Integer"
def TJ6 : u_T := fun k => match k with
  | _ => ("", "", "", false)
def tyJ6 : Nat → FieldType := fun k => match k with
  | _ => .int
abbrev wsJ60 : List Cond := u_ws RJ6 TJ6 0
theorem nmJ6 : ∀ a, a < 0 → ∀ b, b < 0 → a ≠ b → (TJ6 a).2.1 ≠ (TJ6 b).2.1 := by decide +kernel
theorem tyJ6_ok : ∀ k, k < 0 → parseFieldDescriptor (TJ6 k).2.2.1 = some (tyJ6 k) := by decide +kernel
abbrev cJ6_bitCount_0f7a4 : ByteArray := prog_21_method_49_code
def yJ6_bitCount_0f7a4 : MethodName := ⟨RJ6, "bitCount", "(I)I"⟩
def RJ9 : String := "java/lang/Math"
def TJ9 : u_T := fun k => match k with
  | _ => ("", "", "", false)
def tyJ9 : Nat → FieldType := fun k => match k with
  | _ => .int
abbrev wsJ90 : List Cond := u_ws RJ9 TJ9 0
theorem nmJ9 : ∀ a, a < 0 → ∀ b, b < 0 → a ≠ b → (TJ9 a).2.1 ≠ (TJ9 b).2.1 := by decide +kernel
theorem tyJ9_ok : ∀ k, k < 0 → parseFieldDescriptor (TJ9 k).2.2.1 = some (tyJ9 k) := by decide +kernel
abbrev cJ9_abs_0f7a4 : ByteArray := prog_22_method_59_code
def yJ9_abs_0f7a4 : MethodName := ⟨RJ9, "abs", "(I)I"⟩
abbrev cJ9_max_7cf53 : ByteArray := prog_22_method_65_code
def yJ9_max_7cf53 : MethodName := ⟨RJ9, "max", "(II)I"⟩
abbrev cJ9_min_7cf53 : ByteArray := prog_22_method_69_code
def yJ9_min_7cf53 : MethodName := ⟨RJ9, "min", "(II)I"⟩
def RJ0 : String := "java/lang/String"
def TJ0 : u_T := fun k => match k with
  | 0 => ("java/lang/String", "value", "[B", true)
  | _ => ("java/lang/String", "coder", "B", true)
def tyJ0 : Nat → FieldType := fun k => match k with
  | 0 => .array .byte
  | _ => .byte
abbrev wsJ00 : List Cond := u_ws RJ0 TJ0 2
theorem nmJ0 : ∀ a, a < 2 → ∀ b, b < 2 → a ≠ b → (TJ0 a).2.1 ≠ (TJ0 b).2.1 := by decide +kernel
theorem tyJ0_ok : ∀ k, k < 2 → parseFieldDescriptor (TJ0 k).2.2.1 = some (tyJ0 k) := by decide +kernel
abbrev cJ0_length_8abf5 : ByteArray := prog_24_method_54_code
def yJ0_length_8abf5 : MethodName := ⟨RJ0, "length", "()I"⟩
abbrev cJ0_charAt_5068e : ByteArray := prog_24_method_56_code
def yJ0_charAt_5068e : MethodName := ⟨RJ0, "charAt", "(I)C"⟩
abbrev cJ0_coder_7d493 : ByteArray := prog_24_method_152_code
def yJ0_coder_7d493 : MethodName := ⟨RJ0, "coder", "()B"⟩
abbrev cJ0_isLatin1_aae02 : ByteArray := prog_24_method_154_code
def yJ0_isLatin1_aae02 : MethodName := ⟨RJ0, "isLatin1", "()Z"⟩
abbrev cJ0_checkIndex_df160 : ByteArray := prog_24_method_155_code
def yJ0_checkIndex_df160 : MethodName := ⟨RJ0, "checkIndex", "(II)V"⟩
def RJ1 : String := "java/lang/StringLatin1"
def TJ1 : u_T := fun k => match k with
  | _ => ("", "", "", false)
def tyJ1 : Nat → FieldType := fun k => match k with
  | _ => .int
abbrev wsJ10 : List Cond := u_ws RJ1 TJ1 0
theorem nmJ1 : ∀ a, a < 0 → ∀ b, b < 0 → a ≠ b → (TJ1 a).2.1 ≠ (TJ1 b).2.1 := by decide +kernel
theorem tyJ1_ok : ∀ k, k < 0 → parseFieldDescriptor (TJ1 k).2.2.1 = some (tyJ1 k) := by decide +kernel
abbrev cJ1_charAt_3b067 : ByteArray := prog_25_method_2_code
def yJ1_charAt_3b067 : MethodName := ⟨RJ1, "charAt", "([BI)C"⟩
def RJ2 : String := "java/lang/StringUTF16"
def TJ2 : u_T := fun k => match k with
  | _ => ("", "", "", false)
def tyJ2 : Nat → FieldType := fun k => match k with
  | _ => .int
abbrev wsJ20 : List Cond := u_ws RJ2 TJ2 0
theorem nmJ2 : ∀ a, a < 0 → ∀ b, b < 0 → a ≠ b → (TJ2 a).2.1 ≠ (TJ2 b).2.1 := by decide +kernel
theorem tyJ2_ok : ∀ k, k < 0 → parseFieldDescriptor (TJ2 k).2.2.1 = some (tyJ2 k) := by decide +kernel
abbrev cJ2_getChar_3b067 : ByteArray := prog_26_method_5_code
def yJ2_getChar_3b067 : MethodName := ⟨RJ2, "getChar", "([BI)C"⟩
abbrev cJ2_length_9d52b : ByteArray := prog_26_method_6_code
def yJ2_length_9d52b : MethodName := ⟨RJ2, "length", "([B)I"⟩
abbrev cJ2_charAt_3b067 : ByteArray := prog_26_method_83_code
def yJ2_charAt_3b067 : MethodName := ⟨RJ2, "charAt", "([BI)C"⟩
abbrev cJ2_checkIndex_2214a : ByteArray := prog_26_method_91_code
def yJ2_checkIndex_2214a : MethodName := ⟨RJ2, "checkIndex", "(I[B)V"⟩
def RJ10 : String := "java/lang/System"
def TJ10 : u_T := fun k => match k with
  | _ => ("", "", "", false)
def tyJ10 : Nat → FieldType := fun k => match k with
  | _ => .int
abbrev wsJ100 : List Cond := u_ws RJ10 TJ10 0
theorem nmJ10 : ∀ a, a < 0 → ∀ b, b < 0 → a ≠ b → (TJ10 a).2.1 ≠ (TJ10 b).2.1 := by decide +kernel
theorem tyJ10_ok : ∀ k, k < 0 → parseFieldDescriptor (TJ10 k).2.2.1 = some (tyJ10 k) := by decide +kernel
def RJxfd54e : String := "java/lang/constant/Constable"
def TJxfd54e : u_T := fun k => match k with
  | _ => ("", "", "", false)
def tyJxfd54e : Nat → FieldType := fun k => match k with
  | _ => .int
abbrev wsJxfd54e0 : List Cond := u_ws RJxfd54e TJxfd54e 0
theorem nmJxfd54e : ∀ a, a < 0 → ∀ b, b < 0 → a ≠ b → (TJxfd54e a).2.1 ≠ (TJxfd54e b).2.1 := by decide +kernel
theorem tyJxfd54e_ok : ∀ k, k < 0 → parseFieldDescriptor (TJxfd54e k).2.2.1 = some (tyJxfd54e k) := by decide +kernel
def RJx3cf43 : String := "java/lang/constant/ConstantDesc"
def TJx3cf43 : u_T := fun k => match k with
  | _ => ("", "", "", false)
def tyJx3cf43 : Nat → FieldType := fun k => match k with
  | _ => .int
abbrev wsJx3cf430 : List Cond := u_ws RJx3cf43 TJx3cf43 0
theorem nmJx3cf43 : ∀ a, a < 0 → ∀ b, b < 0 → a ≠ b → (TJx3cf43 a).2.1 ≠ (TJx3cf43 b).2.1 := by decide +kernel
theorem tyJx3cf43_ok : ∀ k, k < 0 → parseFieldDescriptor (TJx3cf43 k).2.2.1 = some (tyJx3cf43 k) := by decide +kernel
def RJ7 : String := "java/util/Arrays"
def TJ7 : u_T := fun k => match k with
  | _ => ("", "", "", false)
def tyJ7 : Nat → FieldType := fun k => match k with
  | _ => .int
abbrev wsJ70 : List Cond := u_ws RJ7 TJ7 0
theorem nmJ7 : ∀ a, a < 0 → ∀ b, b < 0 → a ≠ b → (TJ7 a).2.1 ≠ (TJ7 b).2.1 := by decide +kernel
theorem tyJ7_ok : ∀ k, k < 0 → parseFieldDescriptor (TJ7 k).2.2.1 = some (tyJ7 k) := by decide +kernel
abbrev cJ7_fill_53178 : ByteArray := prog_32_method_103_code
def yJ7_fill_53178 : MethodName := ⟨RJ7, "fill", "([II)V"⟩
def RJ3 : String := "jdk/internal/util/Preconditions"
def TJ3 : u_T := fun k => match k with
  | _ => ("", "", "", false)
def tyJ3 : Nat → FieldType := fun k => match k with
  | _ => .int
abbrev wsJ30 : List Cond := u_ws RJ3 TJ3 0
theorem nmJ3 : ∀ a, a < 0 → ∀ b, b < 0 → a ≠ b → (TJ3 a).2.1 ≠ (TJ3 b).2.1 := by decide +kernel
theorem tyJ3_ok : ∀ k, k < 0 → parseFieldDescriptor (TJ3 k).2.2.1 = some (tyJ3 k) := by decide +kernel
abbrev cJ3_checkIndex_8e157 : ByteArray := prog_34_method_11_code
def yJ3_checkIndex_8e157 : MethodName := ⟨RJ3, "checkIndex", "(IILjava/util/function/BiFunction;)I"⟩
def RL : String := "MagnetColonyLaw"
abbrev cL_addMagnet : ByteArray := method_3_code
def yL_addMagnet : MethodName := ⟨RL, "addMagnet", "(LMagnetColony;IIZ[J)I"⟩
abbrev cL_setStrength : ByteArray := method_4_code
def yL_setStrength : MethodName := ⟨RL, "setStrength", "(LMagnetColony;II[J)I"⟩
abbrev cL_turn : ByteArray := method_5_code
def yL_turn : MethodName := ⟨RL, "turn", "(LMagnetColony;I[J)I"⟩
abbrev cL_shift : ByteArray := method_6_code
def yL_shift : MethodName := ⟨RL, "shift", "(LMagnetColony;I[J)I"⟩
abbrev cL_position : ByteArray := method_7_code
def yL_position : MethodName := ⟨RL, "position", "(LMagnetColony;I[J)I"⟩
abbrev cL_strength : ByteArray := method_8_code
def yL_strength : MethodName := ⟨RL, "strength", "(LMagnetColony;I[J)I"⟩
abbrev cL_pole : ByteArray := method_9_code
def yL_pole : MethodName := ⟨RL, "pole", "(LMagnetColony;I[J)I"⟩
abbrev cL_magnetAt : ByteArray := method_10_code
def yL_magnetAt : MethodName := ⟨RL, "magnetAt", "(LMagnetColony;I[J)I"⟩
abbrev cL_magnetByStrength : ByteArray := method_11_code
def yL_magnetByStrength : MethodName := ⟨RL, "magnetByStrength", "(LMagnetColony;I[J)I"⟩
abbrev cL_dig : ByteArray := method_12_code
def yL_dig : MethodName := ⟨RL, "dig", "(LMagnetColony;II[J)I"⟩
abbrev cL_fill : ByteArray := method_13_code
def yL_fill : MethodName := ⟨RL, "fill", "(LMagnetColony;I[J)I"⟩
abbrev cL_settle : ByteArray := method_14_code
def yL_settle : MethodName := ⟨RL, "settle", "(LMagnetColony;[J)I"⟩
abbrev cL_isOpen : ByteArray := method_15_code
def yL_isOpen : MethodName := ⟨RL, "isOpen", "(LMagnetColony;I[J)I"⟩
abbrev cL_walk : ByteArray := method_16_code
def yL_walk : MethodName := ⟨RL, "walk", "(LMagnetColony;II[J)I"⟩
abbrev cL_fewestTurns : ByteArray := method_17_code
def yL_fewestTurns : MethodName := ⟨RL, "fewestTurns", "(LMagnetColony;[J)I"⟩
abbrev cL_fewestTurnsBySets : ByteArray := method_18_code
def yL_fewestTurnsBySets : MethodName := ⟨RL, "fewestTurnsBySets", "(LMagnetColony;[J)I"⟩
abbrev cL_force : ByteArray := method_19_code
def yL_force : MethodName := ⟨RL, "force", "(LMagnetColony;I[D)I"⟩
abbrev cL_wholeForce : ByteArray := method_20_code
def yL_wholeForce : MethodName := ⟨RL, "wholeForce", "(LMagnetColony;I[J)I"⟩
abbrev cL_field : ByteArray := method_21_code
def yL_field : MethodName := ⟨RL, "field", "(LMagnetColony;I[D)I"⟩
abbrev cL_strongestPosition : ByteArray := method_22_code
def yL_strongestPosition : MethodName := ⟨RL, "strongestPosition", "(LMagnetColony;[J)I"⟩
abbrev cL_queen : ByteArray := method_23_code
def yL_queen : MethodName := ⟨RL, "queen", "(LMagnetColony;[J)I"⟩
abbrev cL_meanStrength : ByteArray := method_24_code
def yL_meanStrength : MethodName := ⟨RL, "meanStrength", "(LMagnetColony;[D)I"⟩
abbrev cL_openShare : ByteArray := method_25_code
def yL_openShare : MethodName := ⟨RL, "openShare", "(LMagnetColony;[D)I"⟩
abbrev cL_turnsOf : ByteArray := method_26_code
def yL_turnsOf : MethodName := ⟨RL, "turnsOf", "(LMagnetColony;I[J)I"⟩
abbrev cL_feed : ByteArray := method_27_code
def yL_feed : MethodName := ⟨RL, "feed", "(LMagnetColony;C[J)I"⟩
abbrev cL_execute : ByteArray := method_28_code
def yL_execute : MethodName := ⟨RL, "execute", "(LMagnetColony;[J)I"⟩
abbrev cL_faultPosition : ByteArray := method_29_code
def yL_faultPosition : MethodName := ⟨RL, "faultPosition", "(LMagnetColony;[J)I"⟩
abbrev cL_writeMagnet : ByteArray := method_30_code
def yL_writeMagnet : MethodName := ⟨RL, "writeMagnet", "(LMagnetColony;I[J)I"⟩
abbrev cL_lineCharacter : ByteArray := method_31_code
def yL_lineCharacter : MethodName := ⟨RL, "lineCharacter", "(LMagnetColony;I[J)I"⟩
abbrev cL_denial : ByteArray := method_32_code
def yL_denial : MethodName := ⟨RL, "denial", "(LMagnetColony;[J)I"⟩
abbrev cL_denialDetail : ByteArray := method_33_code
def yL_denialDetail : MethodName := ⟨RL, "denialDetail", "(LMagnetColony;[J)I"⟩
abbrev cL_denialCause : ByteArray := method_34_code
def yL_denialCause : MethodName := ⟨RL, "denialCause", "(LMagnetColony;[J)I"⟩
abbrev cL_undo : ByteArray := method_35_code
def yL_undo : MethodName := ⟨RL, "undo", "(LMagnetColony;[J)I"⟩
abbrev cL_restoreSnapshot : ByteArray := method_36_code
def yL_restoreSnapshot : MethodName := ⟨RL, "restoreSnapshot", "(LMagnetColony;[J)I"⟩
abbrev cL_law : ByteArray := code
def yL_law : MethodName := ⟨RL, "law", "([I)Z"⟩
end
section
theorem dX0_init_0 : decode cX0_init 0 = .ok (.aload_n 0, 1) := by decide +kernel
theorem dX0_init_1 : decode cX0_init 1 = .ok (.invokespecial 3, 3) := by decide +kernel
theorem dX0_init_4 : decode cX0_init 4 = .ok (.aload_n 0, 1) := by decide +kernel
theorem dX0_init_5 : decode cX0_init 5 = .ok (.aload_n 1, 1) := by decide +kernel
theorem dX0_init_6 : decode cX0_init 6 = .ok (.putfield 9, 3) := by decide +kernel
theorem dX0_init_9 : decode cX0_init 9 = .ok (.aload_n 0, 1) := by decide +kernel
theorem dX0_init_10 : decode cX0_init 10 = .ok (.aload_n 2, 1) := by decide +kernel
theorem dX0_init_11 : decode cX0_init 11 = .ok (.putfield 15, 3) := by decide +kernel
theorem dX0_init_14 : decode cX0_init 14 = .ok (.aload_n 0, 1) := by decide +kernel
theorem dX0_init_15 : decode cX0_init 15 = .ok (.aload_n 3, 1) := by decide +kernel
theorem dX0_init_16 : decode cX0_init 16 = .ok (.putfield 19, 3) := by decide +kernel
theorem dX0_init_19 : decode cX0_init 19 = .ok (.return_, 1) := by decide +kernel
theorem dX0_judge_0 : decode cX0_judge 0 = .ok (.iload_n 1, 1) := by decide +kernel
theorem dX0_judge_1 : decode cX0_judge 1 = .ok (.tableswitch 123 0 7 #[47, 54, 61, 79, 123, 93, 100, 118], 47) := by decide +kernel
theorem dX0_judge_48 : decode cX0_judge 48 = .ok (.aload_n 0, 1) := by decide +kernel
theorem dX0_judge_49 : decode cX0_judge 49 = .ok (.iload_n 2, 1) := by decide +kernel
theorem dX0_judge_50 : decode cX0_judge 50 = .ok (.iload_n 3, 1) := by decide +kernel
theorem dX0_judge_51 : decode cX0_judge 51 = .ok (.invokevirtual 23, 3) := by decide +kernel
theorem dX0_judge_54 : decode cX0_judge 54 = .ok (.ireturn, 1) := by decide +kernel
theorem dX0_judge_55 : decode cX0_judge 55 = .ok (.aload_n 0, 1) := by decide +kernel
theorem dX0_judge_56 : decode cX0_judge 56 = .ok (.iload_n 2, 1) := by decide +kernel
theorem dX0_judge_57 : decode cX0_judge 57 = .ok (.iload_n 3, 1) := by decide +kernel
theorem dX0_judge_58 : decode cX0_judge 58 = .ok (.invokevirtual 27, 3) := by decide +kernel
theorem dX0_judge_61 : decode cX0_judge 61 = .ok (.ireturn, 1) := by decide +kernel
theorem dX0_judge_62 : decode cX0_judge 62 = .ok (.aload_n 0, 1) := by decide +kernel
theorem dX0_judge_63 : decode cX0_judge 63 = .ok (.getfield 9, 3) := by decide +kernel
theorem dX0_judge_66 : decode cX0_judge 66 = .ok (.iload_n 2, 1) := by decide +kernel
theorem dX0_judge_67 : decode cX0_judge 67 = .ok (.invokevirtual 30, 3) := by decide +kernel
theorem dX0_judge_70 : decode cX0_judge 70 = .ok (.ifCond .eq 7, 3) := by decide +kernel
theorem dX0_judge_73 : decode cX0_judge 73 = .ok (.iconst 0, 1) := by decide +kernel
theorem dX0_judge_74 : decode cX0_judge 74 = .ok (.goto 5, 3) := by decide +kernel
theorem dX0_judge_77 : decode cX0_judge 77 = .ok (.bipush 8, 2) := by decide +kernel
theorem dX0_judge_79 : decode cX0_judge 79 = .ok (.ireturn, 1) := by decide +kernel
theorem dX0_judge_80 : decode cX0_judge 80 = .ok (.iload_n 2, 1) := by decide +kernel
theorem dX0_judge_81 : decode cX0_judge 81 = .ok (.invokestatic 36, 3) := by decide +kernel
theorem dX0_judge_84 : decode cX0_judge 84 = .ok (.ifCond .eq 7, 3) := by decide +kernel
theorem dX0_judge_87 : decode cX0_judge 87 = .ok (.iconst 0, 1) := by decide +kernel
theorem dX0_judge_88 : decode cX0_judge 88 = .ok (.goto 5, 3) := by decide +kernel
theorem dX0_judge_91 : decode cX0_judge 91 = .ok (.bipush 9, 2) := by decide +kernel
theorem dX0_judge_93 : decode cX0_judge 93 = .ok (.ireturn, 1) := by decide +kernel
theorem dX0_judge_94 : decode cX0_judge 94 = .ok (.aload_n 0, 1) := by decide +kernel
theorem dX0_judge_95 : decode cX0_judge 95 = .ok (.iload_n 2, 1) := by decide +kernel
theorem dX0_judge_96 : decode cX0_judge 96 = .ok (.iload_n 3, 1) := by decide +kernel
theorem dX0_judge_97 : decode cX0_judge 97 = .ok (.invokevirtual 39, 3) := by decide +kernel
theorem dX0_judge_100 : decode cX0_judge 100 = .ok (.ireturn, 1) := by decide +kernel
theorem dX0_judge_101 : decode cX0_judge 101 = .ok (.aload_n 0, 1) := by decide +kernel
theorem dX0_judge_102 : decode cX0_judge 102 = .ok (.getfield 9, 3) := by decide +kernel
theorem dX0_judge_105 : decode cX0_judge 105 = .ok (.iload_n 2, 1) := by decide +kernel
theorem dX0_judge_106 : decode cX0_judge 106 = .ok (.invokevirtual 42, 3) := by decide +kernel
theorem dX0_judge_109 : decode cX0_judge 109 = .ok (.ifCond .eq 7, 3) := by decide +kernel
theorem dX0_judge_112 : decode cX0_judge 112 = .ok (.iconst 0, 1) := by decide +kernel
theorem dX0_judge_113 : decode cX0_judge 113 = .ok (.goto 5, 3) := by decide +kernel
theorem dX0_judge_116 : decode cX0_judge 116 = .ok (.bipush 8, 2) := by decide +kernel
theorem dX0_judge_118 : decode cX0_judge 118 = .ok (.ireturn, 1) := by decide +kernel
theorem dX0_judge_119 : decode cX0_judge 119 = .ok (.aload_n 0, 1) := by decide +kernel
theorem dX0_judge_120 : decode cX0_judge 120 = .ok (.invokevirtual 45, 3) := by decide +kernel
theorem dX0_judge_123 : decode cX0_judge 123 = .ok (.ireturn, 1) := by decide +kernel
theorem dX0_judge_124 : decode cX0_judge 124 = .ok (.iconst 0, 1) := by decide +kernel
theorem dX0_judge_125 : decode cX0_judge 125 = .ok (.ireturn, 1) := by decide +kernel
theorem dX0_judgeAdding_0 : decode cX0_judgeAdding 0 = .ok (.iload_n 1, 1) := by decide +kernel
theorem dX0_judgeAdding_1 : decode cX0_judgeAdding 1 = .ok (.invokestatic 36, 3) := by decide +kernel
theorem dX0_judgeAdding_4 : decode cX0_judgeAdding 4 = .ok (.ifCond .eq 10, 3) := by decide +kernel
theorem dX0_judgeAdding_7 : decode cX0_judgeAdding 7 = .ok (.iload_n 2, 1) := by decide +kernel
theorem dX0_judgeAdding_8 : decode cX0_judgeAdding 8 = .ok (.invokestatic 49, 3) := by decide +kernel
theorem dX0_judgeAdding_11 : decode cX0_judgeAdding 11 = .ok (.ifCond .ne 6, 3) := by decide +kernel
theorem dX0_judgeAdding_14 : decode cX0_judgeAdding 14 = .ok (.bipush 9, 2) := by decide +kernel
theorem dX0_judgeAdding_16 : decode cX0_judgeAdding 16 = .ok (.ireturn, 1) := by decide +kernel
theorem dX0_judgeAdding_17 : decode cX0_judgeAdding 17 = .ok (.aload_n 0, 1) := by decide +kernel
theorem dX0_judgeAdding_18 : decode cX0_judgeAdding 18 = .ok (.getfield 9, 3) := by decide +kernel
theorem dX0_judgeAdding_21 : decode cX0_judgeAdding 21 = .ok (.getfield 52, 3) := by decide +kernel
theorem dX0_judgeAdding_24 : decode cX0_judgeAdding 24 = .ok (.bipush 9, 2) := by decide +kernel
theorem dX0_judgeAdding_26 : decode cX0_judgeAdding 26 = .ok (.if_icmp .lt 11, 3) := by decide +kernel
theorem dX0_judgeAdding_29 : decode cX0_judgeAdding 29 = .ok (.aload_n 0, 1) := by decide +kernel
theorem dX0_judgeAdding_30 : decode cX0_judgeAdding 30 = .ok (.iconst 1, 1) := by decide +kernel
theorem dX0_judgeAdding_31 : decode cX0_judgeAdding 31 = .ok (.bipush 9, 2) := by decide +kernel
theorem dX0_judgeAdding_33 : decode cX0_judgeAdding 33 = .ok (.invokevirtual 56, 3) := by decide +kernel
theorem dX0_judgeAdding_36 : decode cX0_judgeAdding 36 = .ok (.ireturn, 1) := by decide +kernel
theorem dX0_judgeAdding_37 : decode cX0_judgeAdding 37 = .ok (.aload_n 0, 1) := by decide +kernel
theorem dX0_judgeAdding_38 : decode cX0_judgeAdding 38 = .ok (.getfield 9, 3) := by decide +kernel
theorem dX0_judgeAdding_41 : decode cX0_judgeAdding 41 = .ok (.iload_n 1, 1) := by decide +kernel
theorem dX0_judgeAdding_42 : decode cX0_judgeAdding 42 = .ok (.invokevirtual 59, 3) := by decide +kernel
theorem dX0_judgeAdding_45 : decode cX0_judgeAdding 45 = .ok (.istore_n 3, 1) := by decide +kernel
theorem dX0_judgeAdding_46 : decode cX0_judgeAdding 46 = .ok (.iload_n 3, 1) := by decide +kernel
theorem dX0_judgeAdding_47 : decode cX0_judgeAdding 47 = .ok (.iconst (-1), 1) := by decide +kernel
theorem dX0_judgeAdding_48 : decode cX0_judgeAdding 48 = .ok (.if_icmp .ne 7, 3) := by decide +kernel
theorem dX0_judgeAdding_51 : decode cX0_judgeAdding 51 = .ok (.iconst 0, 1) := by decide +kernel
theorem dX0_judgeAdding_52 : decode cX0_judgeAdding 52 = .ok (.goto 9, 3) := by decide +kernel
theorem dX0_judgeAdding_55 : decode cX0_judgeAdding 55 = .ok (.aload_n 0, 1) := by decide +kernel
theorem dX0_judgeAdding_56 : decode cX0_judgeAdding 56 = .ok (.iconst 2, 1) := by decide +kernel
theorem dX0_judgeAdding_57 : decode cX0_judgeAdding 57 = .ok (.iload_n 3, 1) := by decide +kernel
theorem dX0_judgeAdding_58 : decode cX0_judgeAdding 58 = .ok (.invokevirtual 56, 3) := by decide +kernel
theorem dX0_judgeAdding_61 : decode cX0_judgeAdding 61 = .ok (.ireturn, 1) := by decide +kernel
theorem dX0_judgeStrength_0 : decode cX0_judgeStrength 0 = .ok (.aload_n 0, 1) := by decide +kernel
theorem dX0_judgeStrength_1 : decode cX0_judgeStrength 1 = .ok (.getfield 9, 3) := by decide +kernel
theorem dX0_judgeStrength_4 : decode cX0_judgeStrength 4 = .ok (.iload_n 1, 1) := by decide +kernel
theorem dX0_judgeStrength_5 : decode cX0_judgeStrength 5 = .ok (.invokevirtual 30, 3) := by decide +kernel
theorem dX0_judgeStrength_8 : decode cX0_judgeStrength 8 = .ok (.ifCond .ne 6, 3) := by decide +kernel
theorem dX0_judgeStrength_11 : decode cX0_judgeStrength 11 = .ok (.bipush 8, 2) := by decide +kernel
theorem dX0_judgeStrength_13 : decode cX0_judgeStrength 13 = .ok (.ireturn, 1) := by decide +kernel
theorem dX0_judgeStrength_14 : decode cX0_judgeStrength 14 = .ok (.iload_n 2, 1) := by decide +kernel
theorem dX0_judgeStrength_15 : decode cX0_judgeStrength 15 = .ok (.invokestatic 49, 3) := by decide +kernel
theorem dX0_judgeStrength_18 : decode cX0_judgeStrength 18 = .ok (.ifCond .eq 7, 3) := by decide +kernel
theorem dX0_judgeStrength_21 : decode cX0_judgeStrength 21 = .ok (.iconst 0, 1) := by decide +kernel
theorem dX0_judgeStrength_22 : decode cX0_judgeStrength 22 = .ok (.goto 5, 3) := by decide +kernel
theorem dX0_judgeStrength_25 : decode cX0_judgeStrength 25 = .ok (.bipush 9, 2) := by decide +kernel
theorem dX0_judgeStrength_27 : decode cX0_judgeStrength 27 = .ok (.ireturn, 1) := by decide +kernel
theorem dX0_judgeDigging_0 : decode cX0_judgeDigging 0 = .ok (.aload_n 0, 1) := by decide +kernel
theorem dX0_judgeDigging_1 : decode cX0_judgeDigging 1 = .ok (.getfield 9, 3) := by decide +kernel
theorem dX0_judgeDigging_4 : decode cX0_judgeDigging 4 = .ok (.iload_n 1, 1) := by decide +kernel
theorem dX0_judgeDigging_5 : decode cX0_judgeDigging 5 = .ok (.invokevirtual 30, 3) := by decide +kernel
theorem dX0_judgeDigging_8 : decode cX0_judgeDigging 8 = .ok (.ifCond .eq 14, 3) := by decide +kernel
theorem dX0_judgeDigging_11 : decode cX0_judgeDigging 11 = .ok (.aload_n 0, 1) := by decide +kernel
theorem dX0_judgeDigging_12 : decode cX0_judgeDigging 12 = .ok (.getfield 9, 3) := by decide +kernel
theorem dX0_judgeDigging_15 : decode cX0_judgeDigging 15 = .ok (.iload_n 2, 1) := by decide +kernel
theorem dX0_judgeDigging_16 : decode cX0_judgeDigging 16 = .ok (.invokevirtual 30, 3) := by decide +kernel
theorem dX0_judgeDigging_19 : decode cX0_judgeDigging 19 = .ok (.ifCond .ne 6, 3) := by decide +kernel
theorem dX0_judgeDigging_22 : decode cX0_judgeDigging 22 = .ok (.bipush 8, 2) := by decide +kernel
theorem dX0_judgeDigging_24 : decode cX0_judgeDigging 24 = .ok (.ireturn, 1) := by decide +kernel
theorem dX0_judgeDigging_25 : decode cX0_judgeDigging 25 = .ok (.iload_n 1, 1) := by decide +kernel
theorem dX0_judgeDigging_26 : decode cX0_judgeDigging 26 = .ok (.iload_n 2, 1) := by decide +kernel
theorem dX0_judgeDigging_27 : decode cX0_judgeDigging 27 = .ok (.if_icmp .ne 6, 3) := by decide +kernel
theorem dX0_judgeDigging_30 : decode cX0_judgeDigging 30 = .ok (.bipush 9, 2) := by decide +kernel
theorem dX0_judgeDigging_32 : decode cX0_judgeDigging 32 = .ok (.ireturn, 1) := by decide +kernel
theorem dX0_judgeDigging_33 : decode cX0_judgeDigging 33 = .ok (.aload_n 0, 1) := by decide +kernel
theorem dX0_judgeDigging_34 : decode cX0_judgeDigging 34 = .ok (.getfield 9, 3) := by decide +kernel
theorem dX0_judgeDigging_37 : decode cX0_judgeDigging 37 = .ok (.iload_n 1, 1) := by decide +kernel
theorem dX0_judgeDigging_38 : decode cX0_judgeDigging 38 = .ok (.iload_n 2, 1) := by decide +kernel
theorem dX0_judgeDigging_39 : decode cX0_judgeDigging 39 = .ok (.invokevirtual 63, 3) := by decide +kernel
theorem dX0_judgeDigging_42 : decode cX0_judgeDigging 42 = .ok (.istore_n 3, 1) := by decide +kernel
theorem dX0_judgeDigging_43 : decode cX0_judgeDigging 43 = .ok (.iload_n 3, 1) := by decide +kernel
theorem dX0_judgeDigging_44 : decode cX0_judgeDigging 44 = .ok (.iconst (-1), 1) := by decide +kernel
theorem dX0_judgeDigging_45 : decode cX0_judgeDigging 45 = .ok (.if_icmp .eq 10, 3) := by decide +kernel
theorem dX0_judgeDigging_48 : decode cX0_judgeDigging 48 = .ok (.aload_n 0, 1) := by decide +kernel
theorem dX0_judgeDigging_49 : decode cX0_judgeDigging 49 = .ok (.iconst 3, 1) := by decide +kernel
theorem dX0_judgeDigging_50 : decode cX0_judgeDigging 50 = .ok (.iload_n 3, 1) := by decide +kernel
theorem dX0_judgeDigging_51 : decode cX0_judgeDigging 51 = .ok (.invokevirtual 56, 3) := by decide +kernel
theorem dX0_judgeDigging_54 : decode cX0_judgeDigging 54 = .ok (.ireturn, 1) := by decide +kernel
theorem dX0_judgeDigging_55 : decode cX0_judgeDigging 55 = .ok (.aload_n 0, 1) := by decide +kernel
theorem dX0_judgeDigging_56 : decode cX0_judgeDigging 56 = .ok (.getfield 9, 3) := by decide +kernel
theorem dX0_judgeDigging_59 : decode cX0_judgeDigging 59 = .ok (.getfield 66, 3) := by decide +kernel
theorem dX0_judgeDigging_62 : decode cX0_judgeDigging 62 = .ok (.bipush 16, 2) := by decide +kernel
theorem dX0_judgeDigging_64 : decode cX0_judgeDigging 64 = .ok (.if_icmp .ge 7, 3) := by decide +kernel
theorem dX0_judgeDigging_67 : decode cX0_judgeDigging 67 = .ok (.iconst 0, 1) := by decide +kernel
theorem dX0_judgeDigging_68 : decode cX0_judgeDigging 68 = .ok (.goto 10, 3) := by decide +kernel
theorem dX0_judgeDigging_71 : decode cX0_judgeDigging 71 = .ok (.aload_n 0, 1) := by decide +kernel
theorem dX0_judgeDigging_72 : decode cX0_judgeDigging 72 = .ok (.iconst 1, 1) := by decide +kernel
theorem dX0_judgeDigging_73 : decode cX0_judgeDigging 73 = .ok (.bipush 16, 2) := by decide +kernel
theorem dX0_judgeDigging_75 : decode cX0_judgeDigging 75 = .ok (.invokevirtual 56, 3) := by decide +kernel
theorem dX0_judgeDigging_78 : decode cX0_judgeDigging 78 = .ok (.ireturn, 1) := by decide +kernel
theorem dX0_judgeSettling_0 : decode cX0_judgeSettling 0 = .ok (.aload_n 0, 1) := by decide +kernel
theorem dX0_judgeSettling_1 : decode cX0_judgeSettling 1 = .ok (.getfield 9, 3) := by decide +kernel
theorem dX0_judgeSettling_4 : decode cX0_judgeSettling 4 = .ok (.invokevirtual 69, 3) := by decide +kernel
theorem dX0_judgeSettling_7 : decode cX0_judgeSettling 7 = .ok (.istore_n 1, 1) := by decide +kernel
theorem dX0_judgeSettling_8 : decode cX0_judgeSettling 8 = .ok (.iload_n 1, 1) := by decide +kernel
theorem dX0_judgeSettling_9 : decode cX0_judgeSettling 9 = .ok (.ifCond .ne 16, 3) := by decide +kernel
theorem dX0_judgeSettling_12 : decode cX0_judgeSettling 12 = .ok (.aload_n 0, 1) := by decide +kernel
theorem dX0_judgeSettling_13 : decode cX0_judgeSettling 13 = .ok (.iconst 5, 1) := by decide +kernel
theorem dX0_judgeSettling_14 : decode cX0_judgeSettling 14 = .ok (.aload_n 0, 1) := by decide +kernel
theorem dX0_judgeSettling_15 : decode cX0_judgeSettling 15 = .ok (.getfield 9, 3) := by decide +kernel
theorem dX0_judgeSettling_18 : decode cX0_judgeSettling 18 = .ok (.getfield 66, 3) := by decide +kernel
theorem dX0_judgeSettling_21 : decode cX0_judgeSettling 21 = .ok (.invokevirtual 56, 3) := by decide +kernel
theorem dX0_judgeSettling_24 : decode cX0_judgeSettling 24 = .ok (.ireturn, 1) := by decide +kernel
theorem dX0_judgeSettling_25 : decode cX0_judgeSettling 25 = .ok (.aload_n 0, 1) := by decide +kernel
theorem dX0_judgeSettling_26 : decode cX0_judgeSettling 26 = .ok (.getfield 15, 3) := by decide +kernel
theorem dX0_judgeSettling_29 : decode cX0_judgeSettling 29 = .ok (.invokevirtual 72, 3) := by decide +kernel
theorem dX0_judgeSettling_32 : decode cX0_judgeSettling 32 = .ok (.iconst (-1), 1) := by decide +kernel
theorem dX0_judgeSettling_33 : decode cX0_judgeSettling 33 = .ok (.if_icmp .ne 12, 3) := by decide +kernel
theorem dX0_judgeSettling_36 : decode cX0_judgeSettling 36 = .ok (.aload_n 0, 1) := by decide +kernel
theorem dX0_judgeSettling_37 : decode cX0_judgeSettling 37 = .ok (.iconst 4, 1) := by decide +kernel
theorem dX0_judgeSettling_38 : decode cX0_judgeSettling 38 = .ok (.iload_n 1, 1) := by decide +kernel
theorem dX0_judgeSettling_39 : decode cX0_judgeSettling 39 = .ok (.invokevirtual 56, 3) := by decide +kernel
theorem dX0_judgeSettling_42 : decode cX0_judgeSettling 42 = .ok (.goto 4, 3) := by decide +kernel
theorem dX0_judgeSettling_45 : decode cX0_judgeSettling 45 = .ok (.iconst 0, 1) := by decide +kernel
theorem dX0_judgeSettling_46 : decode cX0_judgeSettling 46 = .ok (.ireturn, 1) := by decide +kernel
theorem dX0_deny_0 : decode cX0_deny 0 = .ok (.aload_n 0, 1) := by decide +kernel
theorem dX0_deny_1 : decode cX0_deny 1 = .ok (.iload_n 2, 1) := by decide +kernel
theorem dX0_deny_2 : decode cX0_deny 2 = .ok (.putfield 77, 3) := by decide +kernel
theorem dX0_deny_5 : decode cX0_deny 5 = .ok (.iload_n 1, 1) := by decide +kernel
theorem dX0_deny_6 : decode cX0_deny 6 = .ok (.ireturn, 1) := by decide +kernel
theorem dX0_carryOut_0 : decode cX0_carryOut 0 = .ok (.iload_n 1, 1) := by decide +kernel
theorem dX0_carryOut_1 : decode cX0_carryOut 1 = .ok (.tableswitch 129 0 6 #[43, 64, 74, 93, 102, 110, 120], 43) := by decide +kernel
theorem dX0_carryOut_44 : decode cX0_carryOut 44 = .ok (.aload_n 0, 1) := by decide +kernel
theorem dX0_carryOut_45 : decode cX0_carryOut 45 = .ok (.getfield 9, 3) := by decide +kernel
theorem dX0_carryOut_48 : decode cX0_carryOut 48 = .ok (.iload_n 2, 1) := by decide +kernel
theorem dX0_carryOut_49 : decode cX0_carryOut 49 = .ok (.iload_n 3, 1) := by decide +kernel
theorem dX0_carryOut_50 : decode cX0_carryOut 50 = .ok (.iload 4, 2) := by decide +kernel
theorem dX0_carryOut_52 : decode cX0_carryOut 52 = .ok (.iconst 1, 1) := by decide +kernel
theorem dX0_carryOut_53 : decode cX0_carryOut 53 = .ok (.if_icmp .ne 7, 3) := by decide +kernel
theorem dX0_carryOut_56 : decode cX0_carryOut 56 = .ok (.iconst 1, 1) := by decide +kernel
theorem dX0_carryOut_57 : decode cX0_carryOut 57 = .ok (.goto 4, 3) := by decide +kernel
theorem dX0_carryOut_60 : decode cX0_carryOut 60 = .ok (.iconst 0, 1) := by decide +kernel
theorem dX0_carryOut_61 : decode cX0_carryOut 61 = .ok (.invokevirtual 80, 3) := by decide +kernel
theorem dX0_carryOut_64 : decode cX0_carryOut 64 = .ok (.ireturn, 1) := by decide +kernel
theorem dX0_carryOut_65 : decode cX0_carryOut 65 = .ok (.aload_n 0, 1) := by decide +kernel
theorem dX0_carryOut_66 : decode cX0_carryOut 66 = .ok (.getfield 9, 3) := by decide +kernel
theorem dX0_carryOut_69 : decode cX0_carryOut 69 = .ok (.iload_n 2, 1) := by decide +kernel
theorem dX0_carryOut_70 : decode cX0_carryOut 70 = .ok (.iload_n 3, 1) := by decide +kernel
theorem dX0_carryOut_71 : decode cX0_carryOut 71 = .ok (.invokevirtual 84, 3) := by decide +kernel
theorem dX0_carryOut_74 : decode cX0_carryOut 74 = .ok (.ireturn, 1) := by decide +kernel
theorem dX0_carryOut_75 : decode cX0_carryOut 75 = .ok (.aload_n 0, 1) := by decide +kernel
theorem dX0_carryOut_76 : decode cX0_carryOut 76 = .ok (.getfield 9, 3) := by decide +kernel
theorem dX0_carryOut_79 : decode cX0_carryOut 79 = .ok (.iconst 1, 1) := by decide +kernel
theorem dX0_carryOut_80 : decode cX0_carryOut 80 = .ok (.iload_n 2, 1) := by decide +kernel
theorem dX0_carryOut_81 : decode cX0_carryOut 81 = .ok (.ishl, 1) := by decide +kernel
theorem dX0_carryOut_82 : decode cX0_carryOut 82 = .ok (.invokevirtual 87, 3) := by decide +kernel
theorem dX0_carryOut_85 : decode cX0_carryOut 85 = .ok (.pop, 1) := by decide +kernel
theorem dX0_carryOut_86 : decode cX0_carryOut 86 = .ok (.aload_n 0, 1) := by decide +kernel
theorem dX0_carryOut_87 : decode cX0_carryOut 87 = .ok (.getfield 9, 3) := by decide +kernel
theorem dX0_carryOut_90 : decode cX0_carryOut 90 = .ok (.invokevirtual 69, 3) := by decide +kernel
theorem dX0_carryOut_93 : decode cX0_carryOut 93 = .ok (.ireturn, 1) := by decide +kernel
theorem dX0_carryOut_94 : decode cX0_carryOut 94 = .ok (.aload_n 0, 1) := by decide +kernel
theorem dX0_carryOut_95 : decode cX0_carryOut 95 = .ok (.getfield 9, 3) := by decide +kernel
theorem dX0_carryOut_98 : decode cX0_carryOut 98 = .ok (.iload_n 2, 1) := by decide +kernel
theorem dX0_carryOut_99 : decode cX0_carryOut 99 = .ok (.invokevirtual 90, 3) := by decide +kernel
theorem dX0_carryOut_102 : decode cX0_carryOut 102 = .ok (.ireturn, 1) := by decide +kernel
theorem dX0_carryOut_103 : decode cX0_carryOut 103 = .ok (.aload_n 0, 1) := by decide +kernel
theorem dX0_carryOut_104 : decode cX0_carryOut 104 = .ok (.getfield 19, 3) := by decide +kernel
theorem dX0_carryOut_107 : decode cX0_carryOut 107 = .ok (.invokevirtual 93, 3) := by decide +kernel
theorem dX0_carryOut_110 : decode cX0_carryOut 110 = .ok (.ireturn, 1) := by decide +kernel
theorem dX0_carryOut_111 : decode cX0_carryOut 111 = .ok (.aload_n 0, 1) := by decide +kernel
theorem dX0_carryOut_112 : decode cX0_carryOut 112 = .ok (.getfield 9, 3) := by decide +kernel
theorem dX0_carryOut_115 : decode cX0_carryOut 115 = .ok (.iload_n 2, 1) := by decide +kernel
theorem dX0_carryOut_116 : decode cX0_carryOut 116 = .ok (.iload_n 3, 1) := by decide +kernel
theorem dX0_carryOut_117 : decode cX0_carryOut 117 = .ok (.invokevirtual 98, 3) := by decide +kernel
theorem dX0_carryOut_120 : decode cX0_carryOut 120 = .ok (.ireturn, 1) := by decide +kernel
theorem dX0_carryOut_121 : decode cX0_carryOut 121 = .ok (.aload_n 0, 1) := by decide +kernel
theorem dX0_carryOut_122 : decode cX0_carryOut 122 = .ok (.getfield 9, 3) := by decide +kernel
theorem dX0_carryOut_125 : decode cX0_carryOut 125 = .ok (.iload_n 2, 1) := by decide +kernel
theorem dX0_carryOut_126 : decode cX0_carryOut 126 = .ok (.invokevirtual 101, 3) := by decide +kernel
theorem dX0_carryOut_129 : decode cX0_carryOut 129 = .ok (.ireturn, 1) := by decide +kernel
theorem dX0_carryOut_130 : decode cX0_carryOut 130 = .ok (.aload_n 0, 1) := by decide +kernel
theorem dX0_carryOut_131 : decode cX0_carryOut 131 = .ok (.getfield 9, 3) := by decide +kernel
theorem dX0_carryOut_134 : decode cX0_carryOut 134 = .ok (.aload_n 0, 1) := by decide +kernel
theorem dX0_carryOut_135 : decode cX0_carryOut 135 = .ok (.getfield 15, 3) := by decide +kernel
theorem dX0_carryOut_138 : decode cX0_carryOut 138 = .ok (.invokevirtual 72, 3) := by decide +kernel
theorem dX0_carryOut_141 : decode cX0_carryOut 141 = .ok (.invokevirtual 87, 3) := by decide +kernel
theorem dX0_carryOut_144 : decode cX0_carryOut 144 = .ok (.ireturn, 1) := by decide +kernel
theorem dX1_init_0 : decode cX1_init 0 = .ok (.aload_n 0, 1) := by decide +kernel
theorem dX1_init_1 : decode cX1_init 1 = .ok (.invokespecial 3, 3) := by decide +kernel
theorem dX1_init_4 : decode cX1_init 4 = .ok (.aload_n 0, 1) := by decide +kernel
theorem dX1_init_5 : decode cX1_init 5 = .ok (.bipush 9, 2) := by decide +kernel
theorem dX1_init_7 : decode cX1_init 7 = .ok (.newarray .int, 2) := by decide +kernel
theorem dX1_init_9 : decode cX1_init 9 = .ok (.putfield 9, 3) := by decide +kernel
theorem dX1_init_12 : decode cX1_init 12 = .ok (.aload_n 0, 1) := by decide +kernel
theorem dX1_init_13 : decode cX1_init 13 = .ok (.bipush 9, 2) := by decide +kernel
theorem dX1_init_15 : decode cX1_init 15 = .ok (.newarray .int, 2) := by decide +kernel
theorem dX1_init_17 : decode cX1_init 17 = .ok (.putfield 15, 3) := by decide +kernel
theorem dX1_init_20 : decode cX1_init 20 = .ok (.aload_n 0, 1) := by decide +kernel
theorem dX1_init_21 : decode cX1_init 21 = .ok (.bipush 9, 2) := by decide +kernel
theorem dX1_init_23 : decode cX1_init 23 = .ok (.newarray .int, 2) := by decide +kernel
theorem dX1_init_25 : decode cX1_init 25 = .ok (.putfield 18, 3) := by decide +kernel
theorem dX1_init_28 : decode cX1_init 28 = .ok (.aload_n 0, 1) := by decide +kernel
theorem dX1_init_29 : decode cX1_init 29 = .ok (.bipush 16, 2) := by decide +kernel
theorem dX1_init_31 : decode cX1_init 31 = .ok (.newarray .int, 2) := by decide +kernel
theorem dX1_init_33 : decode cX1_init 33 = .ok (.putfield 21, 3) := by decide +kernel
theorem dX1_init_36 : decode cX1_init 36 = .ok (.aload_n 0, 1) := by decide +kernel
theorem dX1_init_37 : decode cX1_init 37 = .ok (.bipush 16, 2) := by decide +kernel
theorem dX1_init_39 : decode cX1_init 39 = .ok (.newarray .int, 2) := by decide +kernel
theorem dX1_init_41 : decode cX1_init 41 = .ok (.putfield 24, 3) := by decide +kernel
theorem dX1_init_44 : decode cX1_init 44 = .ok (.return_, 1) := by decide +kernel
theorem dX1_copyFrom_0 : decode cX1_copyFrom 0 = .ok (.aload_n 0, 1) := by decide +kernel
theorem dX1_copyFrom_1 : decode cX1_copyFrom 1 = .ok (.aload_n 1, 1) := by decide +kernel
theorem dX1_copyFrom_2 : decode cX1_copyFrom 2 = .ok (.getfield 27, 3) := by decide +kernel
theorem dX1_copyFrom_5 : decode cX1_copyFrom 5 = .ok (.putfield 27, 3) := by decide +kernel
theorem dX1_copyFrom_8 : decode cX1_copyFrom 8 = .ok (.aload_n 1, 1) := by decide +kernel
theorem dX1_copyFrom_9 : decode cX1_copyFrom 9 = .ok (.getfield 9, 3) := by decide +kernel
theorem dX1_copyFrom_12 : decode cX1_copyFrom 12 = .ok (.iconst 0, 1) := by decide +kernel
theorem dX1_copyFrom_13 : decode cX1_copyFrom 13 = .ok (.aload_n 0, 1) := by decide +kernel
theorem dX1_copyFrom_14 : decode cX1_copyFrom 14 = .ok (.getfield 9, 3) := by decide +kernel
theorem dX1_copyFrom_17 : decode cX1_copyFrom 17 = .ok (.iconst 0, 1) := by decide +kernel
theorem dX1_copyFrom_18 : decode cX1_copyFrom 18 = .ok (.bipush 9, 2) := by decide +kernel
theorem dX1_copyFrom_20 : decode cX1_copyFrom 20 = .ok (.invokestatic 31, 3) := by decide +kernel
theorem dX1_copyFrom_23 : decode cX1_copyFrom 23 = .ok (.aload_n 1, 1) := by decide +kernel
theorem dX1_copyFrom_24 : decode cX1_copyFrom 24 = .ok (.getfield 15, 3) := by decide +kernel
theorem dX1_copyFrom_27 : decode cX1_copyFrom 27 = .ok (.iconst 0, 1) := by decide +kernel
theorem dX1_copyFrom_28 : decode cX1_copyFrom 28 = .ok (.aload_n 0, 1) := by decide +kernel
theorem dX1_copyFrom_29 : decode cX1_copyFrom 29 = .ok (.getfield 15, 3) := by decide +kernel
theorem dX1_copyFrom_32 : decode cX1_copyFrom 32 = .ok (.iconst 0, 1) := by decide +kernel
theorem dX1_copyFrom_33 : decode cX1_copyFrom 33 = .ok (.bipush 9, 2) := by decide +kernel
theorem dX1_copyFrom_35 : decode cX1_copyFrom 35 = .ok (.invokestatic 31, 3) := by decide +kernel
theorem dX1_copyFrom_38 : decode cX1_copyFrom 38 = .ok (.aload_n 1, 1) := by decide +kernel
theorem dX1_copyFrom_39 : decode cX1_copyFrom 39 = .ok (.getfield 18, 3) := by decide +kernel
theorem dX1_copyFrom_42 : decode cX1_copyFrom 42 = .ok (.iconst 0, 1) := by decide +kernel
theorem dX1_copyFrom_43 : decode cX1_copyFrom 43 = .ok (.aload_n 0, 1) := by decide +kernel
theorem dX1_copyFrom_44 : decode cX1_copyFrom 44 = .ok (.getfield 18, 3) := by decide +kernel
theorem dX1_copyFrom_47 : decode cX1_copyFrom 47 = .ok (.iconst 0, 1) := by decide +kernel
theorem dX1_copyFrom_48 : decode cX1_copyFrom 48 = .ok (.bipush 9, 2) := by decide +kernel
theorem dX1_copyFrom_50 : decode cX1_copyFrom 50 = .ok (.invokestatic 31, 3) := by decide +kernel
theorem dX1_copyFrom_53 : decode cX1_copyFrom 53 = .ok (.aload_n 0, 1) := by decide +kernel
theorem dX1_copyFrom_54 : decode cX1_copyFrom 54 = .ok (.aload_n 1, 1) := by decide +kernel
theorem dX1_copyFrom_55 : decode cX1_copyFrom 55 = .ok (.getfield 37, 3) := by decide +kernel
theorem dX1_copyFrom_58 : decode cX1_copyFrom 58 = .ok (.putfield 37, 3) := by decide +kernel
theorem dX1_copyFrom_61 : decode cX1_copyFrom 61 = .ok (.aload_n 0, 1) := by decide +kernel
theorem dX1_copyFrom_62 : decode cX1_copyFrom 62 = .ok (.aload_n 1, 1) := by decide +kernel
theorem dX1_copyFrom_63 : decode cX1_copyFrom 63 = .ok (.getfield 40, 3) := by decide +kernel
theorem dX1_copyFrom_66 : decode cX1_copyFrom 66 = .ok (.putfield 40, 3) := by decide +kernel
theorem dX1_copyFrom_69 : decode cX1_copyFrom 69 = .ok (.aload_n 1, 1) := by decide +kernel
theorem dX1_copyFrom_70 : decode cX1_copyFrom 70 = .ok (.getfield 21, 3) := by decide +kernel
theorem dX1_copyFrom_73 : decode cX1_copyFrom 73 = .ok (.iconst 0, 1) := by decide +kernel
theorem dX1_copyFrom_74 : decode cX1_copyFrom 74 = .ok (.aload_n 0, 1) := by decide +kernel
theorem dX1_copyFrom_75 : decode cX1_copyFrom 75 = .ok (.getfield 21, 3) := by decide +kernel
theorem dX1_copyFrom_78 : decode cX1_copyFrom 78 = .ok (.iconst 0, 1) := by decide +kernel
theorem dX1_copyFrom_79 : decode cX1_copyFrom 79 = .ok (.bipush 16, 2) := by decide +kernel
theorem dX1_copyFrom_81 : decode cX1_copyFrom 81 = .ok (.invokestatic 31, 3) := by decide +kernel
theorem dX1_copyFrom_84 : decode cX1_copyFrom 84 = .ok (.aload_n 1, 1) := by decide +kernel
theorem dX1_copyFrom_85 : decode cX1_copyFrom 85 = .ok (.getfield 24, 3) := by decide +kernel
theorem dX1_copyFrom_88 : decode cX1_copyFrom 88 = .ok (.iconst 0, 1) := by decide +kernel
theorem dX1_copyFrom_89 : decode cX1_copyFrom 89 = .ok (.aload_n 0, 1) := by decide +kernel
theorem dX1_copyFrom_90 : decode cX1_copyFrom 90 = .ok (.getfield 24, 3) := by decide +kernel
theorem dX1_copyFrom_93 : decode cX1_copyFrom 93 = .ok (.iconst 0, 1) := by decide +kernel
theorem dX1_copyFrom_94 : decode cX1_copyFrom 94 = .ok (.bipush 16, 2) := by decide +kernel
theorem dX1_copyFrom_96 : decode cX1_copyFrom 96 = .ok (.invokestatic 31, 3) := by decide +kernel
theorem dX1_copyFrom_99 : decode cX1_copyFrom 99 = .ok (.aload_n 0, 1) := by decide +kernel
theorem dX1_copyFrom_100 : decode cX1_copyFrom 100 = .ok (.aload_n 1, 1) := by decide +kernel
theorem dX1_copyFrom_101 : decode cX1_copyFrom 101 = .ok (.getfield 43, 3) := by decide +kernel
theorem dX1_copyFrom_104 : decode cX1_copyFrom 104 = .ok (.putfield 43, 3) := by decide +kernel
theorem dX1_copyFrom_107 : decode cX1_copyFrom 107 = .ok (.aload_n 0, 1) := by decide +kernel
theorem dX1_copyFrom_108 : decode cX1_copyFrom 108 = .ok (.aload_n 1, 1) := by decide +kernel
theorem dX1_copyFrom_109 : decode cX1_copyFrom 109 = .ok (.getfield 46, 3) := by decide +kernel
theorem dX1_copyFrom_112 : decode cX1_copyFrom 112 = .ok (.putfield 46, 3) := by decide +kernel
theorem dX1_copyFrom_115 : decode cX1_copyFrom 115 = .ok (.return_, 1) := by decide +kernel
theorem dX1_hasMagnet_0 : decode cX1_hasMagnet 0 = .ok (.iload_n 1, 1) := by decide +kernel
theorem dX1_hasMagnet_1 : decode cX1_hasMagnet 1 = .ok (.ifCond .lt 15, 3) := by decide +kernel
theorem dX1_hasMagnet_4 : decode cX1_hasMagnet 4 = .ok (.iload_n 1, 1) := by decide +kernel
theorem dX1_hasMagnet_5 : decode cX1_hasMagnet 5 = .ok (.aload_n 0, 1) := by decide +kernel
theorem dX1_hasMagnet_6 : decode cX1_hasMagnet 6 = .ok (.getfield 27, 3) := by decide +kernel
theorem dX1_hasMagnet_9 : decode cX1_hasMagnet 9 = .ok (.if_icmp .ge 7, 3) := by decide +kernel
theorem dX1_hasMagnet_12 : decode cX1_hasMagnet 12 = .ok (.iconst 1, 1) := by decide +kernel
theorem dX1_hasMagnet_13 : decode cX1_hasMagnet 13 = .ok (.goto 4, 3) := by decide +kernel
theorem dX1_hasMagnet_16 : decode cX1_hasMagnet 16 = .ok (.iconst 0, 1) := by decide +kernel
theorem dX1_hasMagnet_17 : decode cX1_hasMagnet 17 = .ok (.ireturn, 1) := by decide +kernel
theorem dX1_hasTunnel_0 : decode cX1_hasTunnel 0 = .ok (.iload_n 1, 1) := by decide +kernel
theorem dX1_hasTunnel_1 : decode cX1_hasTunnel 1 = .ok (.ifCond .lt 15, 3) := by decide +kernel
theorem dX1_hasTunnel_4 : decode cX1_hasTunnel 4 = .ok (.iload_n 1, 1) := by decide +kernel
theorem dX1_hasTunnel_5 : decode cX1_hasTunnel 5 = .ok (.aload_n 0, 1) := by decide +kernel
theorem dX1_hasTunnel_6 : decode cX1_hasTunnel 6 = .ok (.getfield 40, 3) := by decide +kernel
theorem dX1_hasTunnel_9 : decode cX1_hasTunnel 9 = .ok (.if_icmp .ge 7, 3) := by decide +kernel
theorem dX1_hasTunnel_12 : decode cX1_hasTunnel 12 = .ok (.iconst 1, 1) := by decide +kernel
theorem dX1_hasTunnel_13 : decode cX1_hasTunnel 13 = .ok (.goto 4, 3) := by decide +kernel
theorem dX1_hasTunnel_16 : decode cX1_hasTunnel 16 = .ok (.iconst 0, 1) := by decide +kernel
theorem dX1_hasTunnel_17 : decode cX1_hasTunnel 17 = .ok (.ireturn, 1) := by decide +kernel
theorem dX1_magnetOn_0 : decode cX1_magnetOn 0 = .ok (.iconst 0, 1) := by decide +kernel
theorem dX1_magnetOn_1 : decode cX1_magnetOn 1 = .ok (.istore_n 2, 1) := by decide +kernel
theorem dX1_magnetOn_2 : decode cX1_magnetOn 2 = .ok (.iload_n 2, 1) := by decide +kernel
theorem dX1_magnetOn_3 : decode cX1_magnetOn 3 = .ok (.aload_n 0, 1) := by decide +kernel
theorem dX1_magnetOn_4 : decode cX1_magnetOn 4 = .ok (.getfield 27, 3) := by decide +kernel
theorem dX1_magnetOn_7 : decode cX1_magnetOn 7 = .ok (.if_icmp .ge 21, 3) := by decide +kernel
theorem dX1_magnetOn_10 : decode cX1_magnetOn 10 = .ok (.aload_n 0, 1) := by decide +kernel
theorem dX1_magnetOn_11 : decode cX1_magnetOn 11 = .ok (.getfield 9, 3) := by decide +kernel
theorem dX1_magnetOn_14 : decode cX1_magnetOn 14 = .ok (.iload_n 2, 1) := by decide +kernel
theorem dX1_magnetOn_15 : decode cX1_magnetOn 15 = .ok (.iaload, 1) := by decide +kernel
theorem dX1_magnetOn_16 : decode cX1_magnetOn 16 = .ok (.iload_n 1, 1) := by decide +kernel
theorem dX1_magnetOn_17 : decode cX1_magnetOn 17 = .ok (.if_icmp .ne 5, 3) := by decide +kernel
theorem dX1_magnetOn_20 : decode cX1_magnetOn 20 = .ok (.iload_n 2, 1) := by decide +kernel
theorem dX1_magnetOn_21 : decode cX1_magnetOn 21 = .ok (.ireturn, 1) := by decide +kernel
theorem dX1_magnetOn_22 : decode cX1_magnetOn 22 = .ok (.iinc 2 1, 3) := by decide +kernel
theorem dX1_magnetOn_25 : decode cX1_magnetOn 25 = .ok (.goto (-23), 3) := by decide +kernel
theorem dX1_magnetOn_28 : decode cX1_magnetOn 28 = .ok (.iconst (-1), 1) := by decide +kernel
theorem dX1_magnetOn_29 : decode cX1_magnetOn 29 = .ok (.ireturn, 1) := by decide +kernel
theorem dX1_magnetOfRank_0 : decode cX1_magnetOfRank 0 = .ok (.iconst 0, 1) := by decide +kernel
theorem dX1_magnetOfRank_1 : decode cX1_magnetOfRank 1 = .ok (.istore_n 2, 1) := by decide +kernel
theorem dX1_magnetOfRank_2 : decode cX1_magnetOfRank 2 = .ok (.iload_n 2, 1) := by decide +kernel
theorem dX1_magnetOfRank_3 : decode cX1_magnetOfRank 3 = .ok (.aload_n 0, 1) := by decide +kernel
theorem dX1_magnetOfRank_4 : decode cX1_magnetOfRank 4 = .ok (.getfield 27, 3) := by decide +kernel
theorem dX1_magnetOfRank_7 : decode cX1_magnetOfRank 7 = .ok (.if_icmp .ge 20, 3) := by decide +kernel
theorem dX1_magnetOfRank_10 : decode cX1_magnetOfRank 10 = .ok (.aload_n 0, 1) := by decide +kernel
theorem dX1_magnetOfRank_11 : decode cX1_magnetOfRank 11 = .ok (.iload_n 2, 1) := by decide +kernel
theorem dX1_magnetOfRank_12 : decode cX1_magnetOfRank 12 = .ok (.invokevirtual 49, 3) := by decide +kernel
theorem dX1_magnetOfRank_15 : decode cX1_magnetOfRank 15 = .ok (.iload_n 1, 1) := by decide +kernel
theorem dX1_magnetOfRank_16 : decode cX1_magnetOfRank 16 = .ok (.if_icmp .ne 5, 3) := by decide +kernel
theorem dX1_magnetOfRank_19 : decode cX1_magnetOfRank 19 = .ok (.iload_n 2, 1) := by decide +kernel
theorem dX1_magnetOfRank_20 : decode cX1_magnetOfRank 20 = .ok (.ireturn, 1) := by decide +kernel
theorem dX1_magnetOfRank_21 : decode cX1_magnetOfRank 21 = .ok (.iinc 2 1, 3) := by decide +kernel
theorem dX1_magnetOfRank_24 : decode cX1_magnetOfRank 24 = .ok (.goto (-22), 3) := by decide +kernel
theorem dX1_magnetOfRank_27 : decode cX1_magnetOfRank 27 = .ok (.iconst (-1), 1) := by decide +kernel
theorem dX1_magnetOfRank_28 : decode cX1_magnetOfRank 28 = .ok (.ireturn, 1) := by decide +kernel
theorem dX1_rankOf_0 : decode cX1_rankOf 0 = .ok (.iconst 0, 1) := by decide +kernel
theorem dX1_rankOf_1 : decode cX1_rankOf 1 = .ok (.istore_n 2, 1) := by decide +kernel
theorem dX1_rankOf_2 : decode cX1_rankOf 2 = .ok (.iconst 0, 1) := by decide +kernel
theorem dX1_rankOf_3 : decode cX1_rankOf 3 = .ok (.istore_n 3, 1) := by decide +kernel
theorem dX1_rankOf_4 : decode cX1_rankOf 4 = .ok (.iload_n 3, 1) := by decide +kernel
theorem dX1_rankOf_5 : decode cX1_rankOf 5 = .ok (.aload_n 0, 1) := by decide +kernel
theorem dX1_rankOf_6 : decode cX1_rankOf 6 = .ok (.getfield 27, 3) := by decide +kernel
theorem dX1_rankOf_9 : decode cX1_rankOf 9 = .ok (.if_icmp .ge 81, 3) := by decide +kernel
theorem dX1_rankOf_12 : decode cX1_rankOf 12 = .ok (.aload_n 0, 1) := by decide +kernel
theorem dX1_rankOf_13 : decode cX1_rankOf 13 = .ok (.getfield 15, 3) := by decide +kernel
theorem dX1_rankOf_16 : decode cX1_rankOf 16 = .ok (.iload_n 3, 1) := by decide +kernel
theorem dX1_rankOf_17 : decode cX1_rankOf 17 = .ok (.iaload, 1) := by decide +kernel
theorem dX1_rankOf_18 : decode cX1_rankOf 18 = .ok (.aload_n 0, 1) := by decide +kernel
theorem dX1_rankOf_19 : decode cX1_rankOf 19 = .ok (.getfield 15, 3) := by decide +kernel
theorem dX1_rankOf_22 : decode cX1_rankOf 22 = .ok (.iload_n 1, 1) := by decide +kernel
theorem dX1_rankOf_23 : decode cX1_rankOf 23 = .ok (.iaload, 1) := by decide +kernel
theorem dX1_rankOf_24 : decode cX1_rankOf 24 = .ok (.if_icmp .le 7, 3) := by decide +kernel
theorem dX1_rankOf_27 : decode cX1_rankOf 27 = .ok (.iconst 1, 1) := by decide +kernel
theorem dX1_rankOf_28 : decode cX1_rankOf 28 = .ok (.goto 4, 3) := by decide +kernel
theorem dX1_rankOf_31 : decode cX1_rankOf 31 = .ok (.iconst 0, 1) := by decide +kernel
theorem dX1_rankOf_32 : decode cX1_rankOf 32 = .ok (.istore 4, 2) := by decide +kernel
theorem dX1_rankOf_34 : decode cX1_rankOf 34 = .ok (.aload_n 0, 1) := by decide +kernel
theorem dX1_rankOf_35 : decode cX1_rankOf 35 = .ok (.getfield 15, 3) := by decide +kernel
theorem dX1_rankOf_38 : decode cX1_rankOf 38 = .ok (.iload_n 3, 1) := by decide +kernel
theorem dX1_rankOf_39 : decode cX1_rankOf 39 = .ok (.iaload, 1) := by decide +kernel
theorem dX1_rankOf_40 : decode cX1_rankOf 40 = .ok (.aload_n 0, 1) := by decide +kernel
theorem dX1_rankOf_41 : decode cX1_rankOf 41 = .ok (.getfield 15, 3) := by decide +kernel
theorem dX1_rankOf_44 : decode cX1_rankOf 44 = .ok (.iload_n 1, 1) := by decide +kernel
theorem dX1_rankOf_45 : decode cX1_rankOf 45 = .ok (.iaload, 1) := by decide +kernel
theorem dX1_rankOf_46 : decode cX1_rankOf 46 = .ok (.if_icmp .ne 7, 3) := by decide +kernel
theorem dX1_rankOf_49 : decode cX1_rankOf 49 = .ok (.iconst 1, 1) := by decide +kernel
theorem dX1_rankOf_50 : decode cX1_rankOf 50 = .ok (.goto 4, 3) := by decide +kernel
theorem dX1_rankOf_53 : decode cX1_rankOf 53 = .ok (.iconst 0, 1) := by decide +kernel
theorem dX1_rankOf_54 : decode cX1_rankOf 54 = .ok (.istore 5, 2) := by decide +kernel
theorem dX1_rankOf_56 : decode cX1_rankOf 56 = .ok (.iload 4, 2) := by decide +kernel
theorem dX1_rankOf_58 : decode cX1_rankOf 58 = .ok (.ifCond .ne 23, 3) := by decide +kernel
theorem dX1_rankOf_61 : decode cX1_rankOf 61 = .ok (.iload 5, 2) := by decide +kernel
theorem dX1_rankOf_63 : decode cX1_rankOf 63 = .ok (.ifCond .eq 21, 3) := by decide +kernel
theorem dX1_rankOf_66 : decode cX1_rankOf 66 = .ok (.aload_n 0, 1) := by decide +kernel
theorem dX1_rankOf_67 : decode cX1_rankOf 67 = .ok (.getfield 9, 3) := by decide +kernel
theorem dX1_rankOf_70 : decode cX1_rankOf 70 = .ok (.iload_n 3, 1) := by decide +kernel
theorem dX1_rankOf_71 : decode cX1_rankOf 71 = .ok (.iaload, 1) := by decide +kernel
theorem dX1_rankOf_72 : decode cX1_rankOf 72 = .ok (.aload_n 0, 1) := by decide +kernel
theorem dX1_rankOf_73 : decode cX1_rankOf 73 = .ok (.getfield 9, 3) := by decide +kernel
theorem dX1_rankOf_76 : decode cX1_rankOf 76 = .ok (.iload_n 1, 1) := by decide +kernel
theorem dX1_rankOf_77 : decode cX1_rankOf 77 = .ok (.iaload, 1) := by decide +kernel
theorem dX1_rankOf_78 : decode cX1_rankOf 78 = .ok (.if_icmp .ge 6, 3) := by decide +kernel
theorem dX1_rankOf_81 : decode cX1_rankOf 81 = .ok (.iinc 2 1, 3) := by decide +kernel
theorem dX1_rankOf_84 : decode cX1_rankOf 84 = .ok (.iinc 3 1, 3) := by decide +kernel
theorem dX1_rankOf_87 : decode cX1_rankOf 87 = .ok (.goto (-83), 3) := by decide +kernel
theorem dX1_rankOf_90 : decode cX1_rankOf 90 = .ok (.iload_n 2, 1) := by decide +kernel
theorem dX1_rankOf_91 : decode cX1_rankOf 91 = .ok (.ireturn, 1) := by decide +kernel
theorem dX1_poleSign_0 : decode cX1_poleSign 0 = .ok (.aload_n 0, 1) := by decide +kernel
theorem dX1_poleSign_1 : decode cX1_poleSign 1 = .ok (.getfield 37, 3) := by decide +kernel
theorem dX1_poleSign_4 : decode cX1_poleSign 4 = .ok (.iload_n 1, 1) := by decide +kernel
theorem dX1_poleSign_5 : decode cX1_poleSign 5 = .ok (.invokestatic 53, 3) := by decide +kernel
theorem dX1_poleSign_8 : decode cX1_poleSign 8 = .ok (.ifCond .eq 8, 3) := by decide +kernel
theorem dX1_poleSign_11 : decode cX1_poleSign 11 = .ok (.bipush 110, 2) := by decide +kernel
theorem dX1_poleSign_13 : decode cX1_poleSign 13 = .ok (.goto 5, 3) := by decide +kernel
theorem dX1_poleSign_16 : decode cX1_poleSign 16 = .ok (.bipush 115, 2) := by decide +kernel
theorem dX1_poleSign_18 : decode cX1_poleSign 18 = .ok (.ireturn, 1) := by decide +kernel
theorem dX1_sumOfStrengths_0 : decode cX1_sumOfStrengths 0 = .ok (.iconst 0, 1) := by decide +kernel
theorem dX1_sumOfStrengths_1 : decode cX1_sumOfStrengths 1 = .ok (.istore_n 1, 1) := by decide +kernel
theorem dX1_sumOfStrengths_2 : decode cX1_sumOfStrengths 2 = .ok (.iconst 0, 1) := by decide +kernel
theorem dX1_sumOfStrengths_3 : decode cX1_sumOfStrengths 3 = .ok (.istore_n 2, 1) := by decide +kernel
theorem dX1_sumOfStrengths_4 : decode cX1_sumOfStrengths 4 = .ok (.iload_n 2, 1) := by decide +kernel
theorem dX1_sumOfStrengths_5 : decode cX1_sumOfStrengths 5 = .ok (.aload_n 0, 1) := by decide +kernel
theorem dX1_sumOfStrengths_6 : decode cX1_sumOfStrengths 6 = .ok (.getfield 27, 3) := by decide +kernel
theorem dX1_sumOfStrengths_9 : decode cX1_sumOfStrengths 9 = .ok (.if_icmp .ge 18, 3) := by decide +kernel
theorem dX1_sumOfStrengths_12 : decode cX1_sumOfStrengths 12 = .ok (.iload_n 1, 1) := by decide +kernel
theorem dX1_sumOfStrengths_13 : decode cX1_sumOfStrengths 13 = .ok (.aload_n 0, 1) := by decide +kernel
theorem dX1_sumOfStrengths_14 : decode cX1_sumOfStrengths 14 = .ok (.getfield 15, 3) := by decide +kernel
theorem dX1_sumOfStrengths_17 : decode cX1_sumOfStrengths 17 = .ok (.iload_n 2, 1) := by decide +kernel
theorem dX1_sumOfStrengths_18 : decode cX1_sumOfStrengths 18 = .ok (.iaload, 1) := by decide +kernel
theorem dX1_sumOfStrengths_19 : decode cX1_sumOfStrengths 19 = .ok (.iadd, 1) := by decide +kernel
theorem dX1_sumOfStrengths_20 : decode cX1_sumOfStrengths 20 = .ok (.istore_n 1, 1) := by decide +kernel
theorem dX1_sumOfStrengths_21 : decode cX1_sumOfStrengths 21 = .ok (.iinc 2 1, 3) := by decide +kernel
theorem dX1_sumOfStrengths_24 : decode cX1_sumOfStrengths 24 = .ok (.goto (-20), 3) := by decide +kernel
theorem dX1_sumOfStrengths_27 : decode cX1_sumOfStrengths 27 = .ok (.iload_n 1, 1) := by decide +kernel
theorem dX1_sumOfStrengths_28 : decode cX1_sumOfStrengths 28 = .ok (.ireturn, 1) := by decide +kernel
theorem dX1_place_0 : decode cX1_place 0 = .ok (.aload_n 0, 1) := by decide +kernel
theorem dX1_place_1 : decode cX1_place 1 = .ok (.getfield 27, 3) := by decide +kernel
theorem dX1_place_4 : decode cX1_place 4 = .ok (.istore 4, 2) := by decide +kernel
theorem dX1_place_6 : decode cX1_place 6 = .ok (.aload_n 0, 1) := by decide +kernel
theorem dX1_place_7 : decode cX1_place 7 = .ok (.getfield 9, 3) := by decide +kernel
theorem dX1_place_10 : decode cX1_place 10 = .ok (.iload 4, 2) := by decide +kernel
theorem dX1_place_12 : decode cX1_place 12 = .ok (.iload_n 1, 1) := by decide +kernel
theorem dX1_place_13 : decode cX1_place 13 = .ok (.iastore, 1) := by decide +kernel
theorem dX1_place_14 : decode cX1_place 14 = .ok (.aload_n 0, 1) := by decide +kernel
theorem dX1_place_15 : decode cX1_place 15 = .ok (.getfield 15, 3) := by decide +kernel
theorem dX1_place_18 : decode cX1_place 18 = .ok (.iload 4, 2) := by decide +kernel
theorem dX1_place_20 : decode cX1_place 20 = .ok (.iload_n 2, 1) := by decide +kernel
theorem dX1_place_21 : decode cX1_place 21 = .ok (.iastore, 1) := by decide +kernel
theorem dX1_place_22 : decode cX1_place 22 = .ok (.aload_n 0, 1) := by decide +kernel
theorem dX1_place_23 : decode cX1_place 23 = .ok (.getfield 18, 3) := by decide +kernel
theorem dX1_place_26 : decode cX1_place 26 = .ok (.iload 4, 2) := by decide +kernel
theorem dX1_place_28 : decode cX1_place 28 = .ok (.iconst 0, 1) := by decide +kernel
theorem dX1_place_29 : decode cX1_place 29 = .ok (.iastore, 1) := by decide +kernel
theorem dX1_place_30 : decode cX1_place 30 = .ok (.iload_n 3, 1) := by decide +kernel
theorem dX1_place_31 : decode cX1_place 31 = .ok (.ifCond .eq 16, 3) := by decide +kernel
theorem dX1_place_34 : decode cX1_place 34 = .ok (.aload_n 0, 1) := by decide +kernel
theorem dX1_place_35 : decode cX1_place 35 = .ok (.dup, 1) := by decide +kernel
theorem dX1_place_36 : decode cX1_place 36 = .ok (.getfield 37, 3) := by decide +kernel
theorem dX1_place_39 : decode cX1_place 39 = .ok (.iconst 1, 1) := by decide +kernel
theorem dX1_place_40 : decode cX1_place 40 = .ok (.iload 4, 2) := by decide +kernel
theorem dX1_place_42 : decode cX1_place 42 = .ok (.ishl, 1) := by decide +kernel
theorem dX1_place_43 : decode cX1_place 43 = .ok (.ior, 1) := by decide +kernel
theorem dX1_place_44 : decode cX1_place 44 = .ok (.putfield 37, 3) := by decide +kernel
theorem dX1_place_47 : decode cX1_place 47 = .ok (.aload_n 0, 1) := by decide +kernel
theorem dX1_place_48 : decode cX1_place 48 = .ok (.dup, 1) := by decide +kernel
theorem dX1_place_49 : decode cX1_place 49 = .ok (.getfield 27, 3) := by decide +kernel
theorem dX1_place_52 : decode cX1_place 52 = .ok (.iconst 1, 1) := by decide +kernel
theorem dX1_place_53 : decode cX1_place 53 = .ok (.iadd, 1) := by decide +kernel
theorem dX1_place_54 : decode cX1_place 54 = .ok (.putfield 27, 3) := by decide +kernel
theorem dX1_place_57 : decode cX1_place 57 = .ok (.iload 4, 2) := by decide +kernel
theorem dX1_place_59 : decode cX1_place 59 = .ok (.ireturn, 1) := by decide +kernel
theorem dX1_strengthen_0 : decode cX1_strengthen 0 = .ok (.aload_n 0, 1) := by decide +kernel
theorem dX1_strengthen_1 : decode cX1_strengthen 1 = .ok (.getfield 15, 3) := by decide +kernel
theorem dX1_strengthen_4 : decode cX1_strengthen 4 = .ok (.iload_n 1, 1) := by decide +kernel
theorem dX1_strengthen_5 : decode cX1_strengthen 5 = .ok (.iaload, 1) := by decide +kernel
theorem dX1_strengthen_6 : decode cX1_strengthen 6 = .ok (.istore_n 3, 1) := by decide +kernel
theorem dX1_strengthen_7 : decode cX1_strengthen 7 = .ok (.aload_n 0, 1) := by decide +kernel
theorem dX1_strengthen_8 : decode cX1_strengthen 8 = .ok (.getfield 15, 3) := by decide +kernel
theorem dX1_strengthen_11 : decode cX1_strengthen 11 = .ok (.iload_n 1, 1) := by decide +kernel
theorem dX1_strengthen_12 : decode cX1_strengthen 12 = .ok (.iload_n 2, 1) := by decide +kernel
theorem dX1_strengthen_13 : decode cX1_strengthen 13 = .ok (.iastore, 1) := by decide +kernel
theorem dX1_strengthen_14 : decode cX1_strengthen 14 = .ok (.iload_n 3, 1) := by decide +kernel
theorem dX1_strengthen_15 : decode cX1_strengthen 15 = .ok (.ireturn, 1) := by decide +kernel
theorem dX1_turnFrom_0 : decode cX1_turnFrom 0 = .ok (.iconst 0, 1) := by decide +kernel
theorem dX1_turnFrom_1 : decode cX1_turnFrom 1 = .ok (.istore_n 2, 1) := by decide +kernel
theorem dX1_turnFrom_2 : decode cX1_turnFrom 2 = .ok (.iconst 0, 1) := by decide +kernel
theorem dX1_turnFrom_3 : decode cX1_turnFrom 3 = .ok (.istore_n 3, 1) := by decide +kernel
theorem dX1_turnFrom_4 : decode cX1_turnFrom 4 = .ok (.iload_n 3, 1) := by decide +kernel
theorem dX1_turnFrom_5 : decode cX1_turnFrom 5 = .ok (.aload_n 0, 1) := by decide +kernel
theorem dX1_turnFrom_6 : decode cX1_turnFrom 6 = .ok (.getfield 27, 3) := by decide +kernel
theorem dX1_turnFrom_9 : decode cX1_turnFrom 9 = .ok (.if_icmp .ge 25, 3) := by decide +kernel
theorem dX1_turnFrom_12 : decode cX1_turnFrom 12 = .ok (.aload_n 0, 1) := by decide +kernel
theorem dX1_turnFrom_13 : decode cX1_turnFrom 13 = .ok (.getfield 9, 3) := by decide +kernel
theorem dX1_turnFrom_16 : decode cX1_turnFrom 16 = .ok (.iload_n 3, 1) := by decide +kernel
theorem dX1_turnFrom_17 : decode cX1_turnFrom 17 = .ok (.iaload, 1) := by decide +kernel
theorem dX1_turnFrom_18 : decode cX1_turnFrom 18 = .ok (.iload_n 1, 1) := by decide +kernel
theorem dX1_turnFrom_19 : decode cX1_turnFrom 19 = .ok (.if_icmp .lt 9, 3) := by decide +kernel
theorem dX1_turnFrom_22 : decode cX1_turnFrom 22 = .ok (.iload_n 2, 1) := by decide +kernel
theorem dX1_turnFrom_23 : decode cX1_turnFrom 23 = .ok (.iconst 1, 1) := by decide +kernel
theorem dX1_turnFrom_24 : decode cX1_turnFrom 24 = .ok (.iload_n 3, 1) := by decide +kernel
theorem dX1_turnFrom_25 : decode cX1_turnFrom 25 = .ok (.ishl, 1) := by decide +kernel
theorem dX1_turnFrom_26 : decode cX1_turnFrom 26 = .ok (.ior, 1) := by decide +kernel
theorem dX1_turnFrom_27 : decode cX1_turnFrom 27 = .ok (.istore_n 2, 1) := by decide +kernel
theorem dX1_turnFrom_28 : decode cX1_turnFrom 28 = .ok (.iinc 3 1, 3) := by decide +kernel
theorem dX1_turnFrom_31 : decode cX1_turnFrom 31 = .ok (.goto (-27), 3) := by decide +kernel
theorem dX1_turnFrom_34 : decode cX1_turnFrom 34 = .ok (.aload_n 0, 1) := by decide +kernel
theorem dX1_turnFrom_35 : decode cX1_turnFrom 35 = .ok (.iload_n 2, 1) := by decide +kernel
theorem dX1_turnFrom_36 : decode cX1_turnFrom 36 = .ok (.invokevirtual 57, 3) := by decide +kernel
theorem dX1_turnFrom_39 : decode cX1_turnFrom 39 = .ok (.ireturn, 1) := by decide +kernel
theorem dX1_turnSet_0 : decode cX1_turnSet 0 = .ok (.iconst 0, 1) := by decide +kernel
theorem dX1_turnSet_1 : decode cX1_turnSet 1 = .ok (.istore_n 2, 1) := by decide +kernel
theorem dX1_turnSet_2 : decode cX1_turnSet 2 = .ok (.iload_n 2, 1) := by decide +kernel
theorem dX1_turnSet_3 : decode cX1_turnSet 3 = .ok (.aload_n 0, 1) := by decide +kernel
theorem dX1_turnSet_4 : decode cX1_turnSet 4 = .ok (.getfield 27, 3) := by decide +kernel
theorem dX1_turnSet_7 : decode cX1_turnSet 7 = .ok (.if_icmp .ge 27, 3) := by decide +kernel
theorem dX1_turnSet_10 : decode cX1_turnSet 10 = .ok (.iload_n 1, 1) := by decide +kernel
theorem dX1_turnSet_11 : decode cX1_turnSet 11 = .ok (.iload_n 2, 1) := by decide +kernel
theorem dX1_turnSet_12 : decode cX1_turnSet 12 = .ok (.invokestatic 53, 3) := by decide +kernel
theorem dX1_turnSet_15 : decode cX1_turnSet 15 = .ok (.ifCond .eq 13, 3) := by decide +kernel
theorem dX1_turnSet_18 : decode cX1_turnSet 18 = .ok (.aload_n 0, 1) := by decide +kernel
theorem dX1_turnSet_19 : decode cX1_turnSet 19 = .ok (.getfield 18, 3) := by decide +kernel
theorem dX1_turnSet_22 : decode cX1_turnSet 22 = .ok (.iload_n 2, 1) := by decide +kernel
theorem dX1_turnSet_23 : decode cX1_turnSet 23 = .ok (.dup2, 1) := by decide +kernel
theorem dX1_turnSet_24 : decode cX1_turnSet 24 = .ok (.iaload, 1) := by decide +kernel
theorem dX1_turnSet_25 : decode cX1_turnSet 25 = .ok (.iconst 1, 1) := by decide +kernel
theorem dX1_turnSet_26 : decode cX1_turnSet 26 = .ok (.iadd, 1) := by decide +kernel
theorem dX1_turnSet_27 : decode cX1_turnSet 27 = .ok (.iastore, 1) := by decide +kernel
theorem dX1_turnSet_28 : decode cX1_turnSet 28 = .ok (.iinc 2 1, 3) := by decide +kernel
theorem dX1_turnSet_31 : decode cX1_turnSet 31 = .ok (.goto (-29), 3) := by decide +kernel
theorem dX1_turnSet_34 : decode cX1_turnSet 34 = .ok (.aload_n 0, 1) := by decide +kernel
theorem dX1_turnSet_35 : decode cX1_turnSet 35 = .ok (.dup, 1) := by decide +kernel
theorem dX1_turnSet_36 : decode cX1_turnSet 36 = .ok (.getfield 37, 3) := by decide +kernel
theorem dX1_turnSet_39 : decode cX1_turnSet 39 = .ok (.iload_n 1, 1) := by decide +kernel
theorem dX1_turnSet_40 : decode cX1_turnSet 40 = .ok (.ixor, 1) := by decide +kernel
theorem dX1_turnSet_41 : decode cX1_turnSet 41 = .ok (.putfield 37, 3) := by decide +kernel
theorem dX1_turnSet_44 : decode cX1_turnSet 44 = .ok (.iload_n 1, 1) := by decide +kernel
theorem dX1_turnSet_45 : decode cX1_turnSet 45 = .ok (.invokestatic 60, 3) := by decide +kernel
theorem dX1_turnSet_48 : decode cX1_turnSet 48 = .ok (.istore_n 2, 1) := by decide +kernel
theorem dX1_turnSet_49 : decode cX1_turnSet 49 = .ok (.aload_n 0, 1) := by decide +kernel
theorem dX1_turnSet_50 : decode cX1_turnSet 50 = .ok (.dup, 1) := by decide +kernel
theorem dX1_turnSet_51 : decode cX1_turnSet 51 = .ok (.getfield 43, 3) := by decide +kernel
theorem dX1_turnSet_54 : decode cX1_turnSet 54 = .ok (.iload_n 2, 1) := by decide +kernel
theorem dX1_turnSet_55 : decode cX1_turnSet 55 = .ok (.iadd, 1) := by decide +kernel
theorem dX1_turnSet_56 : decode cX1_turnSet 56 = .ok (.putfield 43, 3) := by decide +kernel
theorem dX1_turnSet_59 : decode cX1_turnSet 59 = .ok (.iload_n 2, 1) := by decide +kernel
theorem dX1_turnSet_60 : decode cX1_turnSet 60 = .ok (.ireturn, 1) := by decide +kernel
theorem dX1_tunnelBetween_0 : decode cX1_tunnelBetween 0 = .ok (.iconst 0, 1) := by decide +kernel
theorem dX1_tunnelBetween_1 : decode cX1_tunnelBetween 1 = .ok (.istore_n 3, 1) := by decide +kernel
theorem dX1_tunnelBetween_2 : decode cX1_tunnelBetween 2 = .ok (.iload_n 3, 1) := by decide +kernel
theorem dX1_tunnelBetween_3 : decode cX1_tunnelBetween 3 = .ok (.aload_n 0, 1) := by decide +kernel
theorem dX1_tunnelBetween_4 : decode cX1_tunnelBetween 4 = .ok (.getfield 40, 3) := by decide +kernel
theorem dX1_tunnelBetween_7 : decode cX1_tunnelBetween 7 = .ok (.if_icmp .ge 21, 3) := by decide +kernel
theorem dX1_tunnelBetween_10 : decode cX1_tunnelBetween 10 = .ok (.aload_n 0, 1) := by decide +kernel
theorem dX1_tunnelBetween_11 : decode cX1_tunnelBetween 11 = .ok (.iload_n 3, 1) := by decide +kernel
theorem dX1_tunnelBetween_12 : decode cX1_tunnelBetween 12 = .ok (.iload_n 1, 1) := by decide +kernel
theorem dX1_tunnelBetween_13 : decode cX1_tunnelBetween 13 = .ok (.invokevirtual 65, 3) := by decide +kernel
theorem dX1_tunnelBetween_16 : decode cX1_tunnelBetween 16 = .ok (.iload_n 2, 1) := by decide +kernel
theorem dX1_tunnelBetween_17 : decode cX1_tunnelBetween 17 = .ok (.if_icmp .ne 5, 3) := by decide +kernel
theorem dX1_tunnelBetween_20 : decode cX1_tunnelBetween 20 = .ok (.iload_n 3, 1) := by decide +kernel
theorem dX1_tunnelBetween_21 : decode cX1_tunnelBetween 21 = .ok (.ireturn, 1) := by decide +kernel
theorem dX1_tunnelBetween_22 : decode cX1_tunnelBetween 22 = .ok (.iinc 3 1, 3) := by decide +kernel
theorem dX1_tunnelBetween_25 : decode cX1_tunnelBetween 25 = .ok (.goto (-23), 3) := by decide +kernel
theorem dX1_tunnelBetween_28 : decode cX1_tunnelBetween 28 = .ok (.iconst (-1), 1) := by decide +kernel
theorem dX1_tunnelBetween_29 : decode cX1_tunnelBetween 29 = .ok (.ireturn, 1) := by decide +kernel
theorem dX1_otherEnd_0 : decode cX1_otherEnd 0 = .ok (.aload_n 0, 1) := by decide +kernel
theorem dX1_otherEnd_1 : decode cX1_otherEnd 1 = .ok (.getfield 21, 3) := by decide +kernel
theorem dX1_otherEnd_4 : decode cX1_otherEnd 4 = .ok (.iload_n 1, 1) := by decide +kernel
theorem dX1_otherEnd_5 : decode cX1_otherEnd 5 = .ok (.iaload, 1) := by decide +kernel
theorem dX1_otherEnd_6 : decode cX1_otherEnd 6 = .ok (.iload_n 2, 1) := by decide +kernel
theorem dX1_otherEnd_7 : decode cX1_otherEnd 7 = .ok (.if_icmp .ne 10, 3) := by decide +kernel
theorem dX1_otherEnd_10 : decode cX1_otherEnd 10 = .ok (.aload_n 0, 1) := by decide +kernel
theorem dX1_otherEnd_11 : decode cX1_otherEnd 11 = .ok (.getfield 24, 3) := by decide +kernel
theorem dX1_otherEnd_14 : decode cX1_otherEnd 14 = .ok (.iload_n 1, 1) := by decide +kernel
theorem dX1_otherEnd_15 : decode cX1_otherEnd 15 = .ok (.iaload, 1) := by decide +kernel
theorem dX1_otherEnd_16 : decode cX1_otherEnd 16 = .ok (.ireturn, 1) := by decide +kernel
theorem dX1_otherEnd_17 : decode cX1_otherEnd 17 = .ok (.aload_n 0, 1) := by decide +kernel
theorem dX1_otherEnd_18 : decode cX1_otherEnd 18 = .ok (.getfield 24, 3) := by decide +kernel
theorem dX1_otherEnd_21 : decode cX1_otherEnd 21 = .ok (.iload_n 1, 1) := by decide +kernel
theorem dX1_otherEnd_22 : decode cX1_otherEnd 22 = .ok (.iaload, 1) := by decide +kernel
theorem dX1_otherEnd_23 : decode cX1_otherEnd 23 = .ok (.iload_n 2, 1) := by decide +kernel
theorem dX1_otherEnd_24 : decode cX1_otherEnd 24 = .ok (.if_icmp .ne 12, 3) := by decide +kernel
theorem dX1_otherEnd_27 : decode cX1_otherEnd 27 = .ok (.aload_n 0, 1) := by decide +kernel
theorem dX1_otherEnd_28 : decode cX1_otherEnd 28 = .ok (.getfield 21, 3) := by decide +kernel
theorem dX1_otherEnd_31 : decode cX1_otherEnd 31 = .ok (.iload_n 1, 1) := by decide +kernel
theorem dX1_otherEnd_32 : decode cX1_otherEnd 32 = .ok (.iaload, 1) := by decide +kernel
theorem dX1_otherEnd_33 : decode cX1_otherEnd 33 = .ok (.goto 4, 3) := by decide +kernel
theorem dX1_otherEnd_36 : decode cX1_otherEnd 36 = .ok (.iconst (-1), 1) := by decide +kernel
theorem dX1_otherEnd_37 : decode cX1_otherEnd 37 = .ok (.ireturn, 1) := by decide +kernel
theorem dX1_hasUnlikePoles_0 : decode cX1_hasUnlikePoles 0 = .ok (.aload_n 0, 1) := by decide +kernel
theorem dX1_hasUnlikePoles_1 : decode cX1_hasUnlikePoles 1 = .ok (.aload_n 0, 1) := by decide +kernel
theorem dX1_hasUnlikePoles_2 : decode cX1_hasUnlikePoles 2 = .ok (.getfield 37, 3) := by decide +kernel
theorem dX1_hasUnlikePoles_5 : decode cX1_hasUnlikePoles 5 = .ok (.iload_n 1, 1) := by decide +kernel
theorem dX1_hasUnlikePoles_6 : decode cX1_hasUnlikePoles 6 = .ok (.invokevirtual 69, 3) := by decide +kernel
theorem dX1_hasUnlikePoles_9 : decode cX1_hasUnlikePoles 9 = .ok (.ifCond .ne 7, 3) := by decide +kernel
theorem dX1_hasUnlikePoles_12 : decode cX1_hasUnlikePoles 12 = .ok (.iconst 1, 1) := by decide +kernel
theorem dX1_hasUnlikePoles_13 : decode cX1_hasUnlikePoles 13 = .ok (.goto 4, 3) := by decide +kernel
theorem dX1_hasUnlikePoles_16 : decode cX1_hasUnlikePoles 16 = .ok (.iconst 0, 1) := by decide +kernel
theorem dX1_hasUnlikePoles_17 : decode cX1_hasUnlikePoles 17 = .ok (.ireturn, 1) := by decide +kernel
theorem dX1_isBlockedWith_0 : decode cX1_isBlockedWith 0 = .ok (.iload_n 1, 1) := by decide +kernel
theorem dX1_isBlockedWith_1 : decode cX1_isBlockedWith 1 = .ok (.aload_n 0, 1) := by decide +kernel
theorem dX1_isBlockedWith_2 : decode cX1_isBlockedWith 2 = .ok (.getfield 21, 3) := by decide +kernel
theorem dX1_isBlockedWith_5 : decode cX1_isBlockedWith 5 = .ok (.iload_n 2, 1) := by decide +kernel
theorem dX1_isBlockedWith_6 : decode cX1_isBlockedWith 6 = .ok (.iaload, 1) := by decide +kernel
theorem dX1_isBlockedWith_7 : decode cX1_isBlockedWith 7 = .ok (.ishr, 1) := by decide +kernel
theorem dX1_isBlockedWith_8 : decode cX1_isBlockedWith 8 = .ok (.iload_n 1, 1) := by decide +kernel
theorem dX1_isBlockedWith_9 : decode cX1_isBlockedWith 9 = .ok (.aload_n 0, 1) := by decide +kernel
theorem dX1_isBlockedWith_10 : decode cX1_isBlockedWith 10 = .ok (.getfield 24, 3) := by decide +kernel
theorem dX1_isBlockedWith_13 : decode cX1_isBlockedWith 13 = .ok (.iload_n 2, 1) := by decide +kernel
theorem dX1_isBlockedWith_14 : decode cX1_isBlockedWith 14 = .ok (.iaload, 1) := by decide +kernel
theorem dX1_isBlockedWith_15 : decode cX1_isBlockedWith 15 = .ok (.ishr, 1) := by decide +kernel
theorem dX1_isBlockedWith_16 : decode cX1_isBlockedWith 16 = .ok (.ixor, 1) := by decide +kernel
theorem dX1_isBlockedWith_17 : decode cX1_isBlockedWith 17 = .ok (.iconst 1, 1) := by decide +kernel
theorem dX1_isBlockedWith_18 : decode cX1_isBlockedWith 18 = .ok (.iand, 1) := by decide +kernel
theorem dX1_isBlockedWith_19 : decode cX1_isBlockedWith 19 = .ok (.ifCond .ne 7, 3) := by decide +kernel
theorem dX1_isBlockedWith_22 : decode cX1_isBlockedWith 22 = .ok (.iconst 1, 1) := by decide +kernel
theorem dX1_isBlockedWith_23 : decode cX1_isBlockedWith 23 = .ok (.goto 4, 3) := by decide +kernel
theorem dX1_isBlockedWith_26 : decode cX1_isBlockedWith 26 = .ok (.iconst 0, 1) := by decide +kernel
theorem dX1_isBlockedWith_27 : decode cX1_isBlockedWith 27 = .ok (.ireturn, 1) := by decide +kernel
theorem dX1_countBlocked_0 : decode cX1_countBlocked 0 = .ok (.aload_n 0, 1) := by decide +kernel
theorem dX1_countBlocked_1 : decode cX1_countBlocked 1 = .ok (.aload_n 0, 1) := by decide +kernel
theorem dX1_countBlocked_2 : decode cX1_countBlocked 2 = .ok (.getfield 37, 3) := by decide +kernel
theorem dX1_countBlocked_5 : decode cX1_countBlocked 5 = .ok (.invokevirtual 72, 3) := by decide +kernel
theorem dX1_countBlocked_8 : decode cX1_countBlocked 8 = .ok (.ireturn, 1) := by decide +kernel
theorem dX1_countBlockedWith_0 : decode cX1_countBlockedWith 0 = .ok (.iconst 0, 1) := by decide +kernel
theorem dX1_countBlockedWith_1 : decode cX1_countBlockedWith 1 = .ok (.istore_n 2, 1) := by decide +kernel
theorem dX1_countBlockedWith_2 : decode cX1_countBlockedWith 2 = .ok (.iconst 0, 1) := by decide +kernel
theorem dX1_countBlockedWith_3 : decode cX1_countBlockedWith 3 = .ok (.istore_n 3, 1) := by decide +kernel
theorem dX1_countBlockedWith_4 : decode cX1_countBlockedWith 4 = .ok (.iload_n 3, 1) := by decide +kernel
theorem dX1_countBlockedWith_5 : decode cX1_countBlockedWith 5 = .ok (.aload_n 0, 1) := by decide +kernel
theorem dX1_countBlockedWith_6 : decode cX1_countBlockedWith 6 = .ok (.getfield 40, 3) := by decide +kernel
theorem dX1_countBlockedWith_9 : decode cX1_countBlockedWith 9 = .ok (.if_icmp .ge 26, 3) := by decide +kernel
theorem dX1_countBlockedWith_12 : decode cX1_countBlockedWith 12 = .ok (.iload_n 2, 1) := by decide +kernel
theorem dX1_countBlockedWith_13 : decode cX1_countBlockedWith 13 = .ok (.aload_n 0, 1) := by decide +kernel
theorem dX1_countBlockedWith_14 : decode cX1_countBlockedWith 14 = .ok (.iload_n 1, 1) := by decide +kernel
theorem dX1_countBlockedWith_15 : decode cX1_countBlockedWith 15 = .ok (.iload_n 3, 1) := by decide +kernel
theorem dX1_countBlockedWith_16 : decode cX1_countBlockedWith 16 = .ok (.invokevirtual 69, 3) := by decide +kernel
theorem dX1_countBlockedWith_19 : decode cX1_countBlockedWith 19 = .ok (.ifCond .eq 7, 3) := by decide +kernel
theorem dX1_countBlockedWith_22 : decode cX1_countBlockedWith 22 = .ok (.iconst 1, 1) := by decide +kernel
theorem dX1_countBlockedWith_23 : decode cX1_countBlockedWith 23 = .ok (.goto 4, 3) := by decide +kernel
theorem dX1_countBlockedWith_26 : decode cX1_countBlockedWith 26 = .ok (.iconst 0, 1) := by decide +kernel
theorem dX1_countBlockedWith_27 : decode cX1_countBlockedWith 27 = .ok (.iadd, 1) := by decide +kernel
theorem dX1_countBlockedWith_28 : decode cX1_countBlockedWith 28 = .ok (.istore_n 2, 1) := by decide +kernel
theorem dX1_countBlockedWith_29 : decode cX1_countBlockedWith 29 = .ok (.iinc 3 1, 3) := by decide +kernel
theorem dX1_countBlockedWith_32 : decode cX1_countBlockedWith 32 = .ok (.goto (-28), 3) := by decide +kernel
theorem dX1_countBlockedWith_35 : decode cX1_countBlockedWith 35 = .ok (.iload_n 2, 1) := by decide +kernel
theorem dX1_countBlockedWith_36 : decode cX1_countBlockedWith 36 = .ok (.ireturn, 1) := by decide +kernel
theorem dX1_join_0 : decode cX1_join 0 = .ok (.aload_n 0, 1) := by decide +kernel
theorem dX1_join_1 : decode cX1_join 1 = .ok (.getfield 40, 3) := by decide +kernel
theorem dX1_join_4 : decode cX1_join 4 = .ok (.istore_n 3, 1) := by decide +kernel
theorem dX1_join_5 : decode cX1_join 5 = .ok (.aload_n 0, 1) := by decide +kernel
theorem dX1_join_6 : decode cX1_join 6 = .ok (.getfield 21, 3) := by decide +kernel
theorem dX1_join_9 : decode cX1_join 9 = .ok (.iload_n 3, 1) := by decide +kernel
theorem dX1_join_10 : decode cX1_join 10 = .ok (.iload_n 1, 1) := by decide +kernel
theorem dX1_join_11 : decode cX1_join 11 = .ok (.iastore, 1) := by decide +kernel
theorem dX1_join_12 : decode cX1_join 12 = .ok (.aload_n 0, 1) := by decide +kernel
theorem dX1_join_13 : decode cX1_join 13 = .ok (.getfield 24, 3) := by decide +kernel
theorem dX1_join_16 : decode cX1_join 16 = .ok (.iload_n 3, 1) := by decide +kernel
theorem dX1_join_17 : decode cX1_join 17 = .ok (.iload_n 2, 1) := by decide +kernel
theorem dX1_join_18 : decode cX1_join 18 = .ok (.iastore, 1) := by decide +kernel
theorem dX1_join_19 : decode cX1_join 19 = .ok (.aload_n 0, 1) := by decide +kernel
theorem dX1_join_20 : decode cX1_join 20 = .ok (.dup, 1) := by decide +kernel
theorem dX1_join_21 : decode cX1_join 21 = .ok (.getfield 40, 3) := by decide +kernel
theorem dX1_join_24 : decode cX1_join 24 = .ok (.iconst 1, 1) := by decide +kernel
theorem dX1_join_25 : decode cX1_join 25 = .ok (.iadd, 1) := by decide +kernel
theorem dX1_join_26 : decode cX1_join 26 = .ok (.putfield 40, 3) := by decide +kernel
theorem dX1_join_29 : decode cX1_join 29 = .ok (.iload_n 3, 1) := by decide +kernel
theorem dX1_join_30 : decode cX1_join 30 = .ok (.ireturn, 1) := by decide +kernel
theorem dX1_remove_0 : decode cX1_remove 0 = .ok (.aload_n 0, 1) := by decide +kernel
theorem dX1_remove_1 : decode cX1_remove 1 = .ok (.dup, 1) := by decide +kernel
theorem dX1_remove_2 : decode cX1_remove 2 = .ok (.getfield 40, 3) := by decide +kernel
theorem dX1_remove_5 : decode cX1_remove 5 = .ok (.iconst 1, 1) := by decide +kernel
theorem dX1_remove_6 : decode cX1_remove 6 = .ok (.isub, 1) := by decide +kernel
theorem dX1_remove_7 : decode cX1_remove 7 = .ok (.putfield 40, 3) := by decide +kernel
theorem dX1_remove_10 : decode cX1_remove 10 = .ok (.iload_n 1, 1) := by decide +kernel
theorem dX1_remove_11 : decode cX1_remove 11 = .ok (.istore_n 2, 1) := by decide +kernel
theorem dX1_remove_12 : decode cX1_remove 12 = .ok (.iload_n 2, 1) := by decide +kernel
theorem dX1_remove_13 : decode cX1_remove 13 = .ok (.aload_n 0, 1) := by decide +kernel
theorem dX1_remove_14 : decode cX1_remove 14 = .ok (.getfield 40, 3) := by decide +kernel
theorem dX1_remove_17 : decode cX1_remove 17 = .ok (.if_icmp .ge 37, 3) := by decide +kernel
theorem dX1_remove_20 : decode cX1_remove 20 = .ok (.aload_n 0, 1) := by decide +kernel
theorem dX1_remove_21 : decode cX1_remove 21 = .ok (.getfield 21, 3) := by decide +kernel
theorem dX1_remove_24 : decode cX1_remove 24 = .ok (.iload_n 2, 1) := by decide +kernel
theorem dX1_remove_25 : decode cX1_remove 25 = .ok (.aload_n 0, 1) := by decide +kernel
theorem dX1_remove_26 : decode cX1_remove 26 = .ok (.getfield 21, 3) := by decide +kernel
theorem dX1_remove_29 : decode cX1_remove 29 = .ok (.iload_n 2, 1) := by decide +kernel
theorem dX1_remove_30 : decode cX1_remove 30 = .ok (.iconst 1, 1) := by decide +kernel
theorem dX1_remove_31 : decode cX1_remove 31 = .ok (.iadd, 1) := by decide +kernel
theorem dX1_remove_32 : decode cX1_remove 32 = .ok (.iaload, 1) := by decide +kernel
theorem dX1_remove_33 : decode cX1_remove 33 = .ok (.iastore, 1) := by decide +kernel
theorem dX1_remove_34 : decode cX1_remove 34 = .ok (.aload_n 0, 1) := by decide +kernel
theorem dX1_remove_35 : decode cX1_remove 35 = .ok (.getfield 24, 3) := by decide +kernel
theorem dX1_remove_38 : decode cX1_remove 38 = .ok (.iload_n 2, 1) := by decide +kernel
theorem dX1_remove_39 : decode cX1_remove 39 = .ok (.aload_n 0, 1) := by decide +kernel
theorem dX1_remove_40 : decode cX1_remove 40 = .ok (.getfield 24, 3) := by decide +kernel
theorem dX1_remove_43 : decode cX1_remove 43 = .ok (.iload_n 2, 1) := by decide +kernel
theorem dX1_remove_44 : decode cX1_remove 44 = .ok (.iconst 1, 1) := by decide +kernel
theorem dX1_remove_45 : decode cX1_remove 45 = .ok (.iadd, 1) := by decide +kernel
theorem dX1_remove_46 : decode cX1_remove 46 = .ok (.iaload, 1) := by decide +kernel
theorem dX1_remove_47 : decode cX1_remove 47 = .ok (.iastore, 1) := by decide +kernel
theorem dX1_remove_48 : decode cX1_remove 48 = .ok (.iinc 2 1, 3) := by decide +kernel
theorem dX1_remove_51 : decode cX1_remove 51 = .ok (.goto (-39), 3) := by decide +kernel
theorem dX1_remove_54 : decode cX1_remove 54 = .ok (.aload_n 0, 1) := by decide +kernel
theorem dX1_remove_55 : decode cX1_remove 55 = .ok (.getfield 40, 3) := by decide +kernel
theorem dX1_remove_58 : decode cX1_remove 58 = .ok (.ireturn, 1) := by decide +kernel
theorem dX2_init_0 : decode cX2_init 0 = .ok (.aload_n 0, 1) := by decide +kernel
theorem dX2_init_1 : decode cX2_init 1 = .ok (.invokespecial 1, 3) := by decide +kernel
theorem dX2_init_4 : decode cX2_init 4 = .ok (.return_, 1) := by decide +kernel
theorem dX2_setParameter_0 : decode cX2_setParameter 0 = .ok (.iload_n 1, 1) := by decide +kernel
theorem dX2_setParameter_1 : decode cX2_setParameter 1 = .ok (.lookupswitch 43 #[(0, 27), (1, 35)], 27) := by decide +kernel
theorem dX2_setParameter_28 : decode cX2_setParameter 28 = .ok (.aload_n 0, 1) := by decide +kernel
theorem dX2_setParameter_29 : decode cX2_setParameter 29 = .ok (.iload_n 2, 1) := by decide +kernel
theorem dX2_setParameter_30 : decode cX2_setParameter 30 = .ok (.putfield 7, 3) := by decide +kernel
theorem dX2_setParameter_33 : decode cX2_setParameter 33 = .ok (.goto 16, 3) := by decide +kernel
theorem dX2_setParameter_36 : decode cX2_setParameter 36 = .ok (.aload_n 0, 1) := by decide +kernel
theorem dX2_setParameter_37 : decode cX2_setParameter 37 = .ok (.iload_n 2, 1) := by decide +kernel
theorem dX2_setParameter_38 : decode cX2_setParameter 38 = .ok (.putfield 13, 3) := by decide +kernel
theorem dX2_setParameter_41 : decode cX2_setParameter 41 = .ok (.goto 8, 3) := by decide +kernel
theorem dX2_setParameter_44 : decode cX2_setParameter 44 = .ok (.aload_n 0, 1) := by decide +kernel
theorem dX2_setParameter_45 : decode cX2_setParameter 45 = .ok (.iload_n 2, 1) := by decide +kernel
theorem dX2_setParameter_46 : decode cX2_setParameter 46 = .ok (.putfield 16, 3) := by decide +kernel
theorem dX2_setParameter_49 : decode cX2_setParameter 49 = .ok (.return_, 1) := by decide +kernel
end
section
theorem dX3_init_0 : decode cX3_init 0 = .ok (.aload_n 0, 1) := by decide +kernel
theorem dX3_init_1 : decode cX3_init 1 = .ok (.invokespecial 3, 3) := by decide +kernel
theorem dX3_init_4 : decode cX3_init 4 = .ok (.aload_n 0, 1) := by decide +kernel
theorem dX3_init_5 : decode cX3_init 5 = .ok (.aload_n 1, 1) := by decide +kernel
theorem dX3_init_6 : decode cX3_init 6 = .ok (.putfield 9, 3) := by decide +kernel
theorem dX3_init_9 : decode cX3_init 9 = .ok (.return_, 1) := by decide +kernel
theorem dX3_forceOn_0 : decode cX3_forceOn 0 = .ok (.fconst 0, 1) := by decide +kernel
theorem dX3_forceOn_1 : decode cX3_forceOn 1 = .ok (.fstore_n 2, 1) := by decide +kernel
theorem dX3_forceOn_2 : decode cX3_forceOn 2 = .ok (.iconst 0, 1) := by decide +kernel
theorem dX3_forceOn_3 : decode cX3_forceOn 3 = .ok (.istore_n 3, 1) := by decide +kernel
theorem dX3_forceOn_4 : decode cX3_forceOn 4 = .ok (.iload_n 3, 1) := by decide +kernel
theorem dX3_forceOn_5 : decode cX3_forceOn 5 = .ok (.aload_n 0, 1) := by decide +kernel
theorem dX3_forceOn_6 : decode cX3_forceOn 6 = .ok (.getfield 9, 3) := by decide +kernel
theorem dX3_forceOn_9 : decode cX3_forceOn 9 = .ok (.getfield 15, 3) := by decide +kernel
theorem dX3_forceOn_12 : decode cX3_forceOn 12 = .ok (.if_icmp .ge 135, 3) := by decide +kernel
theorem dX3_forceOn_15 : decode cX3_forceOn 15 = .ok (.aload_n 0, 1) := by decide +kernel
theorem dX3_forceOn_16 : decode cX3_forceOn 16 = .ok (.getfield 9, 3) := by decide +kernel
theorem dX3_forceOn_19 : decode cX3_forceOn 19 = .ok (.getfield 21, 3) := by decide +kernel
theorem dX3_forceOn_22 : decode cX3_forceOn 22 = .ok (.iload_n 1, 1) := by decide +kernel
theorem dX3_forceOn_23 : decode cX3_forceOn 23 = .ok (.iaload, 1) := by decide +kernel
theorem dX3_forceOn_24 : decode cX3_forceOn 24 = .ok (.aload_n 0, 1) := by decide +kernel
theorem dX3_forceOn_25 : decode cX3_forceOn 25 = .ok (.getfield 9, 3) := by decide +kernel
theorem dX3_forceOn_28 : decode cX3_forceOn 28 = .ok (.getfield 21, 3) := by decide +kernel
theorem dX3_forceOn_31 : decode cX3_forceOn 31 = .ok (.iload_n 3, 1) := by decide +kernel
theorem dX3_forceOn_32 : decode cX3_forceOn 32 = .ok (.iaload, 1) := by decide +kernel
theorem dX3_forceOn_33 : decode cX3_forceOn 33 = .ok (.isub, 1) := by decide +kernel
theorem dX3_forceOn_34 : decode cX3_forceOn 34 = .ok (.istore 4, 2) := by decide +kernel
theorem dX3_forceOn_36 : decode cX3_forceOn 36 = .ok (.iload 4, 2) := by decide +kernel
theorem dX3_forceOn_38 : decode cX3_forceOn 38 = .ok (.ifCond .eq 103, 3) := by decide +kernel
theorem dX3_forceOn_41 : decode cX3_forceOn 41 = .ok (.aload_n 0, 1) := by decide +kernel
theorem dX3_forceOn_42 : decode cX3_forceOn 42 = .ok (.getfield 9, 3) := by decide +kernel
theorem dX3_forceOn_45 : decode cX3_forceOn 45 = .ok (.getfield 25, 3) := by decide +kernel
theorem dX3_forceOn_48 : decode cX3_forceOn 48 = .ok (.iload_n 1, 1) := by decide +kernel
theorem dX3_forceOn_49 : decode cX3_forceOn 49 = .ok (.iaload, 1) := by decide +kernel
theorem dX3_forceOn_50 : decode cX3_forceOn 50 = .ok (.aload_n 0, 1) := by decide +kernel
theorem dX3_forceOn_51 : decode cX3_forceOn 51 = .ok (.getfield 9, 3) := by decide +kernel
theorem dX3_forceOn_54 : decode cX3_forceOn 54 = .ok (.getfield 25, 3) := by decide +kernel
theorem dX3_forceOn_57 : decode cX3_forceOn 57 = .ok (.iload_n 3, 1) := by decide +kernel
theorem dX3_forceOn_58 : decode cX3_forceOn 58 = .ok (.iaload, 1) := by decide +kernel
theorem dX3_forceOn_59 : decode cX3_forceOn 59 = .ok (.imul, 1) := by decide +kernel
theorem dX3_forceOn_60 : decode cX3_forceOn 60 = .ok (.i2f, 1) := by decide +kernel
theorem dX3_forceOn_61 : decode cX3_forceOn 61 = .ok (.iload 4, 2) := by decide +kernel
theorem dX3_forceOn_63 : decode cX3_forceOn 63 = .ok (.iload 4, 2) := by decide +kernel
theorem dX3_forceOn_65 : decode cX3_forceOn 65 = .ok (.imul, 1) := by decide +kernel
theorem dX3_forceOn_66 : decode cX3_forceOn 66 = .ok (.i2f, 1) := by decide +kernel
theorem dX3_forceOn_67 : decode cX3_forceOn 67 = .ok (.fdiv, 1) := by decide +kernel
theorem dX3_forceOn_68 : decode cX3_forceOn 68 = .ok (.fstore 5, 2) := by decide +kernel
theorem dX3_forceOn_70 : decode cX3_forceOn 70 = .ok (.aload_n 0, 1) := by decide +kernel
theorem dX3_forceOn_71 : decode cX3_forceOn 71 = .ok (.getfield 9, 3) := by decide +kernel
theorem dX3_forceOn_74 : decode cX3_forceOn 74 = .ok (.getfield 28, 3) := by decide +kernel
theorem dX3_forceOn_77 : decode cX3_forceOn 77 = .ok (.iload_n 1, 1) := by decide +kernel
theorem dX3_forceOn_78 : decode cX3_forceOn 78 = .ok (.invokestatic 31, 3) := by decide +kernel
theorem dX3_forceOn_81 : decode cX3_forceOn 81 = .ok (.aload_n 0, 1) := by decide +kernel
theorem dX3_forceOn_82 : decode cX3_forceOn 82 = .ok (.getfield 9, 3) := by decide +kernel
theorem dX3_forceOn_85 : decode cX3_forceOn 85 = .ok (.getfield 28, 3) := by decide +kernel
theorem dX3_forceOn_88 : decode cX3_forceOn 88 = .ok (.iload_n 3, 1) := by decide +kernel
theorem dX3_forceOn_89 : decode cX3_forceOn 89 = .ok (.invokestatic 31, 3) := by decide +kernel
theorem dX3_forceOn_92 : decode cX3_forceOn 92 = .ok (.if_icmp .ne 7, 3) := by decide +kernel
theorem dX3_forceOn_95 : decode cX3_forceOn 95 = .ok (.iconst 1, 1) := by decide +kernel
theorem dX3_forceOn_96 : decode cX3_forceOn 96 = .ok (.goto 4, 3) := by decide +kernel
theorem dX3_forceOn_99 : decode cX3_forceOn 99 = .ok (.iconst 0, 1) := by decide +kernel
theorem dX3_forceOn_100 : decode cX3_forceOn 100 = .ok (.istore 6, 2) := by decide +kernel
theorem dX3_forceOn_102 : decode cX3_forceOn 102 = .ok (.iload 6, 2) := by decide +kernel
theorem dX3_forceOn_104 : decode cX3_forceOn 104 = .ok (.iload 4, 2) := by decide +kernel
theorem dX3_forceOn_106 : decode cX3_forceOn 106 = .ok (.ifCond .le 7, 3) := by decide +kernel
theorem dX3_forceOn_109 : decode cX3_forceOn 109 = .ok (.iconst 1, 1) := by decide +kernel
theorem dX3_forceOn_110 : decode cX3_forceOn 110 = .ok (.goto 4, 3) := by decide +kernel
theorem dX3_forceOn_113 : decode cX3_forceOn 113 = .ok (.iconst 0, 1) := by decide +kernel
theorem dX3_forceOn_114 : decode cX3_forceOn 114 = .ok (.if_icmp .ne 7, 3) := by decide +kernel
theorem dX3_forceOn_117 : decode cX3_forceOn 117 = .ok (.iconst 1, 1) := by decide +kernel
theorem dX3_forceOn_118 : decode cX3_forceOn 118 = .ok (.goto 4, 3) := by decide +kernel
theorem dX3_forceOn_121 : decode cX3_forceOn 121 = .ok (.iconst 0, 1) := by decide +kernel
theorem dX3_forceOn_122 : decode cX3_forceOn 122 = .ok (.istore 7, 2) := by decide +kernel
theorem dX3_forceOn_124 : decode cX3_forceOn 124 = .ok (.iload 7, 2) := by decide +kernel
theorem dX3_forceOn_126 : decode cX3_forceOn 126 = .ok (.ifCond .eq 10, 3) := by decide +kernel
theorem dX3_forceOn_129 : decode cX3_forceOn 129 = .ok (.fload_n 2, 1) := by decide +kernel
theorem dX3_forceOn_130 : decode cX3_forceOn 130 = .ok (.fload 5, 2) := by decide +kernel
theorem dX3_forceOn_132 : decode cX3_forceOn 132 = .ok (.fadd, 1) := by decide +kernel
theorem dX3_forceOn_133 : decode cX3_forceOn 133 = .ok (.goto 7, 3) := by decide +kernel
theorem dX3_forceOn_136 : decode cX3_forceOn 136 = .ok (.fload_n 2, 1) := by decide +kernel
theorem dX3_forceOn_137 : decode cX3_forceOn 137 = .ok (.fload 5, 2) := by decide +kernel
theorem dX3_forceOn_139 : decode cX3_forceOn 139 = .ok (.fsub, 1) := by decide +kernel
theorem dX3_forceOn_140 : decode cX3_forceOn 140 = .ok (.fstore_n 2, 1) := by decide +kernel
theorem dX3_forceOn_141 : decode cX3_forceOn 141 = .ok (.iinc 3 1, 3) := by decide +kernel
theorem dX3_forceOn_144 : decode cX3_forceOn 144 = .ok (.goto (-140), 3) := by decide +kernel
theorem dX3_forceOn_147 : decode cX3_forceOn 147 = .ok (.fload_n 2, 1) := by decide +kernel
theorem dX3_forceOn_148 : decode cX3_forceOn 148 = .ok (.freturn, 1) := by decide +kernel
theorem dX3_moveEach_0 : decode cX3_moveEach 0 = .ok (.iconst 0, 1) := by decide +kernel
theorem dX3_moveEach_1 : decode cX3_moveEach 1 = .ok (.istore_n 1, 1) := by decide +kernel
theorem dX3_moveEach_2 : decode cX3_moveEach 2 = .ok (.iconst 0, 1) := by decide +kernel
theorem dX3_moveEach_3 : decode cX3_moveEach 3 = .ok (.istore_n 2, 1) := by decide +kernel
theorem dX3_moveEach_4 : decode cX3_moveEach 4 = .ok (.iload_n 2, 1) := by decide +kernel
theorem dX3_moveEach_5 : decode cX3_moveEach 5 = .ok (.aload_n 0, 1) := by decide +kernel
theorem dX3_moveEach_6 : decode cX3_moveEach 6 = .ok (.getfield 9, 3) := by decide +kernel
theorem dX3_moveEach_9 : decode cX3_moveEach 9 = .ok (.getfield 15, 3) := by decide +kernel
theorem dX3_moveEach_12 : decode cX3_moveEach 12 = .ok (.if_icmp .ge 41, 3) := by decide +kernel
theorem dX3_moveEach_15 : decode cX3_moveEach 15 = .ok (.aload_n 0, 1) := by decide +kernel
theorem dX3_moveEach_16 : decode cX3_moveEach 16 = .ok (.iload_n 2, 1) := by decide +kernel
theorem dX3_moveEach_17 : decode cX3_moveEach 17 = .ok (.invokevirtual 35, 3) := by decide +kernel
theorem dX3_moveEach_20 : decode cX3_moveEach 20 = .ok (.istore_n 3, 1) := by decide +kernel
theorem dX3_moveEach_21 : decode cX3_moveEach 21 = .ok (.iload_n 3, 1) := by decide +kernel
theorem dX3_moveEach_22 : decode cX3_moveEach 22 = .ok (.aload_n 0, 1) := by decide +kernel
theorem dX3_moveEach_23 : decode cX3_moveEach 23 = .ok (.getfield 9, 3) := by decide +kernel
theorem dX3_moveEach_26 : decode cX3_moveEach 26 = .ok (.getfield 21, 3) := by decide +kernel
theorem dX3_moveEach_29 : decode cX3_moveEach 29 = .ok (.iload_n 2, 1) := by decide +kernel
theorem dX3_moveEach_30 : decode cX3_moveEach 30 = .ok (.iaload, 1) := by decide +kernel
theorem dX3_moveEach_31 : decode cX3_moveEach 31 = .ok (.if_icmp .eq 16, 3) := by decide +kernel
theorem dX3_moveEach_34 : decode cX3_moveEach 34 = .ok (.aload_n 0, 1) := by decide +kernel
theorem dX3_moveEach_35 : decode cX3_moveEach 35 = .ok (.getfield 9, 3) := by decide +kernel
theorem dX3_moveEach_38 : decode cX3_moveEach 38 = .ok (.getfield 21, 3) := by decide +kernel
theorem dX3_moveEach_41 : decode cX3_moveEach 41 = .ok (.iload_n 2, 1) := by decide +kernel
theorem dX3_moveEach_42 : decode cX3_moveEach 42 = .ok (.iload_n 3, 1) := by decide +kernel
theorem dX3_moveEach_43 : decode cX3_moveEach 43 = .ok (.iastore, 1) := by decide +kernel
theorem dX3_moveEach_44 : decode cX3_moveEach 44 = .ok (.iinc 1 1, 3) := by decide +kernel
theorem dX3_moveEach_47 : decode cX3_moveEach 47 = .ok (.iinc 2 1, 3) := by decide +kernel
theorem dX3_moveEach_50 : decode cX3_moveEach 50 = .ok (.goto (-46), 3) := by decide +kernel
theorem dX3_moveEach_53 : decode cX3_moveEach 53 = .ok (.aload_n 0, 1) := by decide +kernel
theorem dX3_moveEach_54 : decode cX3_moveEach 54 = .ok (.getfield 9, 3) := by decide +kernel
theorem dX3_moveEach_57 : decode cX3_moveEach 57 = .ok (.dup, 1) := by decide +kernel
theorem dX3_moveEach_58 : decode cX3_moveEach 58 = .ok (.getfield 39, 3) := by decide +kernel
theorem dX3_moveEach_61 : decode cX3_moveEach 61 = .ok (.iload_n 1, 1) := by decide +kernel
theorem dX3_moveEach_62 : decode cX3_moveEach 62 = .ok (.iadd, 1) := by decide +kernel
theorem dX3_moveEach_63 : decode cX3_moveEach 63 = .ok (.putfield 39, 3) := by decide +kernel
theorem dX3_moveEach_66 : decode cX3_moveEach 66 = .ok (.iload_n 1, 1) := by decide +kernel
theorem dX3_moveEach_67 : decode cX3_moveEach 67 = .ok (.ireturn, 1) := by decide +kernel
theorem dX3_targetOf_0 : decode cX3_targetOf 0 = .ok (.aload_n 0, 1) := by decide +kernel
theorem dX3_targetOf_1 : decode cX3_targetOf 1 = .ok (.getfield 9, 3) := by decide +kernel
theorem dX3_targetOf_4 : decode cX3_targetOf 4 = .ok (.getfield 21, 3) := by decide +kernel
theorem dX3_targetOf_7 : decode cX3_targetOf 7 = .ok (.iload_n 1, 1) := by decide +kernel
theorem dX3_targetOf_8 : decode cX3_targetOf 8 = .ok (.iaload, 1) := by decide +kernel
theorem dX3_targetOf_9 : decode cX3_targetOf 9 = .ok (.istore_n 2, 1) := by decide +kernel
theorem dX3_targetOf_10 : decode cX3_targetOf 10 = .ok (.aload_n 0, 1) := by decide +kernel
theorem dX3_targetOf_11 : decode cX3_targetOf 11 = .ok (.iload_n 1, 1) := by decide +kernel
theorem dX3_targetOf_12 : decode cX3_targetOf 12 = .ok (.invokevirtual 42, 3) := by decide +kernel
theorem dX3_targetOf_15 : decode cX3_targetOf 15 = .ok (.fstore_n 3, 1) := by decide +kernel
theorem dX3_targetOf_16 : decode cX3_targetOf 16 = .ok (.iload_n 2, 1) := by decide +kernel
theorem dX3_targetOf_17 : decode cX3_targetOf 17 = .ok (.istore 4, 2) := by decide +kernel
theorem dX3_targetOf_19 : decode cX3_targetOf 19 = .ok (.fload_n 3, 1) := by decide +kernel
theorem dX3_targetOf_20 : decode cX3_targetOf 20 = .ok (.fconst 0, 1) := by decide +kernel
theorem dX3_targetOf_21 : decode cX3_targetOf 21 = .ok (.fcmp .l, 1) := by decide +kernel
theorem dX3_targetOf_22 : decode cX3_targetOf 22 = .ok (.ifCond .le 11, 3) := by decide +kernel
theorem dX3_targetOf_25 : decode cX3_targetOf 25 = .ok (.iload_n 2, 1) := by decide +kernel
theorem dX3_targetOf_26 : decode cX3_targetOf 26 = .ok (.iconst 1, 1) := by decide +kernel
theorem dX3_targetOf_27 : decode cX3_targetOf 27 = .ok (.iadd, 1) := by decide +kernel
theorem dX3_targetOf_28 : decode cX3_targetOf 28 = .ok (.istore 4, 2) := by decide +kernel
theorem dX3_targetOf_30 : decode cX3_targetOf 30 = .ok (.goto 14, 3) := by decide +kernel
theorem dX3_targetOf_33 : decode cX3_targetOf 33 = .ok (.fload_n 3, 1) := by decide +kernel
theorem dX3_targetOf_34 : decode cX3_targetOf 34 = .ok (.fconst 0, 1) := by decide +kernel
theorem dX3_targetOf_35 : decode cX3_targetOf 35 = .ok (.fcmp .g, 1) := by decide +kernel
theorem dX3_targetOf_36 : decode cX3_targetOf 36 = .ok (.ifCond .ge 8, 3) := by decide +kernel
theorem dX3_targetOf_39 : decode cX3_targetOf 39 = .ok (.iload_n 2, 1) := by decide +kernel
theorem dX3_targetOf_40 : decode cX3_targetOf 40 = .ok (.iconst 1, 1) := by decide +kernel
theorem dX3_targetOf_41 : decode cX3_targetOf 41 = .ok (.isub, 1) := by decide +kernel
theorem dX3_targetOf_42 : decode cX3_targetOf 42 = .ok (.istore 4, 2) := by decide +kernel
theorem dX3_targetOf_44 : decode cX3_targetOf 44 = .ok (.iload 4, 2) := by decide +kernel
theorem dX3_targetOf_46 : decode cX3_targetOf 46 = .ok (.invokestatic 46, 3) := by decide +kernel
theorem dX3_targetOf_49 : decode cX3_targetOf 49 = .ok (.ifCond .eq 21, 3) := by decide +kernel
theorem dX3_targetOf_52 : decode cX3_targetOf 52 = .ok (.aload_n 0, 1) := by decide +kernel
theorem dX3_targetOf_53 : decode cX3_targetOf 53 = .ok (.getfield 9, 3) := by decide +kernel
theorem dX3_targetOf_56 : decode cX3_targetOf 56 = .ok (.iload 4, 2) := by decide +kernel
theorem dX3_targetOf_58 : decode cX3_targetOf 58 = .ok (.invokevirtual 50, 3) := by decide +kernel
theorem dX3_targetOf_61 : decode cX3_targetOf 61 = .ok (.iconst (-1), 1) := by decide +kernel
theorem dX3_targetOf_62 : decode cX3_targetOf 62 = .ok (.if_icmp .ne 8, 3) := by decide +kernel
theorem dX3_targetOf_65 : decode cX3_targetOf 65 = .ok (.iload 4, 2) := by decide +kernel
theorem dX3_targetOf_67 : decode cX3_targetOf 67 = .ok (.goto 4, 3) := by decide +kernel
theorem dX3_targetOf_70 : decode cX3_targetOf 70 = .ok (.iload_n 2, 1) := by decide +kernel
theorem dX3_targetOf_71 : decode cX3_targetOf 71 = .ok (.ireturn, 1) := by decide +kernel
theorem dX3_fieldAt_0 : decode cX3_fieldAt 0 = .ok (.dconst 0, 1) := by decide +kernel
theorem dX3_fieldAt_1 : decode cX3_fieldAt 1 = .ok (.dstore_n 2, 1) := by decide +kernel
theorem dX3_fieldAt_2 : decode cX3_fieldAt 2 = .ok (.iconst 0, 1) := by decide +kernel
theorem dX3_fieldAt_3 : decode cX3_fieldAt 3 = .ok (.istore 4, 2) := by decide +kernel
theorem dX3_fieldAt_5 : decode cX3_fieldAt 5 = .ok (.iload 4, 2) := by decide +kernel
theorem dX3_fieldAt_7 : decode cX3_fieldAt 7 = .ok (.aload_n 0, 1) := by decide +kernel
theorem dX3_fieldAt_8 : decode cX3_fieldAt 8 = .ok (.getfield 9, 3) := by decide +kernel
theorem dX3_fieldAt_11 : decode cX3_fieldAt 11 = .ok (.getfield 15, 3) := by decide +kernel
theorem dX3_fieldAt_14 : decode cX3_fieldAt 14 = .ok (.if_icmp .ge 72, 3) := by decide +kernel
theorem dX3_fieldAt_17 : decode cX3_fieldAt 17 = .ok (.iload_n 1, 1) := by decide +kernel
theorem dX3_fieldAt_18 : decode cX3_fieldAt 18 = .ok (.aload_n 0, 1) := by decide +kernel
theorem dX3_fieldAt_19 : decode cX3_fieldAt 19 = .ok (.getfield 9, 3) := by decide +kernel
theorem dX3_fieldAt_22 : decode cX3_fieldAt 22 = .ok (.getfield 21, 3) := by decide +kernel
theorem dX3_fieldAt_25 : decode cX3_fieldAt 25 = .ok (.iload 4, 2) := by decide +kernel
theorem dX3_fieldAt_27 : decode cX3_fieldAt 27 = .ok (.iaload, 1) := by decide +kernel
theorem dX3_fieldAt_28 : decode cX3_fieldAt 28 = .ok (.isub, 1) := by decide +kernel
theorem dX3_fieldAt_29 : decode cX3_fieldAt 29 = .ok (.invokestatic 53, 3) := by decide +kernel
theorem dX3_fieldAt_32 : decode cX3_fieldAt 32 = .ok (.istore 5, 2) := by decide +kernel
theorem dX3_fieldAt_34 : decode cX3_fieldAt 34 = .ok (.aload_n 0, 1) := by decide +kernel
theorem dX3_fieldAt_35 : decode cX3_fieldAt 35 = .ok (.getfield 9, 3) := by decide +kernel
theorem dX3_fieldAt_38 : decode cX3_fieldAt 38 = .ok (.getfield 25, 3) := by decide +kernel
theorem dX3_fieldAt_41 : decode cX3_fieldAt 41 = .ok (.iload 4, 2) := by decide +kernel
theorem dX3_fieldAt_43 : decode cX3_fieldAt 43 = .ok (.iaload, 1) := by decide +kernel
theorem dX3_fieldAt_44 : decode cX3_fieldAt 44 = .ok (.i2d, 1) := by decide +kernel
theorem dX3_fieldAt_45 : decode cX3_fieldAt 45 = .ok (.iconst 1, 1) := by decide +kernel
theorem dX3_fieldAt_46 : decode cX3_fieldAt 46 = .ok (.iload 5, 2) := by decide +kernel
theorem dX3_fieldAt_48 : decode cX3_fieldAt 48 = .ok (.iadd, 1) := by decide +kernel
theorem dX3_fieldAt_49 : decode cX3_fieldAt 49 = .ok (.i2d, 1) := by decide +kernel
theorem dX3_fieldAt_50 : decode cX3_fieldAt 50 = .ok (.ddiv, 1) := by decide +kernel
theorem dX3_fieldAt_51 : decode cX3_fieldAt 51 = .ok (.dstore 6, 2) := by decide +kernel
theorem dX3_fieldAt_53 : decode cX3_fieldAt 53 = .ok (.aload_n 0, 1) := by decide +kernel
theorem dX3_fieldAt_54 : decode cX3_fieldAt 54 = .ok (.getfield 9, 3) := by decide +kernel
theorem dX3_fieldAt_57 : decode cX3_fieldAt 57 = .ok (.getfield 28, 3) := by decide +kernel
theorem dX3_fieldAt_60 : decode cX3_fieldAt 60 = .ok (.iload 4, 2) := by decide +kernel
theorem dX3_fieldAt_62 : decode cX3_fieldAt 62 = .ok (.invokestatic 31, 3) := by decide +kernel
theorem dX3_fieldAt_65 : decode cX3_fieldAt 65 = .ok (.ifCond .eq 10, 3) := by decide +kernel
theorem dX3_fieldAt_68 : decode cX3_fieldAt 68 = .ok (.dload_n 2, 1) := by decide +kernel
theorem dX3_fieldAt_69 : decode cX3_fieldAt 69 = .ok (.dload 6, 2) := by decide +kernel
theorem dX3_fieldAt_71 : decode cX3_fieldAt 71 = .ok (.dadd, 1) := by decide +kernel
theorem dX3_fieldAt_72 : decode cX3_fieldAt 72 = .ok (.goto 7, 3) := by decide +kernel
theorem dX3_fieldAt_75 : decode cX3_fieldAt 75 = .ok (.dload_n 2, 1) := by decide +kernel
theorem dX3_fieldAt_76 : decode cX3_fieldAt 76 = .ok (.dload 6, 2) := by decide +kernel
theorem dX3_fieldAt_78 : decode cX3_fieldAt 78 = .ok (.dsub, 1) := by decide +kernel
theorem dX3_fieldAt_79 : decode cX3_fieldAt 79 = .ok (.dstore_n 2, 1) := by decide +kernel
theorem dX3_fieldAt_80 : decode cX3_fieldAt 80 = .ok (.iinc 4 1, 3) := by decide +kernel
theorem dX3_fieldAt_83 : decode cX3_fieldAt 83 = .ok (.goto (-78), 3) := by decide +kernel
theorem dX3_fieldAt_86 : decode cX3_fieldAt 86 = .ok (.dload_n 2, 1) := by decide +kernel
theorem dX3_fieldAt_87 : decode cX3_fieldAt 87 = .ok (.dreturn, 1) := by decide +kernel
theorem dX3_unsignedFieldAt_0 : decode cX3_unsignedFieldAt 0 = .ok (.aload_n 0, 1) := by decide +kernel
theorem dX3_unsignedFieldAt_1 : decode cX3_unsignedFieldAt 1 = .ok (.iload_n 1, 1) := by decide +kernel
theorem dX3_unsignedFieldAt_2 : decode cX3_unsignedFieldAt 2 = .ok (.invokevirtual 58, 3) := by decide +kernel
theorem dX3_unsignedFieldAt_5 : decode cX3_unsignedFieldAt 5 = .ok (.dstore_n 2, 1) := by decide +kernel
theorem dX3_unsignedFieldAt_6 : decode cX3_unsignedFieldAt 6 = .ok (.dload_n 2, 1) := by decide +kernel
theorem dX3_unsignedFieldAt_7 : decode cX3_unsignedFieldAt 7 = .ok (.dconst 0, 1) := by decide +kernel
theorem dX3_unsignedFieldAt_8 : decode cX3_unsignedFieldAt 8 = .ok (.dcmp .g, 1) := by decide +kernel
theorem dX3_unsignedFieldAt_9 : decode cX3_unsignedFieldAt 9 = .ok (.ifCond .ge 8, 3) := by decide +kernel
theorem dX3_unsignedFieldAt_12 : decode cX3_unsignedFieldAt 12 = .ok (.dload_n 2, 1) := by decide +kernel
theorem dX3_unsignedFieldAt_13 : decode cX3_unsignedFieldAt 13 = .ok (.dneg, 1) := by decide +kernel
theorem dX3_unsignedFieldAt_14 : decode cX3_unsignedFieldAt 14 = .ok (.goto 4, 3) := by decide +kernel
theorem dX3_unsignedFieldAt_17 : decode cX3_unsignedFieldAt 17 = .ok (.dload_n 2, 1) := by decide +kernel
theorem dX3_unsignedFieldAt_18 : decode cX3_unsignedFieldAt 18 = .ok (.dreturn, 1) := by decide +kernel
theorem dX3_positionOfStrongestField_0 : decode cX3_positionOfStrongestField 0 = .ok (.aload_n 0, 1) := by decide +kernel
theorem dX3_positionOfStrongestField_1 : decode cX3_positionOfStrongestField 1 = .ok (.getfield 9, 3) := by decide +kernel
theorem dX3_positionOfStrongestField_4 : decode cX3_positionOfStrongestField 4 = .ok (.getfield 15, 3) := by decide +kernel
theorem dX3_positionOfStrongestField_7 : decode cX3_positionOfStrongestField 7 = .ok (.ifCond .ne 5, 3) := by decide +kernel
theorem dX3_positionOfStrongestField_10 : decode cX3_positionOfStrongestField 10 = .ok (.iconst (-1), 1) := by decide +kernel
theorem dX3_positionOfStrongestField_11 : decode cX3_positionOfStrongestField 11 = .ok (.ireturn, 1) := by decide +kernel
theorem dX3_positionOfStrongestField_12 : decode cX3_positionOfStrongestField 12 = .ok (.iconst 0, 1) := by decide +kernel
theorem dX3_positionOfStrongestField_13 : decode cX3_positionOfStrongestField 13 = .ok (.istore_n 1, 1) := by decide +kernel
theorem dX3_positionOfStrongestField_14 : decode cX3_positionOfStrongestField 14 = .ok (.aload_n 0, 1) := by decide +kernel
theorem dX3_positionOfStrongestField_15 : decode cX3_positionOfStrongestField 15 = .ok (.iconst 0, 1) := by decide +kernel
theorem dX3_positionOfStrongestField_16 : decode cX3_positionOfStrongestField 16 = .ok (.invokevirtual 62, 3) := by decide +kernel
theorem dX3_positionOfStrongestField_19 : decode cX3_positionOfStrongestField 19 = .ok (.dstore_n 2, 1) := by decide +kernel
theorem dX3_positionOfStrongestField_20 : decode cX3_positionOfStrongestField 20 = .ok (.iconst 1, 1) := by decide +kernel
theorem dX3_positionOfStrongestField_21 : decode cX3_positionOfStrongestField 21 = .ok (.istore 4, 2) := by decide +kernel
theorem dX3_positionOfStrongestField_23 : decode cX3_positionOfStrongestField 23 = .ok (.iload 4, 2) := by decide +kernel
theorem dX3_positionOfStrongestField_25 : decode cX3_positionOfStrongestField 25 = .ok (.bipush 100, 2) := by decide +kernel
theorem dX3_positionOfStrongestField_27 : decode cX3_positionOfStrongestField 27 = .ok (.if_icmp .ge 30, 3) := by decide +kernel
theorem dX3_positionOfStrongestField_30 : decode cX3_positionOfStrongestField 30 = .ok (.aload_n 0, 1) := by decide +kernel
theorem dX3_positionOfStrongestField_31 : decode cX3_positionOfStrongestField 31 = .ok (.iload 4, 2) := by decide +kernel
theorem dX3_positionOfStrongestField_33 : decode cX3_positionOfStrongestField 33 = .ok (.invokevirtual 62, 3) := by decide +kernel
theorem dX3_positionOfStrongestField_36 : decode cX3_positionOfStrongestField 36 = .ok (.dstore 5, 2) := by decide +kernel
theorem dX3_positionOfStrongestField_38 : decode cX3_positionOfStrongestField 38 = .ok (.dload 5, 2) := by decide +kernel
theorem dX3_positionOfStrongestField_40 : decode cX3_positionOfStrongestField 40 = .ok (.dload_n 2, 1) := by decide +kernel
theorem dX3_positionOfStrongestField_41 : decode cX3_positionOfStrongestField 41 = .ok (.dcmp .l, 1) := by decide +kernel
theorem dX3_positionOfStrongestField_42 : decode cX3_positionOfStrongestField 42 = .ok (.ifCond .le 9, 3) := by decide +kernel
theorem dX3_positionOfStrongestField_45 : decode cX3_positionOfStrongestField 45 = .ok (.iload 4, 2) := by decide +kernel
theorem dX3_positionOfStrongestField_47 : decode cX3_positionOfStrongestField 47 = .ok (.istore_n 1, 1) := by decide +kernel
theorem dX3_positionOfStrongestField_48 : decode cX3_positionOfStrongestField 48 = .ok (.dload 5, 2) := by decide +kernel
theorem dX3_positionOfStrongestField_50 : decode cX3_positionOfStrongestField 50 = .ok (.dstore_n 2, 1) := by decide +kernel
theorem dX3_positionOfStrongestField_51 : decode cX3_positionOfStrongestField 51 = .ok (.iinc 4 1, 3) := by decide +kernel
theorem dX3_positionOfStrongestField_54 : decode cX3_positionOfStrongestField 54 = .ok (.goto (-31), 3) := by decide +kernel
theorem dX3_positionOfStrongestField_57 : decode cX3_positionOfStrongestField 57 = .ok (.iload_n 1, 1) := by decide +kernel
theorem dX3_positionOfStrongestField_58 : decode cX3_positionOfStrongestField 58 = .ok (.ireturn, 1) := by decide +kernel
theorem dX3_magnetInStrongestField_0 : decode cX3_magnetInStrongestField 0 = .ok (.iconst (-1), 1) := by decide +kernel
theorem dX3_magnetInStrongestField_1 : decode cX3_magnetInStrongestField 1 = .ok (.istore_n 1, 1) := by decide +kernel
theorem dX3_magnetInStrongestField_2 : decode cX3_magnetInStrongestField 2 = .ok (.dconst 0, 1) := by decide +kernel
theorem dX3_magnetInStrongestField_3 : decode cX3_magnetInStrongestField 3 = .ok (.dstore_n 2, 1) := by decide +kernel
theorem dX3_magnetInStrongestField_4 : decode cX3_magnetInStrongestField 4 = .ok (.iconst 0, 1) := by decide +kernel
theorem dX3_magnetInStrongestField_5 : decode cX3_magnetInStrongestField 5 = .ok (.istore 4, 2) := by decide +kernel
theorem dX3_magnetInStrongestField_7 : decode cX3_magnetInStrongestField 7 = .ok (.iload 4, 2) := by decide +kernel
theorem dX3_magnetInStrongestField_9 : decode cX3_magnetInStrongestField 9 = .ok (.aload_n 0, 1) := by decide +kernel
theorem dX3_magnetInStrongestField_10 : decode cX3_magnetInStrongestField 10 = .ok (.getfield 9, 3) := by decide +kernel
theorem dX3_magnetInStrongestField_13 : decode cX3_magnetInStrongestField 13 = .ok (.getfield 15, 3) := by decide +kernel
theorem dX3_magnetInStrongestField_16 : decode cX3_magnetInStrongestField 16 = .ok (.if_icmp .ge 43, 3) := by decide +kernel
theorem dX3_magnetInStrongestField_19 : decode cX3_magnetInStrongestField 19 = .ok (.aload_n 0, 1) := by decide +kernel
theorem dX3_magnetInStrongestField_20 : decode cX3_magnetInStrongestField 20 = .ok (.aload_n 0, 1) := by decide +kernel
theorem dX3_magnetInStrongestField_21 : decode cX3_magnetInStrongestField 21 = .ok (.getfield 9, 3) := by decide +kernel
theorem dX3_magnetInStrongestField_24 : decode cX3_magnetInStrongestField 24 = .ok (.getfield 21, 3) := by decide +kernel
theorem dX3_magnetInStrongestField_27 : decode cX3_magnetInStrongestField 27 = .ok (.iload 4, 2) := by decide +kernel
theorem dX3_magnetInStrongestField_29 : decode cX3_magnetInStrongestField 29 = .ok (.iaload, 1) := by decide +kernel
theorem dX3_magnetInStrongestField_30 : decode cX3_magnetInStrongestField 30 = .ok (.invokevirtual 62, 3) := by decide +kernel
theorem dX3_magnetInStrongestField_33 : decode cX3_magnetInStrongestField 33 = .ok (.dstore 5, 2) := by decide +kernel
theorem dX3_magnetInStrongestField_35 : decode cX3_magnetInStrongestField 35 = .ok (.iload_n 1, 1) := by decide +kernel
theorem dX3_magnetInStrongestField_36 : decode cX3_magnetInStrongestField 36 = .ok (.iconst (-1), 1) := by decide +kernel
theorem dX3_magnetInStrongestField_37 : decode cX3_magnetInStrongestField 37 = .ok (.if_icmp .eq 10, 3) := by decide +kernel
theorem dX3_magnetInStrongestField_40 : decode cX3_magnetInStrongestField 40 = .ok (.dload 5, 2) := by decide +kernel
theorem dX3_magnetInStrongestField_42 : decode cX3_magnetInStrongestField 42 = .ok (.dload_n 2, 1) := by decide +kernel
theorem dX3_magnetInStrongestField_43 : decode cX3_magnetInStrongestField 43 = .ok (.dcmp .l, 1) := by decide +kernel
theorem dX3_magnetInStrongestField_44 : decode cX3_magnetInStrongestField 44 = .ok (.ifCond .le 9, 3) := by decide +kernel
theorem dX3_magnetInStrongestField_47 : decode cX3_magnetInStrongestField 47 = .ok (.iload 4, 2) := by decide +kernel
theorem dX3_magnetInStrongestField_49 : decode cX3_magnetInStrongestField 49 = .ok (.istore_n 1, 1) := by decide +kernel
theorem dX3_magnetInStrongestField_50 : decode cX3_magnetInStrongestField 50 = .ok (.dload 5, 2) := by decide +kernel
theorem dX3_magnetInStrongestField_52 : decode cX3_magnetInStrongestField 52 = .ok (.dstore_n 2, 1) := by decide +kernel
theorem dX3_magnetInStrongestField_53 : decode cX3_magnetInStrongestField 53 = .ok (.iinc 4 1, 3) := by decide +kernel
theorem dX3_magnetInStrongestField_56 : decode cX3_magnetInStrongestField 56 = .ok (.goto (-49), 3) := by decide +kernel
theorem dX3_magnetInStrongestField_59 : decode cX3_magnetInStrongestField 59 = .ok (.iload_n 1, 1) := by decide +kernel
theorem dX3_magnetInStrongestField_60 : decode cX3_magnetInStrongestField 60 = .ok (.ireturn, 1) := by decide +kernel
theorem dX4_init_0 : decode cX4_init 0 = .ok (.aload_n 0, 1) := by decide +kernel
theorem dX4_init_1 : decode cX4_init 1 = .ok (.invokespecial 3, 3) := by decide +kernel
theorem dX4_init_4 : decode cX4_init 4 = .ok (.aload_n 0, 1) := by decide +kernel
theorem dX4_init_5 : decode cX4_init 5 = .ok (.bipush 8, 2) := by decide +kernel
theorem dX4_init_7 : decode cX4_init 7 = .ok (.anewarray 9, 3) := by decide +kernel
theorem dX4_init_10 : decode cX4_init 10 = .ok (.putfield 11, 3) := by decide +kernel
theorem dX4_init_13 : decode cX4_init 13 = .ok (.iconst 0, 1) := by decide +kernel
theorem dX4_init_14 : decode cX4_init 14 = .ok (.istore_n 1, 1) := by decide +kernel
theorem dX4_init_15 : decode cX4_init 15 = .ok (.iload_n 1, 1) := by decide +kernel
theorem dX4_init_16 : decode cX4_init 16 = .ok (.bipush 8, 2) := by decide +kernel
theorem dX4_init_18 : decode cX4_init 18 = .ok (.if_icmp .ge 22, 3) := by decide +kernel
theorem dX4_init_21 : decode cX4_init 21 = .ok (.aload_n 0, 1) := by decide +kernel
theorem dX4_init_22 : decode cX4_init 22 = .ok (.getfield 11, 3) := by decide +kernel
theorem dX4_init_25 : decode cX4_init 25 = .ok (.iload_n 1, 1) := by decide +kernel
theorem dX4_init_26 : decode cX4_init 26 = .ok (.new 9, 3) := by decide +kernel
theorem dX4_init_29 : decode cX4_init 29 = .ok (.dup, 1) := by decide +kernel
theorem dX4_init_30 : decode cX4_init 30 = .ok (.invokespecial 17, 3) := by decide +kernel
theorem dX4_init_33 : decode cX4_init 33 = .ok (.aastore, 1) := by decide +kernel
theorem dX4_init_34 : decode cX4_init 34 = .ok (.iinc 1 1, 3) := by decide +kernel
theorem dX4_init_37 : decode cX4_init 37 = .ok (.goto (-22), 3) := by decide +kernel
theorem dX4_init_40 : decode cX4_init 40 = .ok (.return_, 1) := by decide +kernel
theorem dX4_push_0 : decode cX4_push 0 = .ok (.aload_n 0, 1) := by decide +kernel
theorem dX4_push_1 : decode cX4_push 1 = .ok (.getfield 11, 3) := by decide +kernel
theorem dX4_push_4 : decode cX4_push 4 = .ok (.aload_n 0, 1) := by decide +kernel
theorem dX4_push_5 : decode cX4_push 5 = .ok (.getfield 18, 3) := by decide +kernel
theorem dX4_push_8 : decode cX4_push 8 = .ok (.aaload, 1) := by decide +kernel
theorem dX4_push_9 : decode cX4_push 9 = .ok (.aload_n 1, 1) := by decide +kernel
theorem dX4_push_10 : decode cX4_push 10 = .ok (.invokevirtual 22, 3) := by decide +kernel
theorem dX4_push_13 : decode cX4_push 13 = .ok (.aload_n 0, 1) := by decide +kernel
theorem dX4_push_14 : decode cX4_push 14 = .ok (.aload_n 0, 1) := by decide +kernel
theorem dX4_push_15 : decode cX4_push 15 = .ok (.getfield 18, 3) := by decide +kernel
theorem dX4_push_18 : decode cX4_push 18 = .ok (.iconst 1, 1) := by decide +kernel
theorem dX4_push_19 : decode cX4_push 19 = .ok (.iadd, 1) := by decide +kernel
theorem dX4_push_20 : decode cX4_push 20 = .ok (.bipush 8, 2) := by decide +kernel
theorem dX4_push_22 : decode cX4_push 22 = .ok (.irem, 1) := by decide +kernel
theorem dX4_push_23 : decode cX4_push 23 = .ok (.putfield 18, 3) := by decide +kernel
theorem dX4_push_26 : decode cX4_push 26 = .ok (.aload_n 0, 1) := by decide +kernel
theorem dX4_push_27 : decode cX4_push 27 = .ok (.aload_n 0, 1) := by decide +kernel
theorem dX4_push_28 : decode cX4_push 28 = .ok (.getfield 26, 3) := by decide +kernel
theorem dX4_push_31 : decode cX4_push 31 = .ok (.iconst 1, 1) := by decide +kernel
theorem dX4_push_32 : decode cX4_push 32 = .ok (.iadd, 1) := by decide +kernel
theorem dX4_push_33 : decode cX4_push 33 = .ok (.bipush 8, 2) := by decide +kernel
theorem dX4_push_35 : decode cX4_push 35 = .ok (.invokestatic 29, 3) := by decide +kernel
theorem dX4_push_38 : decode cX4_push 38 = .ok (.putfield 26, 3) := by decide +kernel
theorem dX4_push_41 : decode cX4_push 41 = .ok (.return_, 1) := by decide +kernel
theorem dX4_popInto_0 : decode cX4_popInto 0 = .ok (.aload_n 0, 1) := by decide +kernel
theorem dX4_popInto_1 : decode cX4_popInto 1 = .ok (.aload_n 0, 1) := by decide +kernel
theorem dX4_popInto_2 : decode cX4_popInto 2 = .ok (.getfield 18, 3) := by decide +kernel
theorem dX4_popInto_5 : decode cX4_popInto 5 = .ok (.bipush 8, 2) := by decide +kernel
theorem dX4_popInto_7 : decode cX4_popInto 7 = .ok (.iadd, 1) := by decide +kernel
theorem dX4_popInto_8 : decode cX4_popInto 8 = .ok (.iconst 1, 1) := by decide +kernel
theorem dX4_popInto_9 : decode cX4_popInto 9 = .ok (.isub, 1) := by decide +kernel
theorem dX4_popInto_10 : decode cX4_popInto 10 = .ok (.bipush 8, 2) := by decide +kernel
theorem dX4_popInto_12 : decode cX4_popInto 12 = .ok (.irem, 1) := by decide +kernel
theorem dX4_popInto_13 : decode cX4_popInto 13 = .ok (.putfield 18, 3) := by decide +kernel
theorem dX4_popInto_16 : decode cX4_popInto 16 = .ok (.aload_n 0, 1) := by decide +kernel
theorem dX4_popInto_17 : decode cX4_popInto 17 = .ok (.dup, 1) := by decide +kernel
theorem dX4_popInto_18 : decode cX4_popInto 18 = .ok (.getfield 26, 3) := by decide +kernel
theorem dX4_popInto_21 : decode cX4_popInto 21 = .ok (.iconst 1, 1) := by decide +kernel
theorem dX4_popInto_22 : decode cX4_popInto 22 = .ok (.isub, 1) := by decide +kernel
theorem dX4_popInto_23 : decode cX4_popInto 23 = .ok (.putfield 26, 3) := by decide +kernel
theorem dX4_popInto_26 : decode cX4_popInto 26 = .ok (.aload_n 1, 1) := by decide +kernel
theorem dX4_popInto_27 : decode cX4_popInto 27 = .ok (.aload_n 0, 1) := by decide +kernel
theorem dX4_popInto_28 : decode cX4_popInto 28 = .ok (.getfield 11, 3) := by decide +kernel
theorem dX4_popInto_31 : decode cX4_popInto 31 = .ok (.aload_n 0, 1) := by decide +kernel
theorem dX4_popInto_32 : decode cX4_popInto 32 = .ok (.getfield 18, 3) := by decide +kernel
theorem dX4_popInto_35 : decode cX4_popInto 35 = .ok (.aaload, 1) := by decide +kernel
theorem dX4_popInto_36 : decode cX4_popInto 36 = .ok (.invokevirtual 22, 3) := by decide +kernel
theorem dX4_popInto_39 : decode cX4_popInto 39 = .ok (.return_, 1) := by decide +kernel
theorem dX4_forgetAll_0 : decode cX4_forgetAll 0 = .ok (.aload_n 0, 1) := by decide +kernel
theorem dX4_forgetAll_1 : decode cX4_forgetAll 1 = .ok (.iconst 0, 1) := by decide +kernel
theorem dX4_forgetAll_2 : decode cX4_forgetAll 2 = .ok (.putfield 26, 3) := by decide +kernel
theorem dX4_forgetAll_5 : decode cX4_forgetAll 5 = .ok (.return_, 1) := by decide +kernel
theorem dX5_init_0 : decode cX5_init 0 = .ok (.aload_n 0, 1) := by decide +kernel
theorem dX5_init_1 : decode cX5_init 1 = .ok (.invokespecial 3, 3) := by decide +kernel
theorem dX5_init_4 : decode cX5_init 4 = .ok (.aload_n 0, 1) := by decide +kernel
theorem dX5_init_5 : decode cX5_init 5 = .ok (.bipush 23, 2) := by decide +kernel
theorem dX5_init_7 : decode cX5_init 7 = .ok (.newarray .char, 2) := by decide +kernel
theorem dX5_init_9 : decode cX5_init 9 = .ok (.putfield 9, 3) := by decide +kernel
theorem dX5_init_12 : decode cX5_init 12 = .ok (.return_, 1) := by decide +kernel
theorem dX5_describe_0 : decode cX5_describe 0 = .ok (.aload_n 0, 1) := by decide +kernel
theorem dX5_describe_1 : decode cX5_describe 1 = .ok (.iconst 0, 1) := by decide +kernel
theorem dX5_describe_2 : decode cX5_describe 2 = .ok (.putfield 15, 3) := by decide +kernel
theorem dX5_describe_5 : decode cX5_describe 5 = .ok (.aload_n 0, 1) := by decide +kernel
theorem dX5_describe_6 : decode cX5_describe 6 = .ok (.iload_n 2, 1) := by decide +kernel
theorem dX5_describe_7 : decode cX5_describe 7 = .ok (.invokevirtual 19, 3) := by decide +kernel
theorem dX5_describe_10 : decode cX5_describe 10 = .ok (.aload_n 0, 1) := by decide +kernel
theorem dX5_describe_11 : decode cX5_describe 11 = .ok (.bipush 64, 2) := by decide +kernel
theorem dX5_describe_13 : decode cX5_describe 13 = .ok (.invokevirtual 23, 3) := by decide +kernel
theorem dX5_describe_16 : decode cX5_describe 16 = .ok (.aload_n 0, 1) := by decide +kernel
theorem dX5_describe_17 : decode cX5_describe 17 = .ok (.aload_n 1, 1) := by decide +kernel
theorem dX5_describe_18 : decode cX5_describe 18 = .ok (.getfield 27, 3) := by decide +kernel
theorem dX5_describe_21 : decode cX5_describe 21 = .ok (.iload_n 2, 1) := by decide +kernel
theorem dX5_describe_22 : decode cX5_describe 22 = .ok (.iaload, 1) := by decide +kernel
theorem dX5_describe_23 : decode cX5_describe 23 = .ok (.invokevirtual 19, 3) := by decide +kernel
theorem dX5_describe_26 : decode cX5_describe 26 = .ok (.aload_n 0, 1) := by decide +kernel
theorem dX5_describe_27 : decode cX5_describe 27 = .ok (.aload_n 1, 1) := by decide +kernel
theorem dX5_describe_28 : decode cX5_describe 28 = .ok (.iload_n 2, 1) := by decide +kernel
theorem dX5_describe_29 : decode cX5_describe 29 = .ok (.invokevirtual 33, 3) := by decide +kernel
theorem dX5_describe_32 : decode cX5_describe 32 = .ok (.invokevirtual 23, 3) := by decide +kernel
theorem dX5_describe_35 : decode cX5_describe 35 = .ok (.aload_n 0, 1) := by decide +kernel
theorem dX5_describe_36 : decode cX5_describe 36 = .ok (.aload_n 1, 1) := by decide +kernel
theorem dX5_describe_37 : decode cX5_describe 37 = .ok (.getfield 37, 3) := by decide +kernel
theorem dX5_describe_40 : decode cX5_describe 40 = .ok (.iload_n 2, 1) := by decide +kernel
theorem dX5_describe_41 : decode cX5_describe 41 = .ok (.iaload, 1) := by decide +kernel
theorem dX5_describe_42 : decode cX5_describe 42 = .ok (.invokevirtual 19, 3) := by decide +kernel
theorem dX5_describe_45 : decode cX5_describe 45 = .ok (.iconst 0, 1) := by decide +kernel
theorem dX5_describe_46 : decode cX5_describe 46 = .ok (.istore_n 3, 1) := by decide +kernel
theorem dX5_describe_47 : decode cX5_describe 47 = .ok (.iload_n 3, 1) := by decide +kernel
theorem dX5_describe_48 : decode cX5_describe 48 = .ok (.aload_n 1, 1) := by decide +kernel
theorem dX5_describe_49 : decode cX5_describe 49 = .ok (.getfield 40, 3) := by decide +kernel
theorem dX5_describe_52 : decode cX5_describe 52 = .ok (.if_icmp .ge 48, 3) := by decide +kernel
theorem dX5_describe_55 : decode cX5_describe 55 = .ok (.aload_n 1, 1) := by decide +kernel
theorem dX5_describe_56 : decode cX5_describe 56 = .ok (.iload_n 3, 1) := by decide +kernel
theorem dX5_describe_57 : decode cX5_describe 57 = .ok (.iload_n 2, 1) := by decide +kernel
theorem dX5_describe_58 : decode cX5_describe 58 = .ok (.invokevirtual 43, 3) := by decide +kernel
theorem dX5_describe_61 : decode cX5_describe 61 = .ok (.istore 4, 2) := by decide +kernel
theorem dX5_describe_63 : decode cX5_describe 63 = .ok (.iload 4, 2) := by decide +kernel
theorem dX5_describe_65 : decode cX5_describe 65 = .ok (.iconst (-1), 1) := by decide +kernel
theorem dX5_describe_66 : decode cX5_describe 66 = .ok (.if_icmp .eq 28, 3) := by decide +kernel
theorem dX5_describe_69 : decode cX5_describe 69 = .ok (.aload_n 0, 1) := by decide +kernel
theorem dX5_describe_70 : decode cX5_describe 70 = .ok (.aload_n 1, 1) := by decide +kernel
theorem dX5_describe_71 : decode cX5_describe 71 = .ok (.iload_n 3, 1) := by decide +kernel
theorem dX5_describe_72 : decode cX5_describe 72 = .ok (.invokevirtual 47, 3) := by decide +kernel
theorem dX5_describe_75 : decode cX5_describe 75 = .ok (.ifCond .eq 8, 3) := by decide +kernel
theorem dX5_describe_78 : decode cX5_describe 78 = .ok (.bipush 61, 2) := by decide +kernel
theorem dX5_describe_80 : decode cX5_describe 80 = .ok (.goto 5, 3) := by decide +kernel
theorem dX5_describe_83 : decode cX5_describe 83 = .ok (.bipush 35, 2) := by decide +kernel
theorem dX5_describe_85 : decode cX5_describe 85 = .ok (.invokevirtual 23, 3) := by decide +kernel
theorem dX5_describe_88 : decode cX5_describe 88 = .ok (.aload_n 0, 1) := by decide +kernel
theorem dX5_describe_89 : decode cX5_describe 89 = .ok (.iload 4, 2) := by decide +kernel
theorem dX5_describe_91 : decode cX5_describe 91 = .ok (.invokevirtual 19, 3) := by decide +kernel
theorem dX5_describe_94 : decode cX5_describe 94 = .ok (.iinc 3 1, 3) := by decide +kernel
theorem dX5_describe_97 : decode cX5_describe 97 = .ok (.goto (-50), 3) := by decide +kernel
theorem dX5_describe_100 : decode cX5_describe 100 = .ok (.return_, 1) := by decide +kernel
theorem dX5_putNumber_0 : decode cX5_putNumber 0 = .ok (.iload_n 1, 1) := by decide +kernel
theorem dX5_putNumber_1 : decode cX5_putNumber 1 = .ok (.bipush 10, 2) := by decide +kernel
theorem dX5_putNumber_3 : decode cX5_putNumber 3 = .ok (.if_icmp .lt 15, 3) := by decide +kernel
theorem dX5_putNumber_6 : decode cX5_putNumber 6 = .ok (.aload_n 0, 1) := by decide +kernel
theorem dX5_putNumber_7 : decode cX5_putNumber 7 = .ok (.bipush 48, 2) := by decide +kernel
theorem dX5_putNumber_9 : decode cX5_putNumber 9 = .ok (.iload_n 1, 1) := by decide +kernel
theorem dX5_putNumber_10 : decode cX5_putNumber 10 = .ok (.bipush 10, 2) := by decide +kernel
theorem dX5_putNumber_12 : decode cX5_putNumber 12 = .ok (.idiv, 1) := by decide +kernel
theorem dX5_putNumber_13 : decode cX5_putNumber 13 = .ok (.iadd, 1) := by decide +kernel
theorem dX5_putNumber_14 : decode cX5_putNumber 14 = .ok (.i2c, 1) := by decide +kernel
theorem dX5_putNumber_15 : decode cX5_putNumber 15 = .ok (.invokevirtual 23, 3) := by decide +kernel
theorem dX5_putNumber_18 : decode cX5_putNumber 18 = .ok (.aload_n 0, 1) := by decide +kernel
theorem dX5_putNumber_19 : decode cX5_putNumber 19 = .ok (.bipush 48, 2) := by decide +kernel
theorem dX5_putNumber_21 : decode cX5_putNumber 21 = .ok (.iload_n 1, 1) := by decide +kernel
theorem dX5_putNumber_22 : decode cX5_putNumber 22 = .ok (.bipush 10, 2) := by decide +kernel
theorem dX5_putNumber_24 : decode cX5_putNumber 24 = .ok (.irem, 1) := by decide +kernel
theorem dX5_putNumber_25 : decode cX5_putNumber 25 = .ok (.iadd, 1) := by decide +kernel
theorem dX5_putNumber_26 : decode cX5_putNumber 26 = .ok (.i2c, 1) := by decide +kernel
theorem dX5_putNumber_27 : decode cX5_putNumber 27 = .ok (.invokevirtual 23, 3) := by decide +kernel
theorem dX5_putNumber_30 : decode cX5_putNumber 30 = .ok (.return_, 1) := by decide +kernel
theorem dX5_put_0 : decode cX5_put 0 = .ok (.aload_n 0, 1) := by decide +kernel
theorem dX5_put_1 : decode cX5_put 1 = .ok (.getfield 15, 3) := by decide +kernel
theorem dX5_put_4 : decode cX5_put 4 = .ok (.bipush 23, 2) := by decide +kernel
theorem dX5_put_6 : decode cX5_put 6 = .ok (.if_icmp .ge 23, 3) := by decide +kernel
theorem dX5_put_9 : decode cX5_put 9 = .ok (.aload_n 0, 1) := by decide +kernel
theorem dX5_put_10 : decode cX5_put 10 = .ok (.getfield 9, 3) := by decide +kernel
theorem dX5_put_13 : decode cX5_put 13 = .ok (.aload_n 0, 1) := by decide +kernel
theorem dX5_put_14 : decode cX5_put 14 = .ok (.getfield 15, 3) := by decide +kernel
theorem dX5_put_17 : decode cX5_put 17 = .ok (.iload_n 1, 1) := by decide +kernel
theorem dX5_put_18 : decode cX5_put 18 = .ok (.castore, 1) := by decide +kernel
theorem dX5_put_19 : decode cX5_put 19 = .ok (.aload_n 0, 1) := by decide +kernel
theorem dX5_put_20 : decode cX5_put 20 = .ok (.dup, 1) := by decide +kernel
theorem dX5_put_21 : decode cX5_put 21 = .ok (.getfield 15, 3) := by decide +kernel
theorem dX5_put_24 : decode cX5_put 24 = .ok (.iconst 1, 1) := by decide +kernel
theorem dX5_put_25 : decode cX5_put 25 = .ok (.iadd, 1) := by decide +kernel
theorem dX5_put_26 : decode cX5_put 26 = .ok (.putfield 15, 3) := by decide +kernel
theorem dX5_put_29 : decode cX5_put 29 = .ok (.return_, 1) := by decide +kernel
end
section
theorem dX6_init_0 : decode cX6_init 0 = .ok (.aload_n 0, 1) := by decide +kernel
theorem dX6_init_1 : decode cX6_init 1 = .ok (.invokespecial 3, 3) := by decide +kernel
theorem dX6_init_4 : decode cX6_init 4 = .ok (.aload_n 0, 1) := by decide +kernel
theorem dX6_init_5 : decode cX6_init 5 = .ok (.bipush 18, 2) := by decide +kernel
theorem dX6_init_7 : decode cX6_init 7 = .ok (.newarray .int, 2) := by decide +kernel
theorem dX6_init_9 : decode cX6_init 9 = .ok (.putfield 9, 3) := by decide +kernel
theorem dX6_init_12 : decode cX6_init 12 = .ok (.aload_n 0, 1) := by decide +kernel
theorem dX6_init_13 : decode cX6_init 13 = .ok (.bipush 9, 2) := by decide +kernel
theorem dX6_init_15 : decode cX6_init 15 = .ok (.newarray .int, 2) := by decide +kernel
theorem dX6_init_17 : decode cX6_init 17 = .ok (.putfield 15, 3) := by decide +kernel
theorem dX6_init_20 : decode cX6_init 20 = .ok (.aload_n 0, 1) := by decide +kernel
theorem dX6_init_21 : decode cX6_init 21 = .ok (.bipush 9, 2) := by decide +kernel
theorem dX6_init_23 : decode cX6_init 23 = .ok (.newarray .int, 2) := by decide +kernel
theorem dX6_init_25 : decode cX6_init 25 = .ok (.putfield 18, 3) := by decide +kernel
theorem dX6_init_28 : decode cX6_init 28 = .ok (.aload_n 0, 1) := by decide +kernel
theorem dX6_init_29 : decode cX6_init 29 = .ok (.bipush 9, 2) := by decide +kernel
theorem dX6_init_31 : decode cX6_init 31 = .ok (.newarray .int, 2) := by decide +kernel
theorem dX6_init_33 : decode cX6_init 33 = .ok (.putfield 21, 3) := by decide +kernel
theorem dX6_init_36 : decode cX6_init 36 = .ok (.aload_n 0, 1) := by decide +kernel
theorem dX6_init_37 : decode cX6_init 37 = .ok (.aload_n 1, 1) := by decide +kernel
theorem dX6_init_38 : decode cX6_init 38 = .ok (.putfield 24, 3) := by decide +kernel
theorem dX6_init_41 : decode cX6_init 41 = .ok (.return_, 1) := by decide +kernel
theorem dX6_countParts_0 : decode cX6_countParts 0 = .ok (.aload_n 0, 1) := by decide +kernel
theorem dX6_countParts_1 : decode cX6_countParts 1 = .ok (.invokevirtual 28, 3) := by decide +kernel
theorem dX6_countParts_4 : decode cX6_countParts 4 = .ok (.aload_n 0, 1) := by decide +kernel
theorem dX6_countParts_5 : decode cX6_countParts 5 = .ok (.getfield 24, 3) := by decide +kernel
theorem dX6_countParts_8 : decode cX6_countParts 8 = .ok (.getfield 31, 3) := by decide +kernel
theorem dX6_countParts_11 : decode cX6_countParts 11 = .ok (.istore_n 2, 1) := by decide +kernel
theorem dX6_countParts_12 : decode cX6_countParts 12 = .ok (.iconst 0, 1) := by decide +kernel
theorem dX6_countParts_13 : decode cX6_countParts 13 = .ok (.istore_n 3, 1) := by decide +kernel
theorem dX6_countParts_14 : decode cX6_countParts 14 = .ok (.iload_n 3, 1) := by decide +kernel
theorem dX6_countParts_15 : decode cX6_countParts 15 = .ok (.aload_n 0, 1) := by decide +kernel
theorem dX6_countParts_16 : decode cX6_countParts 16 = .ok (.getfield 24, 3) := by decide +kernel
theorem dX6_countParts_19 : decode cX6_countParts 19 = .ok (.getfield 37, 3) := by decide +kernel
theorem dX6_countParts_22 : decode cX6_countParts 22 = .ok (.if_icmp .ge 42, 3) := by decide +kernel
theorem dX6_countParts_25 : decode cX6_countParts 25 = .ok (.iload_n 3, 1) := by decide +kernel
theorem dX6_countParts_26 : decode cX6_countParts 26 = .ok (.iload_n 1, 1) := by decide +kernel
theorem dX6_countParts_27 : decode cX6_countParts 27 = .ok (.if_icmp .eq 31, 3) := by decide +kernel
theorem dX6_countParts_30 : decode cX6_countParts 30 = .ok (.aload_n 0, 1) := by decide +kernel
theorem dX6_countParts_31 : decode cX6_countParts 31 = .ok (.aload_n 0, 1) := by decide +kernel
theorem dX6_countParts_32 : decode cX6_countParts 32 = .ok (.getfield 24, 3) := by decide +kernel
theorem dX6_countParts_35 : decode cX6_countParts 35 = .ok (.getfield 40, 3) := by decide +kernel
theorem dX6_countParts_38 : decode cX6_countParts 38 = .ok (.iload_n 3, 1) := by decide +kernel
theorem dX6_countParts_39 : decode cX6_countParts 39 = .ok (.iaload, 1) := by decide +kernel
theorem dX6_countParts_40 : decode cX6_countParts 40 = .ok (.aload_n 0, 1) := by decide +kernel
theorem dX6_countParts_41 : decode cX6_countParts 41 = .ok (.getfield 24, 3) := by decide +kernel
theorem dX6_countParts_44 : decode cX6_countParts 44 = .ok (.getfield 43, 3) := by decide +kernel
theorem dX6_countParts_47 : decode cX6_countParts 47 = .ok (.iload_n 3, 1) := by decide +kernel
theorem dX6_countParts_48 : decode cX6_countParts 48 = .ok (.iaload, 1) := by decide +kernel
theorem dX6_countParts_49 : decode cX6_countParts 49 = .ok (.invokevirtual 46, 3) := by decide +kernel
theorem dX6_countParts_52 : decode cX6_countParts 52 = .ok (.ifCond .eq 6, 3) := by decide +kernel
theorem dX6_countParts_55 : decode cX6_countParts 55 = .ok (.iinc 2 (-1), 3) := by decide +kernel
theorem dX6_countParts_58 : decode cX6_countParts 58 = .ok (.iinc 3 1, 3) := by decide +kernel
theorem dX6_countParts_61 : decode cX6_countParts 61 = .ok (.goto (-47), 3) := by decide +kernel
theorem dX6_countParts_64 : decode cX6_countParts 64 = .ok (.iload_n 2, 1) := by decide +kernel
theorem dX6_countParts_65 : decode cX6_countParts 65 = .ok (.ireturn, 1) := by decide +kernel
theorem dX6_separateLabels_0 : decode cX6_separateLabels 0 = .ok (.iconst 0, 1) := by decide +kernel
theorem dX6_separateLabels_1 : decode cX6_separateLabels 1 = .ok (.istore_n 1, 1) := by decide +kernel
theorem dX6_separateLabels_2 : decode cX6_separateLabels 2 = .ok (.iload_n 1, 1) := by decide +kernel
theorem dX6_separateLabels_3 : decode cX6_separateLabels 3 = .ok (.aload_n 0, 1) := by decide +kernel
theorem dX6_separateLabels_4 : decode cX6_separateLabels 4 = .ok (.getfield 9, 3) := by decide +kernel
theorem dX6_separateLabels_7 : decode cX6_separateLabels 7 = .ok (.arraylength, 1) := by decide +kernel
theorem dX6_separateLabels_8 : decode cX6_separateLabels 8 = .ok (.if_icmp .ge 16, 3) := by decide +kernel
theorem dX6_separateLabels_11 : decode cX6_separateLabels 11 = .ok (.aload_n 0, 1) := by decide +kernel
theorem dX6_separateLabels_12 : decode cX6_separateLabels 12 = .ok (.getfield 9, 3) := by decide +kernel
theorem dX6_separateLabels_15 : decode cX6_separateLabels 15 = .ok (.iload_n 1, 1) := by decide +kernel
theorem dX6_separateLabels_16 : decode cX6_separateLabels 16 = .ok (.iload_n 1, 1) := by decide +kernel
theorem dX6_separateLabels_17 : decode cX6_separateLabels 17 = .ok (.iastore, 1) := by decide +kernel
theorem dX6_separateLabels_18 : decode cX6_separateLabels 18 = .ok (.iinc 1 1, 3) := by decide +kernel
theorem dX6_separateLabels_21 : decode cX6_separateLabels 21 = .ok (.goto (-19), 3) := by decide +kernel
theorem dX6_separateLabels_24 : decode cX6_separateLabels 24 = .ok (.return_, 1) := by decide +kernel
theorem dX6_unite_0 : decode cX6_unite 0 = .ok (.aload_n 0, 1) := by decide +kernel
theorem dX6_unite_1 : decode cX6_unite 1 = .ok (.getfield 9, 3) := by decide +kernel
theorem dX6_unite_4 : decode cX6_unite 4 = .ok (.iload_n 1, 1) := by decide +kernel
theorem dX6_unite_5 : decode cX6_unite 5 = .ok (.iaload, 1) := by decide +kernel
theorem dX6_unite_6 : decode cX6_unite 6 = .ok (.istore_n 3, 1) := by decide +kernel
theorem dX6_unite_7 : decode cX6_unite 7 = .ok (.aload_n 0, 1) := by decide +kernel
theorem dX6_unite_8 : decode cX6_unite 8 = .ok (.getfield 9, 3) := by decide +kernel
theorem dX6_unite_11 : decode cX6_unite 11 = .ok (.iload_n 2, 1) := by decide +kernel
theorem dX6_unite_12 : decode cX6_unite 12 = .ok (.iaload, 1) := by decide +kernel
theorem dX6_unite_13 : decode cX6_unite 13 = .ok (.istore 4, 2) := by decide +kernel
theorem dX6_unite_15 : decode cX6_unite 15 = .ok (.iload_n 3, 1) := by decide +kernel
theorem dX6_unite_16 : decode cX6_unite 16 = .ok (.iload 4, 2) := by decide +kernel
theorem dX6_unite_18 : decode cX6_unite 18 = .ok (.if_icmp .ne 5, 3) := by decide +kernel
theorem dX6_unite_21 : decode cX6_unite 21 = .ok (.iconst 0, 1) := by decide +kernel
theorem dX6_unite_22 : decode cX6_unite 22 = .ok (.ireturn, 1) := by decide +kernel
theorem dX6_unite_23 : decode cX6_unite 23 = .ok (.iconst 0, 1) := by decide +kernel
theorem dX6_unite_24 : decode cX6_unite 24 = .ok (.istore 5, 2) := by decide +kernel
theorem dX6_unite_26 : decode cX6_unite 26 = .ok (.iload 5, 2) := by decide +kernel
theorem dX6_unite_28 : decode cX6_unite 28 = .ok (.aload_n 0, 1) := by decide +kernel
theorem dX6_unite_29 : decode cX6_unite 29 = .ok (.getfield 9, 3) := by decide +kernel
theorem dX6_unite_32 : decode cX6_unite 32 = .ok (.arraylength, 1) := by decide +kernel
theorem dX6_unite_33 : decode cX6_unite 33 = .ok (.if_icmp .ge 29, 3) := by decide +kernel
theorem dX6_unite_36 : decode cX6_unite 36 = .ok (.aload_n 0, 1) := by decide +kernel
theorem dX6_unite_37 : decode cX6_unite 37 = .ok (.getfield 9, 3) := by decide +kernel
theorem dX6_unite_40 : decode cX6_unite 40 = .ok (.iload 5, 2) := by decide +kernel
theorem dX6_unite_42 : decode cX6_unite 42 = .ok (.iaload, 1) := by decide +kernel
theorem dX6_unite_43 : decode cX6_unite 43 = .ok (.iload 4, 2) := by decide +kernel
theorem dX6_unite_45 : decode cX6_unite 45 = .ok (.if_icmp .ne 11, 3) := by decide +kernel
theorem dX6_unite_48 : decode cX6_unite 48 = .ok (.aload_n 0, 1) := by decide +kernel
theorem dX6_unite_49 : decode cX6_unite 49 = .ok (.getfield 9, 3) := by decide +kernel
theorem dX6_unite_52 : decode cX6_unite 52 = .ok (.iload 5, 2) := by decide +kernel
theorem dX6_unite_54 : decode cX6_unite 54 = .ok (.iload_n 3, 1) := by decide +kernel
theorem dX6_unite_55 : decode cX6_unite 55 = .ok (.iastore, 1) := by decide +kernel
theorem dX6_unite_56 : decode cX6_unite 56 = .ok (.iinc 5 1, 3) := by decide +kernel
theorem dX6_unite_59 : decode cX6_unite 59 = .ok (.goto (-33), 3) := by decide +kernel
theorem dX6_unite_62 : decode cX6_unite 62 = .ok (.iconst 1, 1) := by decide +kernel
theorem dX6_unite_63 : decode cX6_unite 63 = .ok (.ireturn, 1) := by decide +kernel
theorem dX6_shortestWalk_0 : decode cX6_shortestWalk 0 = .ok (.aload_n 0, 1) := by decide +kernel
theorem dX6_shortestWalk_1 : decode cX6_shortestWalk 1 = .ok (.getfield 15, 3) := by decide +kernel
theorem dX6_shortestWalk_4 : decode cX6_shortestWalk 4 = .ok (.iconst (-1), 1) := by decide +kernel
theorem dX6_shortestWalk_5 : decode cX6_shortestWalk 5 = .ok (.invokestatic 50, 3) := by decide +kernel
theorem dX6_shortestWalk_8 : decode cX6_shortestWalk 8 = .ok (.aload_n 0, 1) := by decide +kernel
theorem dX6_shortestWalk_9 : decode cX6_shortestWalk 9 = .ok (.getfield 15, 3) := by decide +kernel
theorem dX6_shortestWalk_12 : decode cX6_shortestWalk 12 = .ok (.iload_n 1, 1) := by decide +kernel
theorem dX6_shortestWalk_13 : decode cX6_shortestWalk 13 = .ok (.iconst 0, 1) := by decide +kernel
theorem dX6_shortestWalk_14 : decode cX6_shortestWalk 14 = .ok (.iastore, 1) := by decide +kernel
theorem dX6_shortestWalk_15 : decode cX6_shortestWalk 15 = .ok (.iconst 0, 1) := by decide +kernel
theorem dX6_shortestWalk_16 : decode cX6_shortestWalk 16 = .ok (.istore_n 3, 1) := by decide +kernel
theorem dX6_shortestWalk_17 : decode cX6_shortestWalk 17 = .ok (.iload_n 3, 1) := by decide +kernel
theorem dX6_shortestWalk_18 : decode cX6_shortestWalk 18 = .ok (.aload_n 0, 1) := by decide +kernel
theorem dX6_shortestWalk_19 : decode cX6_shortestWalk 19 = .ok (.getfield 24, 3) := by decide +kernel
theorem dX6_shortestWalk_22 : decode cX6_shortestWalk 22 = .ok (.getfield 31, 3) := by decide +kernel
theorem dX6_shortestWalk_25 : decode cX6_shortestWalk 25 = .ok (.if_icmp .ge 92, 3) := by decide +kernel
theorem dX6_shortestWalk_28 : decode cX6_shortestWalk 28 = .ok (.iconst 0, 1) := by decide +kernel
theorem dX6_shortestWalk_29 : decode cX6_shortestWalk 29 = .ok (.istore 4, 2) := by decide +kernel
theorem dX6_shortestWalk_31 : decode cX6_shortestWalk 31 = .ok (.iload 4, 2) := by decide +kernel
theorem dX6_shortestWalk_33 : decode cX6_shortestWalk 33 = .ok (.aload_n 0, 1) := by decide +kernel
theorem dX6_shortestWalk_34 : decode cX6_shortestWalk 34 = .ok (.getfield 24, 3) := by decide +kernel
theorem dX6_shortestWalk_37 : decode cX6_shortestWalk 37 = .ok (.getfield 37, 3) := by decide +kernel
theorem dX6_shortestWalk_40 : decode cX6_shortestWalk 40 = .ok (.if_icmp .ge 71, 3) := by decide +kernel
theorem dX6_shortestWalk_43 : decode cX6_shortestWalk 43 = .ok (.aload_n 0, 1) := by decide +kernel
theorem dX6_shortestWalk_44 : decode cX6_shortestWalk 44 = .ok (.getfield 24, 3) := by decide +kernel
theorem dX6_shortestWalk_47 : decode cX6_shortestWalk 47 = .ok (.iload 4, 2) := by decide +kernel
theorem dX6_shortestWalk_49 : decode cX6_shortestWalk 49 = .ok (.invokevirtual 56, 3) := by decide +kernel
theorem dX6_shortestWalk_52 : decode cX6_shortestWalk 52 = .ok (.ifCond .eq 53, 3) := by decide +kernel
theorem dX6_shortestWalk_55 : decode cX6_shortestWalk 55 = .ok (.aload_n 0, 1) := by decide +kernel
theorem dX6_shortestWalk_56 : decode cX6_shortestWalk 56 = .ok (.aload_n 0, 1) := by decide +kernel
theorem dX6_shortestWalk_57 : decode cX6_shortestWalk 57 = .ok (.getfield 24, 3) := by decide +kernel
theorem dX6_shortestWalk_60 : decode cX6_shortestWalk 60 = .ok (.getfield 40, 3) := by decide +kernel
theorem dX6_shortestWalk_63 : decode cX6_shortestWalk 63 = .ok (.iload 4, 2) := by decide +kernel
theorem dX6_shortestWalk_65 : decode cX6_shortestWalk 65 = .ok (.iaload, 1) := by decide +kernel
theorem dX6_shortestWalk_66 : decode cX6_shortestWalk 66 = .ok (.aload_n 0, 1) := by decide +kernel
theorem dX6_shortestWalk_67 : decode cX6_shortestWalk 67 = .ok (.getfield 24, 3) := by decide +kernel
theorem dX6_shortestWalk_70 : decode cX6_shortestWalk 70 = .ok (.getfield 43, 3) := by decide +kernel
theorem dX6_shortestWalk_73 : decode cX6_shortestWalk 73 = .ok (.iload 4, 2) := by decide +kernel
theorem dX6_shortestWalk_75 : decode cX6_shortestWalk 75 = .ok (.iaload, 1) := by decide +kernel
theorem dX6_shortestWalk_76 : decode cX6_shortestWalk 76 = .ok (.iload_n 3, 1) := by decide +kernel
theorem dX6_shortestWalk_77 : decode cX6_shortestWalk 77 = .ok (.invokevirtual 60, 3) := by decide +kernel
theorem dX6_shortestWalk_80 : decode cX6_shortestWalk 80 = .ok (.aload_n 0, 1) := by decide +kernel
theorem dX6_shortestWalk_81 : decode cX6_shortestWalk 81 = .ok (.aload_n 0, 1) := by decide +kernel
theorem dX6_shortestWalk_82 : decode cX6_shortestWalk 82 = .ok (.getfield 24, 3) := by decide +kernel
theorem dX6_shortestWalk_85 : decode cX6_shortestWalk 85 = .ok (.getfield 43, 3) := by decide +kernel
theorem dX6_shortestWalk_88 : decode cX6_shortestWalk 88 = .ok (.iload 4, 2) := by decide +kernel
theorem dX6_shortestWalk_90 : decode cX6_shortestWalk 90 = .ok (.iaload, 1) := by decide +kernel
theorem dX6_shortestWalk_91 : decode cX6_shortestWalk 91 = .ok (.aload_n 0, 1) := by decide +kernel
theorem dX6_shortestWalk_92 : decode cX6_shortestWalk 92 = .ok (.getfield 24, 3) := by decide +kernel
theorem dX6_shortestWalk_95 : decode cX6_shortestWalk 95 = .ok (.getfield 40, 3) := by decide +kernel
theorem dX6_shortestWalk_98 : decode cX6_shortestWalk 98 = .ok (.iload 4, 2) := by decide +kernel
theorem dX6_shortestWalk_100 : decode cX6_shortestWalk 100 = .ok (.iaload, 1) := by decide +kernel
theorem dX6_shortestWalk_101 : decode cX6_shortestWalk 101 = .ok (.iload_n 3, 1) := by decide +kernel
theorem dX6_shortestWalk_102 : decode cX6_shortestWalk 102 = .ok (.invokevirtual 60, 3) := by decide +kernel
theorem dX6_shortestWalk_105 : decode cX6_shortestWalk 105 = .ok (.iinc 4 1, 3) := by decide +kernel
theorem dX6_shortestWalk_108 : decode cX6_shortestWalk 108 = .ok (.goto (-77), 3) := by decide +kernel
theorem dX6_shortestWalk_111 : decode cX6_shortestWalk 111 = .ok (.iinc 3 1, 3) := by decide +kernel
theorem dX6_shortestWalk_114 : decode cX6_shortestWalk 114 = .ok (.goto (-97), 3) := by decide +kernel
theorem dX6_shortestWalk_117 : decode cX6_shortestWalk 117 = .ok (.aload_n 0, 1) := by decide +kernel
theorem dX6_shortestWalk_118 : decode cX6_shortestWalk 118 = .ok (.getfield 15, 3) := by decide +kernel
theorem dX6_shortestWalk_121 : decode cX6_shortestWalk 121 = .ok (.iload_n 2, 1) := by decide +kernel
theorem dX6_shortestWalk_122 : decode cX6_shortestWalk 122 = .ok (.iaload, 1) := by decide +kernel
theorem dX6_shortestWalk_123 : decode cX6_shortestWalk 123 = .ok (.ireturn, 1) := by decide +kernel
theorem dX6_walkOn_0 : decode cX6_walkOn 0 = .ok (.aload_n 0, 1) := by decide +kernel
theorem dX6_walkOn_1 : decode cX6_walkOn 1 = .ok (.getfield 15, 3) := by decide +kernel
theorem dX6_walkOn_4 : decode cX6_walkOn 4 = .ok (.iload_n 1, 1) := by decide +kernel
theorem dX6_walkOn_5 : decode cX6_walkOn 5 = .ok (.iaload, 1) := by decide +kernel
theorem dX6_walkOn_6 : decode cX6_walkOn 6 = .ok (.iload_n 3, 1) := by decide +kernel
theorem dX6_walkOn_7 : decode cX6_walkOn 7 = .ok (.if_icmp .ne 22, 3) := by decide +kernel
theorem dX6_walkOn_10 : decode cX6_walkOn 10 = .ok (.aload_n 0, 1) := by decide +kernel
theorem dX6_walkOn_11 : decode cX6_walkOn 11 = .ok (.getfield 15, 3) := by decide +kernel
theorem dX6_walkOn_14 : decode cX6_walkOn 14 = .ok (.iload_n 2, 1) := by decide +kernel
theorem dX6_walkOn_15 : decode cX6_walkOn 15 = .ok (.iaload, 1) := by decide +kernel
theorem dX6_walkOn_16 : decode cX6_walkOn 16 = .ok (.iconst (-1), 1) := by decide +kernel
theorem dX6_walkOn_17 : decode cX6_walkOn 17 = .ok (.if_icmp .ne 12, 3) := by decide +kernel
theorem dX6_walkOn_20 : decode cX6_walkOn 20 = .ok (.aload_n 0, 1) := by decide +kernel
theorem dX6_walkOn_21 : decode cX6_walkOn 21 = .ok (.getfield 15, 3) := by decide +kernel
theorem dX6_walkOn_24 : decode cX6_walkOn 24 = .ok (.iload_n 2, 1) := by decide +kernel
theorem dX6_walkOn_25 : decode cX6_walkOn 25 = .ok (.iload_n 3, 1) := by decide +kernel
theorem dX6_walkOn_26 : decode cX6_walkOn 26 = .ok (.iconst 1, 1) := by decide +kernel
theorem dX6_walkOn_27 : decode cX6_walkOn 27 = .ok (.iadd, 1) := by decide +kernel
theorem dX6_walkOn_28 : decode cX6_walkOn 28 = .ok (.iastore, 1) := by decide +kernel
theorem dX6_walkOn_29 : decode cX6_walkOn 29 = .ok (.return_, 1) := by decide +kernel
theorem dX6_countBridges_0 : decode cX6_countBridges 0 = .ok (.aload_n 0, 1) := by decide +kernel
theorem dX6_countBridges_1 : decode cX6_countBridges 1 = .ok (.getfield 18, 3) := by decide +kernel
theorem dX6_countBridges_4 : decode cX6_countBridges 4 = .ok (.iconst 0, 1) := by decide +kernel
theorem dX6_countBridges_5 : decode cX6_countBridges 5 = .ok (.invokestatic 50, 3) := by decide +kernel
theorem dX6_countBridges_8 : decode cX6_countBridges 8 = .ok (.aload_n 0, 1) := by decide +kernel
theorem dX6_countBridges_9 : decode cX6_countBridges 9 = .ok (.iconst 0, 1) := by decide +kernel
theorem dX6_countBridges_10 : decode cX6_countBridges 10 = .ok (.putfield 64, 3) := by decide +kernel
theorem dX6_countBridges_13 : decode cX6_countBridges 13 = .ok (.aload_n 0, 1) := by decide +kernel
theorem dX6_countBridges_14 : decode cX6_countBridges 14 = .ok (.iconst 0, 1) := by decide +kernel
theorem dX6_countBridges_15 : decode cX6_countBridges 15 = .ok (.putfield 67, 3) := by decide +kernel
theorem dX6_countBridges_18 : decode cX6_countBridges 18 = .ok (.iconst 0, 1) := by decide +kernel
theorem dX6_countBridges_19 : decode cX6_countBridges 19 = .ok (.istore_n 1, 1) := by decide +kernel
theorem dX6_countBridges_20 : decode cX6_countBridges 20 = .ok (.iload_n 1, 1) := by decide +kernel
theorem dX6_countBridges_21 : decode cX6_countBridges 21 = .ok (.aload_n 0, 1) := by decide +kernel
theorem dX6_countBridges_22 : decode cX6_countBridges 22 = .ok (.getfield 24, 3) := by decide +kernel
theorem dX6_countBridges_25 : decode cX6_countBridges 25 = .ok (.getfield 31, 3) := by decide +kernel
theorem dX6_countBridges_28 : decode cX6_countBridges 28 = .ok (.if_icmp .ge 25, 3) := by decide +kernel
theorem dX6_countBridges_31 : decode cX6_countBridges 31 = .ok (.aload_n 0, 1) := by decide +kernel
theorem dX6_countBridges_32 : decode cX6_countBridges 32 = .ok (.getfield 18, 3) := by decide +kernel
theorem dX6_countBridges_35 : decode cX6_countBridges 35 = .ok (.iload_n 1, 1) := by decide +kernel
theorem dX6_countBridges_36 : decode cX6_countBridges 36 = .ok (.iaload, 1) := by decide +kernel
theorem dX6_countBridges_37 : decode cX6_countBridges 37 = .ok (.ifCond .ne 10, 3) := by decide +kernel
theorem dX6_countBridges_40 : decode cX6_countBridges 40 = .ok (.aload_n 0, 1) := by decide +kernel
theorem dX6_countBridges_41 : decode cX6_countBridges 41 = .ok (.iload_n 1, 1) := by decide +kernel
theorem dX6_countBridges_42 : decode cX6_countBridges 42 = .ok (.iconst (-1), 1) := by decide +kernel
theorem dX6_countBridges_43 : decode cX6_countBridges 43 = .ok (.iconst 1, 1) := by decide +kernel
theorem dX6_countBridges_44 : decode cX6_countBridges 44 = .ok (.invokestatic 70, 3) := by decide +kernel
theorem dX6_countBridges_47 : decode cX6_countBridges 47 = .ok (.iinc 1 1, 3) := by decide +kernel
theorem dX6_countBridges_50 : decode cX6_countBridges 50 = .ok (.goto (-30), 3) := by decide +kernel
theorem dX6_countBridges_53 : decode cX6_countBridges 53 = .ok (.aload_n 0, 1) := by decide +kernel
theorem dX6_countBridges_54 : decode cX6_countBridges 54 = .ok (.getfield 67, 3) := by decide +kernel
theorem dX6_countBridges_57 : decode cX6_countBridges 57 = .ok (.ireturn, 1) := by decide +kernel
theorem dX6_explore_0 : decode cX6_explore 0 = .ok (.iload_n 3, 1) := by decide +kernel
theorem dX6_explore_1 : decode cX6_explore 1 = .ok (.bipush 9, 2) := by decide +kernel
theorem dX6_explore_3 : decode cX6_explore 3 = .ok (.if_icmp .le 4, 3) := by decide +kernel
theorem dX6_explore_6 : decode cX6_explore 6 = .ok (.return_, 1) := by decide +kernel
theorem dX6_explore_7 : decode cX6_explore 7 = .ok (.aload_n 0, 1) := by decide +kernel
theorem dX6_explore_8 : decode cX6_explore 8 = .ok (.iload_n 1, 1) := by decide +kernel
theorem dX6_explore_9 : decode cX6_explore 9 = .ok (.invokevirtual 74, 3) := by decide +kernel
theorem dX6_explore_12 : decode cX6_explore 12 = .ok (.iconst 0, 1) := by decide +kernel
theorem dX6_explore_13 : decode cX6_explore 13 = .ok (.istore 4, 2) := by decide +kernel
theorem dX6_explore_15 : decode cX6_explore 15 = .ok (.iload 4, 2) := by decide +kernel
theorem dX6_explore_17 : decode cX6_explore 17 = .ok (.aload_n 0, 1) := by decide +kernel
theorem dX6_explore_18 : decode cX6_explore 18 = .ok (.getfield 24, 3) := by decide +kernel
theorem dX6_explore_21 : decode cX6_explore 21 = .ok (.getfield 37, 3) := by decide +kernel
theorem dX6_explore_24 : decode cX6_explore 24 = .ok (.if_icmp .ge 110, 3) := by decide +kernel
theorem dX6_explore_27 : decode cX6_explore 27 = .ok (.aload_n 0, 1) := by decide +kernel
theorem dX6_explore_28 : decode cX6_explore 28 = .ok (.getfield 24, 3) := by decide +kernel
theorem dX6_explore_31 : decode cX6_explore 31 = .ok (.iload 4, 2) := by decide +kernel
theorem dX6_explore_33 : decode cX6_explore 33 = .ok (.iload_n 1, 1) := by decide +kernel
theorem dX6_explore_34 : decode cX6_explore 34 = .ok (.invokevirtual 78, 3) := by decide +kernel
theorem dX6_explore_37 : decode cX6_explore 37 = .ok (.istore 5, 2) := by decide +kernel
theorem dX6_explore_39 : decode cX6_explore 39 = .ok (.iload 5, 2) := by decide +kernel
theorem dX6_explore_41 : decode cX6_explore 41 = .ok (.iconst (-1), 1) := by decide +kernel
theorem dX6_explore_42 : decode cX6_explore 42 = .ok (.if_icmp .eq 86, 3) := by decide +kernel
theorem dX6_explore_45 : decode cX6_explore 45 = .ok (.iload 4, 2) := by decide +kernel
theorem dX6_explore_47 : decode cX6_explore 47 = .ok (.iload_n 2, 1) := by decide +kernel
theorem dX6_explore_48 : decode cX6_explore 48 = .ok (.if_icmp .ne 6, 3) := by decide +kernel
theorem dX6_explore_51 : decode cX6_explore 51 = .ok (.goto 77, 3) := by decide +kernel
theorem dX6_explore_54 : decode cX6_explore 54 = .ok (.aload_n 0, 1) := by decide +kernel
theorem dX6_explore_55 : decode cX6_explore 55 = .ok (.getfield 18, 3) := by decide +kernel
theorem dX6_explore_58 : decode cX6_explore 58 = .ok (.iload 5, 2) := by decide +kernel
theorem dX6_explore_60 : decode cX6_explore 60 = .ok (.iaload, 1) := by decide +kernel
theorem dX6_explore_61 : decode cX6_explore 61 = .ok (.ifCond .eq 18, 3) := by decide +kernel
theorem dX6_explore_64 : decode cX6_explore 64 = .ok (.aload_n 0, 1) := by decide +kernel
theorem dX6_explore_65 : decode cX6_explore 65 = .ok (.iload_n 1, 1) := by decide +kernel
theorem dX6_explore_66 : decode cX6_explore 66 = .ok (.aload_n 0, 1) := by decide +kernel
theorem dX6_explore_67 : decode cX6_explore 67 = .ok (.getfield 18, 3) := by decide +kernel
theorem dX6_explore_70 : decode cX6_explore 70 = .ok (.iload 5, 2) := by decide +kernel
theorem dX6_explore_72 : decode cX6_explore 72 = .ok (.iaload, 1) := by decide +kernel
theorem dX6_explore_73 : decode cX6_explore 73 = .ok (.invokevirtual 82, 3) := by decide +kernel
theorem dX6_explore_76 : decode cX6_explore 76 = .ok (.goto 52, 3) := by decide +kernel
theorem dX6_explore_79 : decode cX6_explore 79 = .ok (.aload_n 0, 1) := by decide +kernel
theorem dX6_explore_80 : decode cX6_explore 80 = .ok (.iload 5, 2) := by decide +kernel
theorem dX6_explore_82 : decode cX6_explore 82 = .ok (.iload 4, 2) := by decide +kernel
theorem dX6_explore_84 : decode cX6_explore 84 = .ok (.iload_n 3, 1) := by decide +kernel
theorem dX6_explore_85 : decode cX6_explore 85 = .ok (.iconst 1, 1) := by decide +kernel
theorem dX6_explore_86 : decode cX6_explore 86 = .ok (.iadd, 1) := by decide +kernel
theorem dX6_explore_87 : decode cX6_explore 87 = .ok (.invokestatic 70, 3) := by decide +kernel
theorem dX6_explore_90 : decode cX6_explore 90 = .ok (.aload_n 0, 1) := by decide +kernel
theorem dX6_explore_91 : decode cX6_explore 91 = .ok (.iload_n 1, 1) := by decide +kernel
theorem dX6_explore_92 : decode cX6_explore 92 = .ok (.aload_n 0, 1) := by decide +kernel
theorem dX6_explore_93 : decode cX6_explore 93 = .ok (.getfield 21, 3) := by decide +kernel
theorem dX6_explore_96 : decode cX6_explore 96 = .ok (.iload 5, 2) := by decide +kernel
theorem dX6_explore_98 : decode cX6_explore 98 = .ok (.iaload, 1) := by decide +kernel
theorem dX6_explore_99 : decode cX6_explore 99 = .ok (.invokevirtual 82, 3) := by decide +kernel
theorem dX6_explore_102 : decode cX6_explore 102 = .ok (.aload_n 0, 1) := by decide +kernel
theorem dX6_explore_103 : decode cX6_explore 103 = .ok (.getfield 21, 3) := by decide +kernel
theorem dX6_explore_106 : decode cX6_explore 106 = .ok (.iload 5, 2) := by decide +kernel
theorem dX6_explore_108 : decode cX6_explore 108 = .ok (.iaload, 1) := by decide +kernel
theorem dX6_explore_109 : decode cX6_explore 109 = .ok (.aload_n 0, 1) := by decide +kernel
theorem dX6_explore_110 : decode cX6_explore 110 = .ok (.getfield 18, 3) := by decide +kernel
theorem dX6_explore_113 : decode cX6_explore 113 = .ok (.iload_n 1, 1) := by decide +kernel
theorem dX6_explore_114 : decode cX6_explore 114 = .ok (.iaload, 1) := by decide +kernel
theorem dX6_explore_115 : decode cX6_explore 115 = .ok (.if_icmp .le 13, 3) := by decide +kernel
theorem dX6_explore_118 : decode cX6_explore 118 = .ok (.aload_n 0, 1) := by decide +kernel
theorem dX6_explore_119 : decode cX6_explore 119 = .ok (.dup, 1) := by decide +kernel
theorem dX6_explore_120 : decode cX6_explore 120 = .ok (.getfield 67, 3) := by decide +kernel
theorem dX6_explore_123 : decode cX6_explore 123 = .ok (.iconst 1, 1) := by decide +kernel
theorem dX6_explore_124 : decode cX6_explore 124 = .ok (.iadd, 1) := by decide +kernel
theorem dX6_explore_125 : decode cX6_explore 125 = .ok (.putfield 67, 3) := by decide +kernel
theorem dX6_explore_128 : decode cX6_explore 128 = .ok (.iinc 4 1, 3) := by decide +kernel
theorem dX6_explore_131 : decode cX6_explore 131 = .ok (.goto (-116), 3) := by decide +kernel
theorem dX6_explore_134 : decode cX6_explore 134 = .ok (.return_, 1) := by decide +kernel
theorem dX6_numberMagnet_0 : decode cX6_numberMagnet 0 = .ok (.aload_n 0, 1) := by decide +kernel
theorem dX6_numberMagnet_1 : decode cX6_numberMagnet 1 = .ok (.dup, 1) := by decide +kernel
theorem dX6_numberMagnet_2 : decode cX6_numberMagnet 2 = .ok (.getfield 64, 3) := by decide +kernel
theorem dX6_numberMagnet_5 : decode cX6_numberMagnet 5 = .ok (.iconst 1, 1) := by decide +kernel
theorem dX6_numberMagnet_6 : decode cX6_numberMagnet 6 = .ok (.iadd, 1) := by decide +kernel
theorem dX6_numberMagnet_7 : decode cX6_numberMagnet 7 = .ok (.putfield 64, 3) := by decide +kernel
theorem dX6_numberMagnet_10 : decode cX6_numberMagnet 10 = .ok (.aload_n 0, 1) := by decide +kernel
theorem dX6_numberMagnet_11 : decode cX6_numberMagnet 11 = .ok (.getfield 18, 3) := by decide +kernel
theorem dX6_numberMagnet_14 : decode cX6_numberMagnet 14 = .ok (.iload_n 1, 1) := by decide +kernel
theorem dX6_numberMagnet_15 : decode cX6_numberMagnet 15 = .ok (.aload_n 0, 1) := by decide +kernel
theorem dX6_numberMagnet_16 : decode cX6_numberMagnet 16 = .ok (.getfield 64, 3) := by decide +kernel
theorem dX6_numberMagnet_19 : decode cX6_numberMagnet 19 = .ok (.iastore, 1) := by decide +kernel
theorem dX6_numberMagnet_20 : decode cX6_numberMagnet 20 = .ok (.aload_n 0, 1) := by decide +kernel
theorem dX6_numberMagnet_21 : decode cX6_numberMagnet 21 = .ok (.getfield 21, 3) := by decide +kernel
theorem dX6_numberMagnet_24 : decode cX6_numberMagnet 24 = .ok (.iload_n 1, 1) := by decide +kernel
theorem dX6_numberMagnet_25 : decode cX6_numberMagnet 25 = .ok (.aload_n 0, 1) := by decide +kernel
theorem dX6_numberMagnet_26 : decode cX6_numberMagnet 26 = .ok (.getfield 64, 3) := by decide +kernel
theorem dX6_numberMagnet_29 : decode cX6_numberMagnet 29 = .ok (.iastore, 1) := by decide +kernel
theorem dX6_numberMagnet_30 : decode cX6_numberMagnet 30 = .ok (.return_, 1) := by decide +kernel
theorem dX6_reachNumber_0 : decode cX6_reachNumber 0 = .ok (.aload_n 0, 1) := by decide +kernel
theorem dX6_reachNumber_1 : decode cX6_reachNumber 1 = .ok (.getfield 21, 3) := by decide +kernel
theorem dX6_reachNumber_4 : decode cX6_reachNumber 4 = .ok (.iload_n 1, 1) := by decide +kernel
theorem dX6_reachNumber_5 : decode cX6_reachNumber 5 = .ok (.aload_n 0, 1) := by decide +kernel
theorem dX6_reachNumber_6 : decode cX6_reachNumber 6 = .ok (.getfield 21, 3) := by decide +kernel
theorem dX6_reachNumber_9 : decode cX6_reachNumber 9 = .ok (.iload_n 1, 1) := by decide +kernel
theorem dX6_reachNumber_10 : decode cX6_reachNumber 10 = .ok (.iaload, 1) := by decide +kernel
theorem dX6_reachNumber_11 : decode cX6_reachNumber 11 = .ok (.iload_n 2, 1) := by decide +kernel
theorem dX6_reachNumber_12 : decode cX6_reachNumber 12 = .ok (.invokestatic 86, 3) := by decide +kernel
theorem dX6_reachNumber_15 : decode cX6_reachNumber 15 = .ok (.iastore, 1) := by decide +kernel
theorem dX6_reachNumber_16 : decode cX6_reachNumber 16 = .ok (.return_, 1) := by decide +kernel
theorem dX6_countBridgesByFilling_0 : decode cX6_countBridgesByFilling 0 = .ok (.aload_n 0, 1) := by decide +kernel
theorem dX6_countBridgesByFilling_1 : decode cX6_countBridgesByFilling 1 = .ok (.iconst (-1), 1) := by decide +kernel
theorem dX6_countBridgesByFilling_2 : decode cX6_countBridgesByFilling 2 = .ok (.invokevirtual 91, 3) := by decide +kernel
theorem dX6_countBridgesByFilling_5 : decode cX6_countBridgesByFilling 5 = .ok (.istore_n 1, 1) := by decide +kernel
theorem dX6_countBridgesByFilling_6 : decode cX6_countBridgesByFilling 6 = .ok (.iconst 0, 1) := by decide +kernel
theorem dX6_countBridgesByFilling_7 : decode cX6_countBridgesByFilling 7 = .ok (.istore_n 2, 1) := by decide +kernel
theorem dX6_countBridgesByFilling_8 : decode cX6_countBridgesByFilling 8 = .ok (.iconst 0, 1) := by decide +kernel
theorem dX6_countBridgesByFilling_9 : decode cX6_countBridgesByFilling 9 = .ok (.istore_n 3, 1) := by decide +kernel
theorem dX6_countBridgesByFilling_10 : decode cX6_countBridgesByFilling 10 = .ok (.iload_n 3, 1) := by decide +kernel
theorem dX6_countBridgesByFilling_11 : decode cX6_countBridgesByFilling 11 = .ok (.aload_n 0, 1) := by decide +kernel
theorem dX6_countBridgesByFilling_12 : decode cX6_countBridgesByFilling 12 = .ok (.getfield 24, 3) := by decide +kernel
theorem dX6_countBridgesByFilling_15 : decode cX6_countBridgesByFilling 15 = .ok (.getfield 37, 3) := by decide +kernel
theorem dX6_countBridgesByFilling_18 : decode cX6_countBridgesByFilling 18 = .ok (.if_icmp .ge 21, 3) := by decide +kernel
theorem dX6_countBridgesByFilling_21 : decode cX6_countBridgesByFilling 21 = .ok (.aload_n 0, 1) := by decide +kernel
theorem dX6_countBridgesByFilling_22 : decode cX6_countBridgesByFilling 22 = .ok (.iload_n 3, 1) := by decide +kernel
theorem dX6_countBridgesByFilling_23 : decode cX6_countBridgesByFilling 23 = .ok (.invokevirtual 91, 3) := by decide +kernel
theorem dX6_countBridgesByFilling_26 : decode cX6_countBridgesByFilling 26 = .ok (.iload_n 1, 1) := by decide +kernel
theorem dX6_countBridgesByFilling_27 : decode cX6_countBridgesByFilling 27 = .ok (.if_icmp .le 6, 3) := by decide +kernel
theorem dX6_countBridgesByFilling_30 : decode cX6_countBridgesByFilling 30 = .ok (.iinc 2 1, 3) := by decide +kernel
theorem dX6_countBridgesByFilling_33 : decode cX6_countBridgesByFilling 33 = .ok (.iinc 3 1, 3) := by decide +kernel
theorem dX6_countBridgesByFilling_36 : decode cX6_countBridgesByFilling 36 = .ok (.goto (-26), 3) := by decide +kernel
theorem dX6_countBridgesByFilling_39 : decode cX6_countBridgesByFilling 39 = .ok (.iload_n 2, 1) := by decide +kernel
theorem dX6_countBridgesByFilling_40 : decode cX6_countBridgesByFilling 40 = .ok (.ireturn, 1) := by decide +kernel
theorem dX6_canUniteCounterparts_0 : decode cX6_canUniteCounterparts 0 = .ok (.aload_n 0, 1) := by decide +kernel
theorem dX6_canUniteCounterparts_1 : decode cX6_canUniteCounterparts 1 = .ok (.invokevirtual 28, 3) := by decide +kernel
theorem dX6_canUniteCounterparts_4 : decode cX6_canUniteCounterparts 4 = .ok (.iconst 0, 1) := by decide +kernel
theorem dX6_canUniteCounterparts_5 : decode cX6_canUniteCounterparts 5 = .ok (.istore_n 1, 1) := by decide +kernel
theorem dX6_canUniteCounterparts_6 : decode cX6_canUniteCounterparts 6 = .ok (.iload_n 1, 1) := by decide +kernel
theorem dX6_canUniteCounterparts_7 : decode cX6_canUniteCounterparts 7 = .ok (.aload_n 0, 1) := by decide +kernel
theorem dX6_canUniteCounterparts_8 : decode cX6_canUniteCounterparts 8 = .ok (.getfield 24, 3) := by decide +kernel
theorem dX6_canUniteCounterparts_11 : decode cX6_canUniteCounterparts 11 = .ok (.getfield 37, 3) := by decide +kernel
theorem dX6_canUniteCounterparts_14 : decode cX6_canUniteCounterparts 14 = .ok (.if_icmp .ge 49, 3) := by decide +kernel
theorem dX6_canUniteCounterparts_17 : decode cX6_canUniteCounterparts 17 = .ok (.aload_n 0, 1) := by decide +kernel
theorem dX6_canUniteCounterparts_18 : decode cX6_canUniteCounterparts 18 = .ok (.getfield 24, 3) := by decide +kernel
theorem dX6_canUniteCounterparts_21 : decode cX6_canUniteCounterparts 21 = .ok (.getfield 40, 3) := by decide +kernel
theorem dX6_canUniteCounterparts_24 : decode cX6_canUniteCounterparts 24 = .ok (.iload_n 1, 1) := by decide +kernel
theorem dX6_canUniteCounterparts_25 : decode cX6_canUniteCounterparts 25 = .ok (.iaload, 1) := by decide +kernel
theorem dX6_canUniteCounterparts_26 : decode cX6_canUniteCounterparts 26 = .ok (.istore_n 2, 1) := by decide +kernel
theorem dX6_canUniteCounterparts_27 : decode cX6_canUniteCounterparts 27 = .ok (.aload_n 0, 1) := by decide +kernel
theorem dX6_canUniteCounterparts_28 : decode cX6_canUniteCounterparts 28 = .ok (.getfield 24, 3) := by decide +kernel
theorem dX6_canUniteCounterparts_31 : decode cX6_canUniteCounterparts 31 = .ok (.getfield 43, 3) := by decide +kernel
theorem dX6_canUniteCounterparts_34 : decode cX6_canUniteCounterparts 34 = .ok (.iload_n 1, 1) := by decide +kernel
theorem dX6_canUniteCounterparts_35 : decode cX6_canUniteCounterparts 35 = .ok (.iaload, 1) := by decide +kernel
theorem dX6_canUniteCounterparts_36 : decode cX6_canUniteCounterparts 36 = .ok (.istore_n 3, 1) := by decide +kernel
theorem dX6_canUniteCounterparts_37 : decode cX6_canUniteCounterparts 37 = .ok (.aload_n 0, 1) := by decide +kernel
theorem dX6_canUniteCounterparts_38 : decode cX6_canUniteCounterparts 38 = .ok (.iload_n 2, 1) := by decide +kernel
theorem dX6_canUniteCounterparts_39 : decode cX6_canUniteCounterparts 39 = .ok (.iload_n 3, 1) := by decide +kernel
theorem dX6_canUniteCounterparts_40 : decode cX6_canUniteCounterparts 40 = .ok (.bipush 9, 2) := by decide +kernel
theorem dX6_canUniteCounterparts_42 : decode cX6_canUniteCounterparts 42 = .ok (.iadd, 1) := by decide +kernel
theorem dX6_canUniteCounterparts_43 : decode cX6_canUniteCounterparts 43 = .ok (.invokevirtual 46, 3) := by decide +kernel
theorem dX6_canUniteCounterparts_46 : decode cX6_canUniteCounterparts 46 = .ok (.pop, 1) := by decide +kernel
theorem dX6_canUniteCounterparts_47 : decode cX6_canUniteCounterparts 47 = .ok (.aload_n 0, 1) := by decide +kernel
theorem dX6_canUniteCounterparts_48 : decode cX6_canUniteCounterparts 48 = .ok (.iload_n 3, 1) := by decide +kernel
theorem dX6_canUniteCounterparts_49 : decode cX6_canUniteCounterparts 49 = .ok (.iload_n 2, 1) := by decide +kernel
theorem dX6_canUniteCounterparts_50 : decode cX6_canUniteCounterparts 50 = .ok (.bipush 9, 2) := by decide +kernel
theorem dX6_canUniteCounterparts_52 : decode cX6_canUniteCounterparts 52 = .ok (.iadd, 1) := by decide +kernel
theorem dX6_canUniteCounterparts_53 : decode cX6_canUniteCounterparts 53 = .ok (.invokevirtual 46, 3) := by decide +kernel
theorem dX6_canUniteCounterparts_56 : decode cX6_canUniteCounterparts 56 = .ok (.pop, 1) := by decide +kernel
theorem dX6_canUniteCounterparts_57 : decode cX6_canUniteCounterparts 57 = .ok (.iinc 1 1, 3) := by decide +kernel
theorem dX6_canUniteCounterparts_60 : decode cX6_canUniteCounterparts 60 = .ok (.goto (-54), 3) := by decide +kernel
theorem dX6_canUniteCounterparts_63 : decode cX6_canUniteCounterparts 63 = .ok (.iconst 0, 1) := by decide +kernel
theorem dX6_canUniteCounterparts_64 : decode cX6_canUniteCounterparts 64 = .ok (.istore_n 1, 1) := by decide +kernel
theorem dX6_canUniteCounterparts_65 : decode cX6_canUniteCounterparts 65 = .ok (.iload_n 1, 1) := by decide +kernel
theorem dX6_canUniteCounterparts_66 : decode cX6_canUniteCounterparts 66 = .ok (.aload_n 0, 1) := by decide +kernel
theorem dX6_canUniteCounterparts_67 : decode cX6_canUniteCounterparts 67 = .ok (.getfield 24, 3) := by decide +kernel
theorem dX6_canUniteCounterparts_70 : decode cX6_canUniteCounterparts 70 = .ok (.getfield 31, 3) := by decide +kernel
theorem dX6_canUniteCounterparts_73 : decode cX6_canUniteCounterparts 73 = .ok (.if_icmp .ge 29, 3) := by decide +kernel
theorem dX6_canUniteCounterparts_76 : decode cX6_canUniteCounterparts 76 = .ok (.aload_n 0, 1) := by decide +kernel
theorem dX6_canUniteCounterparts_77 : decode cX6_canUniteCounterparts 77 = .ok (.getfield 9, 3) := by decide +kernel
theorem dX6_canUniteCounterparts_80 : decode cX6_canUniteCounterparts 80 = .ok (.iload_n 1, 1) := by decide +kernel
theorem dX6_canUniteCounterparts_81 : decode cX6_canUniteCounterparts 81 = .ok (.iaload, 1) := by decide +kernel
theorem dX6_canUniteCounterparts_82 : decode cX6_canUniteCounterparts 82 = .ok (.aload_n 0, 1) := by decide +kernel
theorem dX6_canUniteCounterparts_83 : decode cX6_canUniteCounterparts 83 = .ok (.getfield 9, 3) := by decide +kernel
theorem dX6_canUniteCounterparts_86 : decode cX6_canUniteCounterparts 86 = .ok (.iload_n 1, 1) := by decide +kernel
theorem dX6_canUniteCounterparts_87 : decode cX6_canUniteCounterparts 87 = .ok (.bipush 9, 2) := by decide +kernel
theorem dX6_canUniteCounterparts_89 : decode cX6_canUniteCounterparts 89 = .ok (.iadd, 1) := by decide +kernel
theorem dX6_canUniteCounterparts_90 : decode cX6_canUniteCounterparts 90 = .ok (.iaload, 1) := by decide +kernel
theorem dX6_canUniteCounterparts_91 : decode cX6_canUniteCounterparts 91 = .ok (.if_icmp .ne 5, 3) := by decide +kernel
theorem dX6_canUniteCounterparts_94 : decode cX6_canUniteCounterparts 94 = .ok (.iconst 0, 1) := by decide +kernel
theorem dX6_canUniteCounterparts_95 : decode cX6_canUniteCounterparts 95 = .ok (.ireturn, 1) := by decide +kernel
theorem dX6_canUniteCounterparts_96 : decode cX6_canUniteCounterparts 96 = .ok (.iinc 1 1, 3) := by decide +kernel
theorem dX6_canUniteCounterparts_99 : decode cX6_canUniteCounterparts 99 = .ok (.goto (-34), 3) := by decide +kernel
theorem dX6_canUniteCounterparts_102 : decode cX6_canUniteCounterparts 102 = .ok (.iconst 1, 1) := by decide +kernel
theorem dX6_canUniteCounterparts_103 : decode cX6_canUniteCounterparts 103 = .ok (.ireturn, 1) := by decide +kernel
theorem dX6_bestTurnSet_0 : decode cX6_bestTurnSet 0 = .ok (.aload_n 0, 1) := by decide +kernel
theorem dX6_bestTurnSet_1 : decode cX6_bestTurnSet 1 = .ok (.iconst 0, 1) := by decide +kernel
theorem dX6_bestTurnSet_2 : decode cX6_bestTurnSet 2 = .ok (.putfield 95, 3) := by decide +kernel
theorem dX6_bestTurnSet_5 : decode cX6_bestTurnSet 5 = .ok (.iconst 0, 1) := by decide +kernel
theorem dX6_bestTurnSet_6 : decode cX6_bestTurnSet 6 = .ok (.istore_n 1, 1) := by decide +kernel
theorem dX6_bestTurnSet_7 : decode cX6_bestTurnSet 7 = .ok (.iconst 0, 1) := by decide +kernel
theorem dX6_bestTurnSet_8 : decode cX6_bestTurnSet 8 = .ok (.istore_n 2, 1) := by decide +kernel
theorem dX6_bestTurnSet_9 : decode cX6_bestTurnSet 9 = .ok (.iconst 0, 1) := by decide +kernel
theorem dX6_bestTurnSet_10 : decode cX6_bestTurnSet 10 = .ok (.istore_n 3, 1) := by decide +kernel
theorem dX6_bestTurnSet_11 : decode cX6_bestTurnSet 11 = .ok (.iload_n 3, 1) := by decide +kernel
theorem dX6_bestTurnSet_12 : decode cX6_bestTurnSet 12 = .ok (.aload_n 0, 1) := by decide +kernel
theorem dX6_bestTurnSet_13 : decode cX6_bestTurnSet 13 = .ok (.getfield 24, 3) := by decide +kernel
theorem dX6_bestTurnSet_16 : decode cX6_bestTurnSet 16 = .ok (.getfield 31, 3) := by decide +kernel
theorem dX6_bestTurnSet_19 : decode cX6_bestTurnSet 19 = .ok (.if_icmp .ge 39, 3) := by decide +kernel
theorem dX6_bestTurnSet_22 : decode cX6_bestTurnSet 22 = .ok (.iload_n 1, 1) := by decide +kernel
theorem dX6_bestTurnSet_23 : decode cX6_bestTurnSet 23 = .ok (.iload_n 3, 1) := by decide +kernel
theorem dX6_bestTurnSet_24 : decode cX6_bestTurnSet 24 = .ok (.invokestatic 98, 3) := by decide +kernel
theorem dX6_bestTurnSet_27 : decode cX6_bestTurnSet 27 = .ok (.ifCond .ne 25, 3) := by decide +kernel
theorem dX6_bestTurnSet_30 : decode cX6_bestTurnSet 30 = .ok (.aload_n 0, 1) := by decide +kernel
theorem dX6_bestTurnSet_31 : decode cX6_bestTurnSet 31 = .ok (.iload_n 3, 1) := by decide +kernel
theorem dX6_bestTurnSet_32 : decode cX6_bestTurnSet 32 = .ok (.invokevirtual 101, 3) := by decide +kernel
theorem dX6_bestTurnSet_35 : decode cX6_bestTurnSet 35 = .ok (.istore 4, 2) := by decide +kernel
theorem dX6_bestTurnSet_37 : decode cX6_bestTurnSet 37 = .ok (.iload_n 1, 1) := by decide +kernel
theorem dX6_bestTurnSet_38 : decode cX6_bestTurnSet 38 = .ok (.iload 4, 2) := by decide +kernel
theorem dX6_bestTurnSet_40 : decode cX6_bestTurnSet 40 = .ok (.ior, 1) := by decide +kernel
theorem dX6_bestTurnSet_41 : decode cX6_bestTurnSet 41 = .ok (.istore_n 1, 1) := by decide +kernel
theorem dX6_bestTurnSet_42 : decode cX6_bestTurnSet 42 = .ok (.iload_n 2, 1) := by decide +kernel
theorem dX6_bestTurnSet_43 : decode cX6_bestTurnSet 43 = .ok (.aload_n 0, 1) := by decide +kernel
theorem dX6_bestTurnSet_44 : decode cX6_bestTurnSet 44 = .ok (.iload 4, 2) := by decide +kernel
theorem dX6_bestTurnSet_46 : decode cX6_bestTurnSet 46 = .ok (.iload_n 3, 1) := by decide +kernel
theorem dX6_bestTurnSet_47 : decode cX6_bestTurnSet 47 = .ok (.invokevirtual 104, 3) := by decide +kernel
theorem dX6_bestTurnSet_50 : decode cX6_bestTurnSet 50 = .ok (.ior, 1) := by decide +kernel
theorem dX6_bestTurnSet_51 : decode cX6_bestTurnSet 51 = .ok (.istore_n 2, 1) := by decide +kernel
theorem dX6_bestTurnSet_52 : decode cX6_bestTurnSet 52 = .ok (.iinc 3 1, 3) := by decide +kernel
theorem dX6_bestTurnSet_55 : decode cX6_bestTurnSet 55 = .ok (.goto (-44), 3) := by decide +kernel
theorem dX6_bestTurnSet_58 : decode cX6_bestTurnSet 58 = .ok (.aload_n 0, 1) := by decide +kernel
theorem dX6_bestTurnSet_59 : decode cX6_bestTurnSet 59 = .ok (.getfield 24, 3) := by decide +kernel
theorem dX6_bestTurnSet_62 : decode cX6_bestTurnSet 62 = .ok (.aload_n 0, 1) := by decide +kernel
theorem dX6_bestTurnSet_63 : decode cX6_bestTurnSet 63 = .ok (.getfield 95, 3) := by decide +kernel
theorem dX6_bestTurnSet_66 : decode cX6_bestTurnSet 66 = .ok (.invokevirtual 107, 3) := by decide +kernel
theorem dX6_bestTurnSet_69 : decode cX6_bestTurnSet 69 = .ok (.ifCond .ne 7, 3) := by decide +kernel
theorem dX6_bestTurnSet_72 : decode cX6_bestTurnSet 72 = .ok (.iload_n 2, 1) := by decide +kernel
theorem dX6_bestTurnSet_73 : decode cX6_bestTurnSet 73 = .ok (.goto 4, 3) := by decide +kernel
theorem dX6_bestTurnSet_76 : decode cX6_bestTurnSet 76 = .ok (.iconst (-1), 1) := by decide +kernel
theorem dX6_bestTurnSet_77 : decode cX6_bestTurnSet 77 = .ok (.ireturn, 1) := by decide +kernel
theorem dX6_givePolesFrom_0 : decode cX6_givePolesFrom 0 = .ok (.iconst 1, 1) := by decide +kernel
theorem dX6_givePolesFrom_1 : decode cX6_givePolesFrom 1 = .ok (.iload_n 1, 1) := by decide +kernel
theorem dX6_givePolesFrom_2 : decode cX6_givePolesFrom 2 = .ok (.ishl, 1) := by decide +kernel
theorem dX6_givePolesFrom_3 : decode cX6_givePolesFrom 3 = .ok (.istore_n 2, 1) := by decide +kernel
theorem dX6_givePolesFrom_4 : decode cX6_givePolesFrom 4 = .ok (.aload_n 0, 1) := by decide +kernel
theorem dX6_givePolesFrom_5 : decode cX6_givePolesFrom 5 = .ok (.dup, 1) := by decide +kernel
theorem dX6_givePolesFrom_6 : decode cX6_givePolesFrom 6 = .ok (.getfield 95, 3) := by decide +kernel
theorem dX6_givePolesFrom_9 : decode cX6_givePolesFrom 9 = .ok (.iload_n 2, 1) := by decide +kernel
theorem dX6_givePolesFrom_10 : decode cX6_givePolesFrom 10 = .ok (.ior, 1) := by decide +kernel
theorem dX6_givePolesFrom_11 : decode cX6_givePolesFrom 11 = .ok (.putfield 95, 3) := by decide +kernel
theorem dX6_givePolesFrom_14 : decode cX6_givePolesFrom 14 = .ok (.iconst 1, 1) := by decide +kernel
theorem dX6_givePolesFrom_15 : decode cX6_givePolesFrom 15 = .ok (.istore_n 3, 1) := by decide +kernel
theorem dX6_givePolesFrom_16 : decode cX6_givePolesFrom 16 = .ok (.iload_n 3, 1) := by decide +kernel
theorem dX6_givePolesFrom_17 : decode cX6_givePolesFrom 17 = .ok (.aload_n 0, 1) := by decide +kernel
theorem dX6_givePolesFrom_18 : decode cX6_givePolesFrom 18 = .ok (.getfield 24, 3) := by decide +kernel
theorem dX6_givePolesFrom_21 : decode cX6_givePolesFrom 21 = .ok (.getfield 31, 3) := by decide +kernel
theorem dX6_givePolesFrom_24 : decode cX6_givePolesFrom 24 = .ok (.if_icmp .ge 106, 3) := by decide +kernel
theorem dX6_givePolesFrom_27 : decode cX6_givePolesFrom 27 = .ok (.iconst 0, 1) := by decide +kernel
theorem dX6_givePolesFrom_28 : decode cX6_givePolesFrom 28 = .ok (.istore 4, 2) := by decide +kernel
theorem dX6_givePolesFrom_30 : decode cX6_givePolesFrom 30 = .ok (.iload 4, 2) := by decide +kernel
theorem dX6_givePolesFrom_32 : decode cX6_givePolesFrom 32 = .ok (.aload_n 0, 1) := by decide +kernel
theorem dX6_givePolesFrom_33 : decode cX6_givePolesFrom 33 = .ok (.getfield 24, 3) := by decide +kernel
theorem dX6_givePolesFrom_36 : decode cX6_givePolesFrom 36 = .ok (.getfield 37, 3) := by decide +kernel
theorem dX6_givePolesFrom_39 : decode cX6_givePolesFrom 39 = .ok (.if_icmp .ge 85, 3) := by decide +kernel
theorem dX6_givePolesFrom_42 : decode cX6_givePolesFrom 42 = .ok (.iconst 1, 1) := by decide +kernel
theorem dX6_givePolesFrom_43 : decode cX6_givePolesFrom 43 = .ok (.aload_n 0, 1) := by decide +kernel
theorem dX6_givePolesFrom_44 : decode cX6_givePolesFrom 44 = .ok (.getfield 24, 3) := by decide +kernel
theorem dX6_givePolesFrom_47 : decode cX6_givePolesFrom 47 = .ok (.getfield 40, 3) := by decide +kernel
theorem dX6_givePolesFrom_50 : decode cX6_givePolesFrom 50 = .ok (.iload 4, 2) := by decide +kernel
theorem dX6_givePolesFrom_52 : decode cX6_givePolesFrom 52 = .ok (.iaload, 1) := by decide +kernel
theorem dX6_givePolesFrom_53 : decode cX6_givePolesFrom 53 = .ok (.ishl, 1) := by decide +kernel
theorem dX6_givePolesFrom_54 : decode cX6_givePolesFrom 54 = .ok (.iconst 1, 1) := by decide +kernel
theorem dX6_givePolesFrom_55 : decode cX6_givePolesFrom 55 = .ok (.aload_n 0, 1) := by decide +kernel
theorem dX6_givePolesFrom_56 : decode cX6_givePolesFrom 56 = .ok (.getfield 24, 3) := by decide +kernel
theorem dX6_givePolesFrom_59 : decode cX6_givePolesFrom 59 = .ok (.getfield 43, 3) := by decide +kernel
theorem dX6_givePolesFrom_62 : decode cX6_givePolesFrom 62 = .ok (.iload 4, 2) := by decide +kernel
theorem dX6_givePolesFrom_64 : decode cX6_givePolesFrom 64 = .ok (.iaload, 1) := by decide +kernel
theorem dX6_givePolesFrom_65 : decode cX6_givePolesFrom 65 = .ok (.ishl, 1) := by decide +kernel
theorem dX6_givePolesFrom_66 : decode cX6_givePolesFrom 66 = .ok (.ior, 1) := by decide +kernel
theorem dX6_givePolesFrom_67 : decode cX6_givePolesFrom 67 = .ok (.istore 5, 2) := by decide +kernel
theorem dX6_givePolesFrom_69 : decode cX6_givePolesFrom 69 = .ok (.iload 5, 2) := by decide +kernel
theorem dX6_givePolesFrom_71 : decode cX6_givePolesFrom 71 = .ok (.iload_n 2, 1) := by decide +kernel
theorem dX6_givePolesFrom_72 : decode cX6_givePolesFrom 72 = .ok (.iconst (-1), 1) := by decide +kernel
theorem dX6_givePolesFrom_73 : decode cX6_givePolesFrom 73 = .ok (.ixor, 1) := by decide +kernel
theorem dX6_givePolesFrom_74 : decode cX6_givePolesFrom 74 = .ok (.iand, 1) := by decide +kernel
theorem dX6_givePolesFrom_75 : decode cX6_givePolesFrom 75 = .ok (.istore 6, 2) := by decide +kernel
theorem dX6_givePolesFrom_77 : decode cX6_givePolesFrom 77 = .ok (.iload 6, 2) := by decide +kernel
theorem dX6_givePolesFrom_79 : decode cX6_givePolesFrom 79 = .ok (.ifCond .eq 39, 3) := by decide +kernel
theorem dX6_givePolesFrom_82 : decode cX6_givePolesFrom 82 = .ok (.iload 6, 2) := by decide +kernel
theorem dX6_givePolesFrom_84 : decode cX6_givePolesFrom 84 = .ok (.iload 5, 2) := by decide +kernel
theorem dX6_givePolesFrom_86 : decode cX6_givePolesFrom 86 = .ok (.if_icmp .ne 6, 3) := by decide +kernel
theorem dX6_givePolesFrom_89 : decode cX6_givePolesFrom 89 = .ok (.goto 29, 3) := by decide +kernel
theorem dX6_givePolesFrom_92 : decode cX6_givePolesFrom 92 = .ok (.iload_n 2, 1) := by decide +kernel
theorem dX6_givePolesFrom_93 : decode cX6_givePolesFrom 93 = .ok (.iload 6, 2) := by decide +kernel
theorem dX6_givePolesFrom_95 : decode cX6_givePolesFrom 95 = .ok (.ior, 1) := by decide +kernel
theorem dX6_givePolesFrom_96 : decode cX6_givePolesFrom 96 = .ok (.istore_n 2, 1) := by decide +kernel
theorem dX6_givePolesFrom_97 : decode cX6_givePolesFrom 97 = .ok (.iload 5, 2) := by decide +kernel
theorem dX6_givePolesFrom_99 : decode cX6_givePolesFrom 99 = .ok (.aload_n 0, 1) := by decide +kernel
theorem dX6_givePolesFrom_100 : decode cX6_givePolesFrom 100 = .ok (.getfield 95, 3) := by decide +kernel
theorem dX6_givePolesFrom_103 : decode cX6_givePolesFrom 103 = .ok (.iand, 1) := by decide +kernel
theorem dX6_givePolesFrom_104 : decode cX6_givePolesFrom 104 = .ok (.ifCond .ne 14, 3) := by decide +kernel
theorem dX6_givePolesFrom_107 : decode cX6_givePolesFrom 107 = .ok (.aload_n 0, 1) := by decide +kernel
theorem dX6_givePolesFrom_108 : decode cX6_givePolesFrom 108 = .ok (.dup, 1) := by decide +kernel
theorem dX6_givePolesFrom_109 : decode cX6_givePolesFrom 109 = .ok (.getfield 95, 3) := by decide +kernel
theorem dX6_givePolesFrom_112 : decode cX6_givePolesFrom 112 = .ok (.iload 6, 2) := by decide +kernel
theorem dX6_givePolesFrom_114 : decode cX6_givePolesFrom 114 = .ok (.ior, 1) := by decide +kernel
theorem dX6_givePolesFrom_115 : decode cX6_givePolesFrom 115 = .ok (.putfield 95, 3) := by decide +kernel
theorem dX6_givePolesFrom_118 : decode cX6_givePolesFrom 118 = .ok (.iinc 4 1, 3) := by decide +kernel
theorem dX6_givePolesFrom_121 : decode cX6_givePolesFrom 121 = .ok (.goto (-91), 3) := by decide +kernel
theorem dX6_givePolesFrom_124 : decode cX6_givePolesFrom 124 = .ok (.iinc 3 1, 3) := by decide +kernel
theorem dX6_givePolesFrom_127 : decode cX6_givePolesFrom 127 = .ok (.goto (-111), 3) := by decide +kernel
theorem dX6_givePolesFrom_130 : decode cX6_givePolesFrom 130 = .ok (.iload_n 2, 1) := by decide +kernel
theorem dX6_givePolesFrom_131 : decode cX6_givePolesFrom 131 = .ok (.ireturn, 1) := by decide +kernel
theorem dX6_bestTurnSetOf_0 : decode cX6_bestTurnSetOf 0 = .ok (.iload_n 1, 1) := by decide +kernel
theorem dX6_bestTurnSetOf_1 : decode cX6_bestTurnSetOf 1 = .ok (.aload_n 0, 1) := by decide +kernel
theorem dX6_bestTurnSetOf_2 : decode cX6_bestTurnSetOf 2 = .ok (.getfield 95, 3) := by decide +kernel
theorem dX6_bestTurnSetOf_5 : decode cX6_bestTurnSetOf 5 = .ok (.aload_n 0, 1) := by decide +kernel
theorem dX6_bestTurnSetOf_6 : decode cX6_bestTurnSetOf 6 = .ok (.getfield 24, 3) := by decide +kernel
theorem dX6_bestTurnSetOf_9 : decode cX6_bestTurnSetOf 9 = .ok (.getfield 110, 3) := by decide +kernel
theorem dX6_bestTurnSetOf_12 : decode cX6_bestTurnSetOf 12 = .ok (.ixor, 1) := by decide +kernel
theorem dX6_bestTurnSetOf_13 : decode cX6_bestTurnSetOf 13 = .ok (.iand, 1) := by decide +kernel
theorem dX6_bestTurnSetOf_14 : decode cX6_bestTurnSetOf 14 = .ok (.istore_n 3, 1) := by decide +kernel
theorem dX6_bestTurnSetOf_15 : decode cX6_bestTurnSetOf 15 = .ok (.iload_n 1, 1) := by decide +kernel
theorem dX6_bestTurnSetOf_16 : decode cX6_bestTurnSetOf 16 = .ok (.iload_n 3, 1) := by decide +kernel
theorem dX6_bestTurnSetOf_17 : decode cX6_bestTurnSetOf 17 = .ok (.ixor, 1) := by decide +kernel
theorem dX6_bestTurnSetOf_18 : decode cX6_bestTurnSetOf 18 = .ok (.istore 4, 2) := by decide +kernel
theorem dX6_bestTurnSetOf_20 : decode cX6_bestTurnSetOf 20 = .ok (.iload_n 3, 1) := by decide +kernel
theorem dX6_bestTurnSetOf_21 : decode cX6_bestTurnSetOf 21 = .ok (.invokestatic 113, 3) := by decide +kernel
theorem dX6_bestTurnSetOf_24 : decode cX6_bestTurnSetOf 24 = .ok (.iload 4, 2) := by decide +kernel
theorem dX6_bestTurnSetOf_26 : decode cX6_bestTurnSetOf 26 = .ok (.invokestatic 113, 3) := by decide +kernel
theorem dX6_bestTurnSetOf_29 : decode cX6_bestTurnSetOf 29 = .ok (.isub, 1) := by decide +kernel
theorem dX6_bestTurnSetOf_30 : decode cX6_bestTurnSetOf 30 = .ok (.istore 5, 2) := by decide +kernel
theorem dX6_bestTurnSetOf_32 : decode cX6_bestTurnSetOf 32 = .ok (.iload 5, 2) := by decide +kernel
theorem dX6_bestTurnSetOf_34 : decode cX6_bestTurnSetOf 34 = .ok (.ifCond .ne 18, 3) := by decide +kernel
theorem dX6_bestTurnSetOf_37 : decode cX6_bestTurnSetOf 37 = .ok (.iload_n 3, 1) := by decide +kernel
theorem dX6_bestTurnSetOf_38 : decode cX6_bestTurnSetOf 38 = .ok (.iload_n 2, 1) := by decide +kernel
theorem dX6_bestTurnSetOf_39 : decode cX6_bestTurnSetOf 39 = .ok (.invokestatic 98, 3) := by decide +kernel
theorem dX6_bestTurnSetOf_42 : decode cX6_bestTurnSetOf 42 = .ok (.ifCond .eq 7, 3) := by decide +kernel
theorem dX6_bestTurnSetOf_45 : decode cX6_bestTurnSetOf 45 = .ok (.iload_n 3, 1) := by decide +kernel
theorem dX6_bestTurnSetOf_46 : decode cX6_bestTurnSetOf 46 = .ok (.goto 5, 3) := by decide +kernel
theorem dX6_bestTurnSetOf_49 : decode cX6_bestTurnSetOf 49 = .ok (.iload 4, 2) := by decide +kernel
theorem dX6_bestTurnSetOf_51 : decode cX6_bestTurnSetOf 51 = .ok (.ireturn, 1) := by decide +kernel
theorem dX6_bestTurnSetOf_52 : decode cX6_bestTurnSetOf 52 = .ok (.iload 5, 2) := by decide +kernel
theorem dX6_bestTurnSetOf_54 : decode cX6_bestTurnSetOf 54 = .ok (.ifCond .ge 7, 3) := by decide +kernel
theorem dX6_bestTurnSetOf_57 : decode cX6_bestTurnSetOf 57 = .ok (.iload_n 3, 1) := by decide +kernel
theorem dX6_bestTurnSetOf_58 : decode cX6_bestTurnSetOf 58 = .ok (.goto 5, 3) := by decide +kernel
theorem dX6_bestTurnSetOf_61 : decode cX6_bestTurnSetOf 61 = .ok (.iload 4, 2) := by decide +kernel
theorem dX6_bestTurnSetOf_63 : decode cX6_bestTurnSetOf 63 = .ok (.ireturn, 1) := by decide +kernel
theorem dX6_bestTurnSetSize_0 : decode cX6_bestTurnSetSize 0 = .ok (.aload_n 0, 1) := by decide +kernel
theorem dX6_bestTurnSetSize_1 : decode cX6_bestTurnSetSize 1 = .ok (.invokevirtual 118, 3) := by decide +kernel
theorem dX6_bestTurnSetSize_4 : decode cX6_bestTurnSetSize 4 = .ok (.istore_n 1, 1) := by decide +kernel
theorem dX6_bestTurnSetSize_5 : decode cX6_bestTurnSetSize 5 = .ok (.iload_n 1, 1) := by decide +kernel
theorem dX6_bestTurnSetSize_6 : decode cX6_bestTurnSetSize 6 = .ok (.iconst (-1), 1) := by decide +kernel
theorem dX6_bestTurnSetSize_7 : decode cX6_bestTurnSetSize 7 = .ok (.if_icmp .ne 7, 3) := by decide +kernel
theorem dX6_bestTurnSetSize_10 : decode cX6_bestTurnSetSize 10 = .ok (.iconst (-1), 1) := by decide +kernel
theorem dX6_bestTurnSetSize_11 : decode cX6_bestTurnSetSize 11 = .ok (.goto 7, 3) := by decide +kernel
theorem dX6_bestTurnSetSize_14 : decode cX6_bestTurnSetSize 14 = .ok (.iload_n 1, 1) := by decide +kernel
theorem dX6_bestTurnSetSize_15 : decode cX6_bestTurnSetSize 15 = .ok (.invokestatic 113, 3) := by decide +kernel
theorem dX6_bestTurnSetSize_18 : decode cX6_bestTurnSetSize 18 = .ok (.ireturn, 1) := by decide +kernel
theorem dX6_smallestSettlingSet_0 : decode cX6_smallestSettlingSet 0 = .ok (.iconst 1, 1) := by decide +kernel
theorem dX6_smallestSettlingSet_1 : decode cX6_smallestSettlingSet 1 = .ok (.aload_n 0, 1) := by decide +kernel
theorem dX6_smallestSettlingSet_2 : decode cX6_smallestSettlingSet 2 = .ok (.getfield 24, 3) := by decide +kernel
theorem dX6_smallestSettlingSet_5 : decode cX6_smallestSettlingSet 5 = .ok (.getfield 31, 3) := by decide +kernel
theorem dX6_smallestSettlingSet_8 : decode cX6_smallestSettlingSet 8 = .ok (.ishl, 1) := by decide +kernel
theorem dX6_smallestSettlingSet_9 : decode cX6_smallestSettlingSet 9 = .ok (.istore_n 1, 1) := by decide +kernel
theorem dX6_smallestSettlingSet_10 : decode cX6_smallestSettlingSet 10 = .ok (.iconst (-1), 1) := by decide +kernel
theorem dX6_smallestSettlingSet_11 : decode cX6_smallestSettlingSet 11 = .ok (.istore_n 2, 1) := by decide +kernel
theorem dX6_smallestSettlingSet_12 : decode cX6_smallestSettlingSet 12 = .ok (.iconst 0, 1) := by decide +kernel
theorem dX6_smallestSettlingSet_13 : decode cX6_smallestSettlingSet 13 = .ok (.istore_n 3, 1) := by decide +kernel
theorem dX6_smallestSettlingSet_14 : decode cX6_smallestSettlingSet 14 = .ok (.iload_n 3, 1) := by decide +kernel
theorem dX6_smallestSettlingSet_15 : decode cX6_smallestSettlingSet 15 = .ok (.iload_n 1, 1) := by decide +kernel
theorem dX6_smallestSettlingSet_16 : decode cX6_smallestSettlingSet 16 = .ok (.if_icmp .ge 60, 3) := by decide +kernel
theorem dX6_smallestSettlingSet_19 : decode cX6_smallestSettlingSet 19 = .ok (.iload_n 3, 1) := by decide +kernel
theorem dX6_smallestSettlingSet_20 : decode cX6_smallestSettlingSet 20 = .ok (.invokestatic 113, 3) := by decide +kernel
theorem dX6_smallestSettlingSet_23 : decode cX6_smallestSettlingSet 23 = .ok (.istore 4, 2) := by decide +kernel
theorem dX6_smallestSettlingSet_25 : decode cX6_smallestSettlingSet 25 = .ok (.iload_n 2, 1) := by decide +kernel
theorem dX6_smallestSettlingSet_26 : decode cX6_smallestSettlingSet 26 = .ok (.iconst (-1), 1) := by decide +kernel
theorem dX6_smallestSettlingSet_27 : decode cX6_smallestSettlingSet 27 = .ok (.if_icmp .eq 9, 3) := by decide +kernel
theorem dX6_smallestSettlingSet_30 : decode cX6_smallestSettlingSet 30 = .ok (.iload 4, 2) := by decide +kernel
theorem dX6_smallestSettlingSet_32 : decode cX6_smallestSettlingSet 32 = .ok (.iload_n 2, 1) := by decide +kernel
theorem dX6_smallestSettlingSet_33 : decode cX6_smallestSettlingSet 33 = .ok (.if_icmp .ge 7, 3) := by decide +kernel
theorem dX6_smallestSettlingSet_36 : decode cX6_smallestSettlingSet 36 = .ok (.iconst 1, 1) := by decide +kernel
theorem dX6_smallestSettlingSet_37 : decode cX6_smallestSettlingSet 37 = .ok (.goto 4, 3) := by decide +kernel
theorem dX6_smallestSettlingSet_40 : decode cX6_smallestSettlingSet 40 = .ok (.iconst 0, 1) := by decide +kernel
theorem dX6_smallestSettlingSet_41 : decode cX6_smallestSettlingSet 41 = .ok (.istore 5, 2) := by decide +kernel
theorem dX6_smallestSettlingSet_43 : decode cX6_smallestSettlingSet 43 = .ok (.iload 5, 2) := by decide +kernel
theorem dX6_smallestSettlingSet_45 : decode cX6_smallestSettlingSet 45 = .ok (.ifCond .eq 25, 3) := by decide +kernel
theorem dX6_smallestSettlingSet_48 : decode cX6_smallestSettlingSet 48 = .ok (.aload_n 0, 1) := by decide +kernel
theorem dX6_smallestSettlingSet_49 : decode cX6_smallestSettlingSet 49 = .ok (.getfield 24, 3) := by decide +kernel
theorem dX6_smallestSettlingSet_52 : decode cX6_smallestSettlingSet 52 = .ok (.aload_n 0, 1) := by decide +kernel
theorem dX6_smallestSettlingSet_53 : decode cX6_smallestSettlingSet 53 = .ok (.getfield 24, 3) := by decide +kernel
theorem dX6_smallestSettlingSet_56 : decode cX6_smallestSettlingSet 56 = .ok (.getfield 110, 3) := by decide +kernel
theorem dX6_smallestSettlingSet_59 : decode cX6_smallestSettlingSet 59 = .ok (.iload_n 3, 1) := by decide +kernel
theorem dX6_smallestSettlingSet_60 : decode cX6_smallestSettlingSet 60 = .ok (.ixor, 1) := by decide +kernel
theorem dX6_smallestSettlingSet_61 : decode cX6_smallestSettlingSet 61 = .ok (.invokevirtual 107, 3) := by decide +kernel
theorem dX6_smallestSettlingSet_64 : decode cX6_smallestSettlingSet 64 = .ok (.ifCond .ne 6, 3) := by decide +kernel
theorem dX6_smallestSettlingSet_67 : decode cX6_smallestSettlingSet 67 = .ok (.iload 4, 2) := by decide +kernel
theorem dX6_smallestSettlingSet_69 : decode cX6_smallestSettlingSet 69 = .ok (.istore_n 2, 1) := by decide +kernel
theorem dX6_smallestSettlingSet_70 : decode cX6_smallestSettlingSet 70 = .ok (.iinc 3 1, 3) := by decide +kernel
theorem dX6_smallestSettlingSet_73 : decode cX6_smallestSettlingSet 73 = .ok (.goto (-59), 3) := by decide +kernel
theorem dX6_smallestSettlingSet_76 : decode cX6_smallestSettlingSet 76 = .ok (.iload_n 2, 1) := by decide +kernel
theorem dX6_smallestSettlingSet_77 : decode cX6_smallestSettlingSet 77 = .ok (.ireturn, 1) := by decide +kernel
theorem dX6_leastBlockedOfSets_0 : decode cX6_leastBlockedOfSets 0 = .ok (.iconst 1, 1) := by decide +kernel
theorem dX6_leastBlockedOfSets_1 : decode cX6_leastBlockedOfSets 1 = .ok (.aload_n 0, 1) := by decide +kernel
theorem dX6_leastBlockedOfSets_2 : decode cX6_leastBlockedOfSets 2 = .ok (.getfield 24, 3) := by decide +kernel
theorem dX6_leastBlockedOfSets_5 : decode cX6_leastBlockedOfSets 5 = .ok (.getfield 31, 3) := by decide +kernel
theorem dX6_leastBlockedOfSets_8 : decode cX6_leastBlockedOfSets 8 = .ok (.ishl, 1) := by decide +kernel
theorem dX6_leastBlockedOfSets_9 : decode cX6_leastBlockedOfSets 9 = .ok (.istore_n 1, 1) := by decide +kernel
theorem dX6_leastBlockedOfSets_10 : decode cX6_leastBlockedOfSets 10 = .ok (.aload_n 0, 1) := by decide +kernel
theorem dX6_leastBlockedOfSets_11 : decode cX6_leastBlockedOfSets 11 = .ok (.getfield 24, 3) := by decide +kernel
theorem dX6_leastBlockedOfSets_14 : decode cX6_leastBlockedOfSets 14 = .ok (.getfield 37, 3) := by decide +kernel
theorem dX6_leastBlockedOfSets_17 : decode cX6_leastBlockedOfSets 17 = .ok (.istore_n 2, 1) := by decide +kernel
theorem dX6_leastBlockedOfSets_18 : decode cX6_leastBlockedOfSets 18 = .ok (.iconst 0, 1) := by decide +kernel
theorem dX6_leastBlockedOfSets_19 : decode cX6_leastBlockedOfSets 19 = .ok (.istore_n 3, 1) := by decide +kernel
theorem dX6_leastBlockedOfSets_20 : decode cX6_leastBlockedOfSets 20 = .ok (.iload_n 3, 1) := by decide +kernel
theorem dX6_leastBlockedOfSets_21 : decode cX6_leastBlockedOfSets 21 = .ok (.iload_n 1, 1) := by decide +kernel
theorem dX6_leastBlockedOfSets_22 : decode cX6_leastBlockedOfSets 22 = .ok (.if_icmp .ge 30, 3) := by decide +kernel
theorem dX6_leastBlockedOfSets_25 : decode cX6_leastBlockedOfSets 25 = .ok (.iload_n 2, 1) := by decide +kernel
theorem dX6_leastBlockedOfSets_26 : decode cX6_leastBlockedOfSets 26 = .ok (.aload_n 0, 1) := by decide +kernel
theorem dX6_leastBlockedOfSets_27 : decode cX6_leastBlockedOfSets 27 = .ok (.getfield 24, 3) := by decide +kernel
theorem dX6_leastBlockedOfSets_30 : decode cX6_leastBlockedOfSets 30 = .ok (.aload_n 0, 1) := by decide +kernel
theorem dX6_leastBlockedOfSets_31 : decode cX6_leastBlockedOfSets 31 = .ok (.getfield 24, 3) := by decide +kernel
theorem dX6_leastBlockedOfSets_34 : decode cX6_leastBlockedOfSets 34 = .ok (.getfield 110, 3) := by decide +kernel
theorem dX6_leastBlockedOfSets_37 : decode cX6_leastBlockedOfSets 37 = .ok (.iload_n 3, 1) := by decide +kernel
theorem dX6_leastBlockedOfSets_38 : decode cX6_leastBlockedOfSets 38 = .ok (.ixor, 1) := by decide +kernel
theorem dX6_leastBlockedOfSets_39 : decode cX6_leastBlockedOfSets 39 = .ok (.invokevirtual 107, 3) := by decide +kernel
theorem dX6_leastBlockedOfSets_42 : decode cX6_leastBlockedOfSets 42 = .ok (.invokestatic 86, 3) := by decide +kernel
theorem dX6_leastBlockedOfSets_45 : decode cX6_leastBlockedOfSets 45 = .ok (.istore_n 2, 1) := by decide +kernel
theorem dX6_leastBlockedOfSets_46 : decode cX6_leastBlockedOfSets 46 = .ok (.iinc 3 1, 3) := by decide +kernel
theorem dX6_leastBlockedOfSets_49 : decode cX6_leastBlockedOfSets 49 = .ok (.goto (-29), 3) := by decide +kernel
theorem dX6_leastBlockedOfSets_52 : decode cX6_leastBlockedOfSets 52 = .ok (.iload_n 2, 1) := by decide +kernel
theorem dX6_leastBlockedOfSets_53 : decode cX6_leastBlockedOfSets 53 = .ok (.ireturn, 1) := by decide +kernel
theorem dX6_leastBlockedWithinBounds_0 : decode cX6_leastBlockedWithinBounds 0 = .ok (.aload_n 0, 1) := by decide +kernel
theorem dX6_leastBlockedWithinBounds_1 : decode cX6_leastBlockedWithinBounds 1 = .ok (.iconst 0, 1) := by decide +kernel
theorem dX6_leastBlockedWithinBounds_2 : decode cX6_leastBlockedWithinBounds 2 = .ok (.iconst 0, 1) := by decide +kernel
theorem dX6_leastBlockedWithinBounds_3 : decode cX6_leastBlockedWithinBounds 3 = .ok (.iconst 0, 1) := by decide +kernel
theorem dX6_leastBlockedWithinBounds_4 : decode cX6_leastBlockedWithinBounds 4 = .ok (.aload_n 0, 1) := by decide +kernel
theorem dX6_leastBlockedWithinBounds_5 : decode cX6_leastBlockedWithinBounds 5 = .ok (.getfield 24, 3) := by decide +kernel
theorem dX6_leastBlockedWithinBounds_8 : decode cX6_leastBlockedWithinBounds 8 = .ok (.invokevirtual 122, 3) := by decide +kernel
theorem dX6_leastBlockedWithinBounds_11 : decode cX6_leastBlockedWithinBounds 11 = .ok (.invokestatic 125, 3) := by decide +kernel
theorem dX6_leastBlockedWithinBounds_14 : decode cX6_leastBlockedWithinBounds 14 = .ok (.ireturn, 1) := by decide +kernel
theorem dX6_bound_0 : decode cX6_bound 0 = .ok (.iload_n 3, 1) := by decide +kernel
theorem dX6_bound_1 : decode cX6_bound 1 = .ok (.iload 4, 2) := by decide +kernel
theorem dX6_bound_3 : decode cX6_bound 3 = .ok (.if_icmp .lt 6, 3) := by decide +kernel
theorem dX6_bound_6 : decode cX6_bound 6 = .ok (.iload 4, 2) := by decide +kernel
theorem dX6_bound_8 : decode cX6_bound 8 = .ok (.ireturn, 1) := by decide +kernel
theorem dX6_bound_9 : decode cX6_bound 9 = .ok (.iload_n 1, 1) := by decide +kernel
theorem dX6_bound_10 : decode cX6_bound 10 = .ok (.aload_n 0, 1) := by decide +kernel
theorem dX6_bound_11 : decode cX6_bound 11 = .ok (.getfield 24, 3) := by decide +kernel
theorem dX6_bound_14 : decode cX6_bound 14 = .ok (.getfield 31, 3) := by decide +kernel
theorem dX6_bound_17 : decode cX6_bound 17 = .ok (.if_icmp .ge 9, 3) := by decide +kernel
theorem dX6_bound_20 : decode cX6_bound 20 = .ok (.iload_n 1, 1) := by decide +kernel
theorem dX6_bound_21 : decode cX6_bound 21 = .ok (.bipush 9, 2) := by decide +kernel
theorem dX6_bound_23 : decode cX6_bound 23 = .ok (.if_icmp .lt 5, 3) := by decide +kernel
theorem dX6_bound_26 : decode cX6_bound 26 = .ok (.iload_n 3, 1) := by decide +kernel
theorem dX6_bound_27 : decode cX6_bound 27 = .ok (.ireturn, 1) := by decide +kernel
theorem dX6_bound_28 : decode cX6_bound 28 = .ok (.aload_n 0, 1) := by decide +kernel
theorem dX6_bound_29 : decode cX6_bound 29 = .ok (.iload_n 2, 1) := by decide +kernel
theorem dX6_bound_30 : decode cX6_bound 30 = .ok (.iload_n 1, 1) := by decide +kernel
theorem dX6_bound_31 : decode cX6_bound 31 = .ok (.invokevirtual 129, 3) := by decide +kernel
theorem dX6_bound_34 : decode cX6_bound 34 = .ok (.istore 5, 2) := by decide +kernel
theorem dX6_bound_36 : decode cX6_bound 36 = .ok (.aload_n 0, 1) := by decide +kernel
theorem dX6_bound_37 : decode cX6_bound 37 = .ok (.iload_n 1, 1) := by decide +kernel
theorem dX6_bound_38 : decode cX6_bound 38 = .ok (.iconst 1, 1) := by decide +kernel
theorem dX6_bound_39 : decode cX6_bound 39 = .ok (.iadd, 1) := by decide +kernel
theorem dX6_bound_40 : decode cX6_bound 40 = .ok (.iload_n 2, 1) := by decide +kernel
theorem dX6_bound_41 : decode cX6_bound 41 = .ok (.iload_n 3, 1) := by decide +kernel
theorem dX6_bound_42 : decode cX6_bound 42 = .ok (.iload 5, 2) := by decide +kernel
theorem dX6_bound_44 : decode cX6_bound 44 = .ok (.iadd, 1) := by decide +kernel
theorem dX6_bound_45 : decode cX6_bound 45 = .ok (.iload 4, 2) := by decide +kernel
theorem dX6_bound_47 : decode cX6_bound 47 = .ok (.invokestatic 125, 3) := by decide +kernel
theorem dX6_bound_50 : decode cX6_bound 50 = .ok (.istore 6, 2) := by decide +kernel
theorem dX6_bound_52 : decode cX6_bound 52 = .ok (.iload_n 2, 1) := by decide +kernel
theorem dX6_bound_53 : decode cX6_bound 53 = .ok (.iconst 1, 1) := by decide +kernel
theorem dX6_bound_54 : decode cX6_bound 54 = .ok (.iload_n 1, 1) := by decide +kernel
theorem dX6_bound_55 : decode cX6_bound 55 = .ok (.ishl, 1) := by decide +kernel
theorem dX6_bound_56 : decode cX6_bound 56 = .ok (.ior, 1) := by decide +kernel
theorem dX6_bound_57 : decode cX6_bound 57 = .ok (.istore 7, 2) := by decide +kernel
theorem dX6_bound_59 : decode cX6_bound 59 = .ok (.aload_n 0, 1) := by decide +kernel
theorem dX6_bound_60 : decode cX6_bound 60 = .ok (.iload 7, 2) := by decide +kernel
theorem dX6_bound_62 : decode cX6_bound 62 = .ok (.iload_n 1, 1) := by decide +kernel
theorem dX6_bound_63 : decode cX6_bound 63 = .ok (.invokevirtual 129, 3) := by decide +kernel
theorem dX6_bound_66 : decode cX6_bound 66 = .ok (.istore 8, 2) := by decide +kernel
theorem dX6_bound_68 : decode cX6_bound 68 = .ok (.aload_n 0, 1) := by decide +kernel
theorem dX6_bound_69 : decode cX6_bound 69 = .ok (.iload_n 1, 1) := by decide +kernel
theorem dX6_bound_70 : decode cX6_bound 70 = .ok (.iconst 1, 1) := by decide +kernel
theorem dX6_bound_71 : decode cX6_bound 71 = .ok (.iadd, 1) := by decide +kernel
theorem dX6_bound_72 : decode cX6_bound 72 = .ok (.iload 7, 2) := by decide +kernel
theorem dX6_bound_74 : decode cX6_bound 74 = .ok (.iload_n 3, 1) := by decide +kernel
theorem dX6_bound_75 : decode cX6_bound 75 = .ok (.iload 8, 2) := by decide +kernel
theorem dX6_bound_77 : decode cX6_bound 77 = .ok (.iadd, 1) := by decide +kernel
theorem dX6_bound_78 : decode cX6_bound 78 = .ok (.iload 6, 2) := by decide +kernel
theorem dX6_bound_80 : decode cX6_bound 80 = .ok (.invokestatic 125, 3) := by decide +kernel
theorem dX6_bound_83 : decode cX6_bound 83 = .ok (.ireturn, 1) := by decide +kernel
theorem dX6_blockedToEarlier_0 : decode cX6_blockedToEarlier 0 = .ok (.iconst 0, 1) := by decide +kernel
theorem dX6_blockedToEarlier_1 : decode cX6_blockedToEarlier 1 = .ok (.istore_n 3, 1) := by decide +kernel
theorem dX6_blockedToEarlier_2 : decode cX6_blockedToEarlier 2 = .ok (.iconst 0, 1) := by decide +kernel
theorem dX6_blockedToEarlier_3 : decode cX6_blockedToEarlier 3 = .ok (.istore 4, 2) := by decide +kernel
theorem dX6_blockedToEarlier_5 : decode cX6_blockedToEarlier 5 = .ok (.iload 4, 2) := by decide +kernel
theorem dX6_blockedToEarlier_7 : decode cX6_blockedToEarlier 7 = .ok (.aload_n 0, 1) := by decide +kernel
theorem dX6_blockedToEarlier_8 : decode cX6_blockedToEarlier 8 = .ok (.getfield 24, 3) := by decide +kernel
theorem dX6_blockedToEarlier_11 : decode cX6_blockedToEarlier 11 = .ok (.getfield 37, 3) := by decide +kernel
theorem dX6_blockedToEarlier_14 : decode cX6_blockedToEarlier 14 = .ok (.if_icmp .ge 49, 3) := by decide +kernel
theorem dX6_blockedToEarlier_17 : decode cX6_blockedToEarlier 17 = .ok (.aload_n 0, 1) := by decide +kernel
theorem dX6_blockedToEarlier_18 : decode cX6_blockedToEarlier 18 = .ok (.getfield 24, 3) := by decide +kernel
theorem dX6_blockedToEarlier_21 : decode cX6_blockedToEarlier 21 = .ok (.iload 4, 2) := by decide +kernel
theorem dX6_blockedToEarlier_23 : decode cX6_blockedToEarlier 23 = .ok (.iload_n 2, 1) := by decide +kernel
theorem dX6_blockedToEarlier_24 : decode cX6_blockedToEarlier 24 = .ok (.invokevirtual 78, 3) := by decide +kernel
theorem dX6_blockedToEarlier_27 : decode cX6_blockedToEarlier 27 = .ok (.istore 5, 2) := by decide +kernel
theorem dX6_blockedToEarlier_29 : decode cX6_blockedToEarlier 29 = .ok (.iload 5, 2) := by decide +kernel
theorem dX6_blockedToEarlier_31 : decode cX6_blockedToEarlier 31 = .ok (.iconst (-1), 1) := by decide +kernel
theorem dX6_blockedToEarlier_32 : decode cX6_blockedToEarlier 32 = .ok (.if_icmp .eq 25, 3) := by decide +kernel
theorem dX6_blockedToEarlier_35 : decode cX6_blockedToEarlier 35 = .ok (.iload 5, 2) := by decide +kernel
theorem dX6_blockedToEarlier_37 : decode cX6_blockedToEarlier 37 = .ok (.iload_n 2, 1) := by decide +kernel
theorem dX6_blockedToEarlier_38 : decode cX6_blockedToEarlier 38 = .ok (.if_icmp .ge 19, 3) := by decide +kernel
theorem dX6_blockedToEarlier_41 : decode cX6_blockedToEarlier 41 = .ok (.aload_n 0, 1) := by decide +kernel
theorem dX6_blockedToEarlier_42 : decode cX6_blockedToEarlier 42 = .ok (.getfield 24, 3) := by decide +kernel
theorem dX6_blockedToEarlier_45 : decode cX6_blockedToEarlier 45 = .ok (.iload_n 1, 1) := by decide +kernel
theorem dX6_blockedToEarlier_46 : decode cX6_blockedToEarlier 46 = .ok (.iload 4, 2) := by decide +kernel
theorem dX6_blockedToEarlier_48 : decode cX6_blockedToEarlier 48 = .ok (.invokevirtual 132, 3) := by decide +kernel
theorem dX6_blockedToEarlier_51 : decode cX6_blockedToEarlier 51 = .ok (.ifCond .eq 6, 3) := by decide +kernel
theorem dX6_blockedToEarlier_54 : decode cX6_blockedToEarlier 54 = .ok (.iinc 3 1, 3) := by decide +kernel
theorem dX6_blockedToEarlier_57 : decode cX6_blockedToEarlier 57 = .ok (.iinc 4 1, 3) := by decide +kernel
theorem dX6_blockedToEarlier_60 : decode cX6_blockedToEarlier 60 = .ok (.goto (-55), 3) := by decide +kernel
theorem dX6_blockedToEarlier_63 : decode cX6_blockedToEarlier 63 = .ok (.iload_n 3, 1) := by decide +kernel
theorem dX6_blockedToEarlier_64 : decode cX6_blockedToEarlier 64 = .ok (.ireturn, 1) := by decide +kernel
end
section
theorem dX7_init_0 : decode cX7_init 0 = .ok (.aload_n 0, 1) := by decide +kernel
theorem dX7_init_1 : decode cX7_init 1 = .ok (.invokespecial 3, 3) := by decide +kernel
theorem dX7_init_4 : decode cX7_init 4 = .ok (.aload_n 0, 1) := by decide +kernel
theorem dX7_init_5 : decode cX7_init 5 = .ok (.bipush 60, 2) := by decide +kernel
theorem dX7_init_7 : decode cX7_init 7 = .ok (.newarray .char, 2) := by decide +kernel
theorem dX7_init_9 : decode cX7_init 9 = .ok (.putfield 9, 3) := by decide +kernel
theorem dX7_init_12 : decode cX7_init 12 = .ok (.aload_n 0, 1) := by decide +kernel
theorem dX7_init_13 : decode cX7_init 13 = .ok (.bipush 15, 2) := by decide +kernel
theorem dX7_init_15 : decode cX7_init 15 = .ok (.anewarray 15, 3) := by decide +kernel
theorem dX7_init_18 : decode cX7_init 18 = .ok (.putfield 17, 3) := by decide +kernel
theorem dX7_init_21 : decode cX7_init 21 = .ok (.iconst 0, 1) := by decide +kernel
theorem dX7_init_22 : decode cX7_init 22 = .ok (.istore_n 1, 1) := by decide +kernel
theorem dX7_init_23 : decode cX7_init 23 = .ok (.iload_n 1, 1) := by decide +kernel
theorem dX7_init_24 : decode cX7_init 24 = .ok (.bipush 15, 2) := by decide +kernel
theorem dX7_init_26 : decode cX7_init 26 = .ok (.if_icmp .ge 22, 3) := by decide +kernel
theorem dX7_init_29 : decode cX7_init 29 = .ok (.aload_n 0, 1) := by decide +kernel
theorem dX7_init_30 : decode cX7_init 30 = .ok (.getfield 17, 3) := by decide +kernel
theorem dX7_init_33 : decode cX7_init 33 = .ok (.iload_n 1, 1) := by decide +kernel
theorem dX7_init_34 : decode cX7_init 34 = .ok (.new 15, 3) := by decide +kernel
theorem dX7_init_37 : decode cX7_init 37 = .ok (.dup, 1) := by decide +kernel
theorem dX7_init_38 : decode cX7_init 38 = .ok (.invokespecial 21, 3) := by decide +kernel
theorem dX7_init_41 : decode cX7_init 41 = .ok (.aastore, 1) := by decide +kernel
theorem dX7_init_42 : decode cX7_init 42 = .ok (.iinc 1 1, 3) := by decide +kernel
theorem dX7_init_45 : decode cX7_init 45 = .ok (.goto (-22), 3) := by decide +kernel
theorem dX7_init_48 : decode cX7_init 48 = .ok (.return_, 1) := by decide +kernel
theorem dX7_hasRoom_0 : decode cX7_hasRoom 0 = .ok (.aload_n 0, 1) := by decide +kernel
theorem dX7_hasRoom_1 : decode cX7_hasRoom 1 = .ok (.getfield 22, 3) := by decide +kernel
theorem dX7_hasRoom_4 : decode cX7_hasRoom 4 = .ok (.bipush 60, 2) := by decide +kernel
theorem dX7_hasRoom_6 : decode cX7_hasRoom 6 = .ok (.if_icmp .ge 7, 3) := by decide +kernel
theorem dX7_hasRoom_9 : decode cX7_hasRoom 9 = .ok (.iconst 1, 1) := by decide +kernel
theorem dX7_hasRoom_10 : decode cX7_hasRoom 10 = .ok (.goto 4, 3) := by decide +kernel
theorem dX7_hasRoom_13 : decode cX7_hasRoom 13 = .ok (.iconst 0, 1) := by decide +kernel
theorem dX7_hasRoom_14 : decode cX7_hasRoom 14 = .ok (.ireturn, 1) := by decide +kernel
theorem dX7_append_0 : decode cX7_append 0 = .ok (.aload_n 0, 1) := by decide +kernel
theorem dX7_append_1 : decode cX7_append 1 = .ok (.getfield 9, 3) := by decide +kernel
theorem dX7_append_4 : decode cX7_append 4 = .ok (.aload_n 0, 1) := by decide +kernel
theorem dX7_append_5 : decode cX7_append 5 = .ok (.getfield 22, 3) := by decide +kernel
theorem dX7_append_8 : decode cX7_append 8 = .ok (.iload_n 1, 1) := by decide +kernel
theorem dX7_append_9 : decode cX7_append 9 = .ok (.castore, 1) := by decide +kernel
theorem dX7_append_10 : decode cX7_append 10 = .ok (.aload_n 0, 1) := by decide +kernel
theorem dX7_append_11 : decode cX7_append 11 = .ok (.dup, 1) := by decide +kernel
theorem dX7_append_12 : decode cX7_append 12 = .ok (.getfield 22, 3) := by decide +kernel
theorem dX7_append_15 : decode cX7_append 15 = .ok (.iconst 1, 1) := by decide +kernel
theorem dX7_append_16 : decode cX7_append 16 = .ok (.iadd, 1) := by decide +kernel
theorem dX7_append_17 : decode cX7_append 17 = .ok (.putfield 22, 3) := by decide +kernel
theorem dX7_append_20 : decode cX7_append 20 = .ok (.return_, 1) := by decide +kernel
theorem dX7_clear_0 : decode cX7_clear 0 = .ok (.aload_n 0, 1) := by decide +kernel
theorem dX7_clear_1 : decode cX7_clear 1 = .ok (.iconst 0, 1) := by decide +kernel
theorem dX7_clear_2 : decode cX7_clear 2 = .ok (.putfield 22, 3) := by decide +kernel
theorem dX7_clear_5 : decode cX7_clear 5 = .ok (.return_, 1) := by decide +kernel
theorem dX7_parse_0 : decode cX7_parse 0 = .ok (.aload_n 0, 1) := by decide +kernel
theorem dX7_parse_1 : decode cX7_parse 1 = .ok (.iconst 0, 1) := by decide +kernel
theorem dX7_parse_2 : decode cX7_parse 2 = .ok (.putfield 26, 3) := by decide +kernel
theorem dX7_parse_5 : decode cX7_parse 5 = .ok (.aload_n 0, 1) := by decide +kernel
theorem dX7_parse_6 : decode cX7_parse 6 = .ok (.iconst 0, 1) := by decide +kernel
theorem dX7_parse_7 : decode cX7_parse 7 = .ok (.putfield 29, 3) := by decide +kernel
theorem dX7_parse_10 : decode cX7_parse 10 = .ok (.iconst 0, 1) := by decide +kernel
theorem dX7_parse_11 : decode cX7_parse 11 = .ok (.istore_n 1, 1) := by decide +kernel
theorem dX7_parse_12 : decode cX7_parse 12 = .ok (.iconst 0, 1) := by decide +kernel
theorem dX7_parse_13 : decode cX7_parse 13 = .ok (.istore_n 2, 1) := by decide +kernel
theorem dX7_parse_14 : decode cX7_parse 14 = .ok (.iload_n 2, 1) := by decide +kernel
theorem dX7_parse_15 : decode cX7_parse 15 = .ok (.bipush 15, 2) := by decide +kernel
theorem dX7_parse_17 : decode cX7_parse 17 = .ok (.if_icmp .ge 69, 3) := by decide +kernel
theorem dX7_parse_20 : decode cX7_parse 20 = .ok (.aload_n 0, 1) := by decide +kernel
theorem dX7_parse_21 : decode cX7_parse 21 = .ok (.iload_n 1, 1) := by decide +kernel
theorem dX7_parse_22 : decode cX7_parse 22 = .ok (.aload_n 0, 1) := by decide +kernel
theorem dX7_parse_23 : decode cX7_parse 23 = .ok (.getfield 17, 3) := by decide +kernel
theorem dX7_parse_26 : decode cX7_parse 26 = .ok (.iload_n 2, 1) := by decide +kernel
theorem dX7_parse_27 : decode cX7_parse 27 = .ok (.aaload, 1) := by decide +kernel
theorem dX7_parse_28 : decode cX7_parse 28 = .ok (.invokevirtual 32, 3) := by decide +kernel
theorem dX7_parse_31 : decode cX7_parse 31 = .ok (.istore_n 3, 1) := by decide +kernel
theorem dX7_parse_32 : decode cX7_parse 32 = .ok (.iload_n 3, 1) := by decide +kernel
theorem dX7_parse_33 : decode cX7_parse 33 = .ok (.iconst (-1), 1) := by decide +kernel
theorem dX7_parse_34 : decode cX7_parse 34 = .ok (.if_icmp .ne 5, 3) := by decide +kernel
theorem dX7_parse_37 : decode cX7_parse 37 = .ok (.iconst 0, 1) := by decide +kernel
theorem dX7_parse_38 : decode cX7_parse 38 = .ok (.ireturn, 1) := by decide +kernel
theorem dX7_parse_39 : decode cX7_parse 39 = .ok (.aload_n 0, 1) := by decide +kernel
theorem dX7_parse_40 : decode cX7_parse 40 = .ok (.dup, 1) := by decide +kernel
theorem dX7_parse_41 : decode cX7_parse 41 = .ok (.getfield 26, 3) := by decide +kernel
theorem dX7_parse_44 : decode cX7_parse 44 = .ok (.iconst 1, 1) := by decide +kernel
theorem dX7_parse_45 : decode cX7_parse 45 = .ok (.iadd, 1) := by decide +kernel
theorem dX7_parse_46 : decode cX7_parse 46 = .ok (.putfield 26, 3) := by decide +kernel
theorem dX7_parse_49 : decode cX7_parse 49 = .ok (.iload_n 3, 1) := by decide +kernel
theorem dX7_parse_50 : decode cX7_parse 50 = .ok (.aload_n 0, 1) := by decide +kernel
theorem dX7_parse_51 : decode cX7_parse 51 = .ok (.getfield 22, 3) := by decide +kernel
theorem dX7_parse_54 : decode cX7_parse 54 = .ok (.if_icmp .ne 5, 3) := by decide +kernel
theorem dX7_parse_57 : decode cX7_parse 57 = .ok (.iconst 1, 1) := by decide +kernel
theorem dX7_parse_58 : decode cX7_parse 58 = .ok (.ireturn, 1) := by decide +kernel
theorem dX7_parse_59 : decode cX7_parse 59 = .ok (.aload_n 0, 1) := by decide +kernel
theorem dX7_parse_60 : decode cX7_parse 60 = .ok (.iload_n 3, 1) := by decide +kernel
theorem dX7_parse_61 : decode cX7_parse 61 = .ok (.bipush 59, 2) := by decide +kernel
theorem dX7_parse_63 : decode cX7_parse 63 = .ok (.invokevirtual 36, 3) := by decide +kernel
theorem dX7_parse_66 : decode cX7_parse 66 = .ok (.ifCond .ne 10, 3) := by decide +kernel
theorem dX7_parse_69 : decode cX7_parse 69 = .ok (.aload_n 0, 1) := by decide +kernel
theorem dX7_parse_70 : decode cX7_parse 70 = .ok (.iload_n 3, 1) := by decide +kernel
theorem dX7_parse_71 : decode cX7_parse 71 = .ok (.putfield 29, 3) := by decide +kernel
theorem dX7_parse_74 : decode cX7_parse 74 = .ok (.iconst 0, 1) := by decide +kernel
theorem dX7_parse_75 : decode cX7_parse 75 = .ok (.ireturn, 1) := by decide +kernel
theorem dX7_parse_76 : decode cX7_parse 76 = .ok (.iload_n 3, 1) := by decide +kernel
theorem dX7_parse_77 : decode cX7_parse 77 = .ok (.iconst 1, 1) := by decide +kernel
theorem dX7_parse_78 : decode cX7_parse 78 = .ok (.iadd, 1) := by decide +kernel
theorem dX7_parse_79 : decode cX7_parse 79 = .ok (.istore_n 1, 1) := by decide +kernel
theorem dX7_parse_80 : decode cX7_parse 80 = .ok (.iinc 2 1, 3) := by decide +kernel
theorem dX7_parse_83 : decode cX7_parse 83 = .ok (.goto (-69), 3) := by decide +kernel
theorem dX7_parse_86 : decode cX7_parse 86 = .ok (.iconst 0, 1) := by decide +kernel
theorem dX7_parse_87 : decode cX7_parse 87 = .ok (.ireturn, 1) := by decide +kernel
theorem dX7_parseCommand_0 : decode cX7_parseCommand 0 = .ok (.iconst 0, 1) := by decide +kernel
theorem dX7_parseCommand_1 : decode cX7_parseCommand 1 = .ok (.istore_n 3, 1) := by decide +kernel
theorem dX7_parseCommand_2 : decode cX7_parseCommand 2 = .ok (.iload_n 3, 1) := by decide +kernel
theorem dX7_parseCommand_3 : decode cX7_parseCommand 3 = .ok (.bipush 8, 2) := by decide +kernel
theorem dX7_parseCommand_5 : decode cX7_parseCommand 5 = .ok (.if_icmp .ge 27, 3) := by decide +kernel
theorem dX7_parseCommand_8 : decode cX7_parseCommand 8 = .ok (.aload_n 0, 1) := by decide +kernel
theorem dX7_parseCommand_9 : decode cX7_parseCommand 9 = .ok (.iload_n 3, 1) := by decide +kernel
theorem dX7_parseCommand_10 : decode cX7_parseCommand 10 = .ok (.iload_n 1, 1) := by decide +kernel
theorem dX7_parseCommand_11 : decode cX7_parseCommand 11 = .ok (.aload_n 2, 1) := by decide +kernel
theorem dX7_parseCommand_12 : decode cX7_parseCommand 12 = .ok (.invokevirtual 40, 3) := by decide +kernel
theorem dX7_parseCommand_15 : decode cX7_parseCommand 15 = .ok (.istore 4, 2) := by decide +kernel
theorem dX7_parseCommand_17 : decode cX7_parseCommand 17 = .ok (.iload 4, 2) := by decide +kernel
theorem dX7_parseCommand_19 : decode cX7_parseCommand 19 = .ok (.iconst (-1), 1) := by decide +kernel
theorem dX7_parseCommand_20 : decode cX7_parseCommand 20 = .ok (.if_icmp .eq 6, 3) := by decide +kernel
theorem dX7_parseCommand_23 : decode cX7_parseCommand 23 = .ok (.iload 4, 2) := by decide +kernel
theorem dX7_parseCommand_25 : decode cX7_parseCommand 25 = .ok (.ireturn, 1) := by decide +kernel
theorem dX7_parseCommand_26 : decode cX7_parseCommand 26 = .ok (.iinc 3 1, 3) := by decide +kernel
theorem dX7_parseCommand_29 : decode cX7_parseCommand 29 = .ok (.goto (-27), 3) := by decide +kernel
theorem dX7_parseCommand_32 : decode cX7_parseCommand 32 = .ok (.iconst (-1), 1) := by decide +kernel
theorem dX7_parseCommand_33 : decode cX7_parseCommand 33 = .ok (.ireturn, 1) := by decide +kernel
theorem dX7_shapeOf_0 : decode cX7_shapeOf 0 = .ok (.iload_n 0, 1) := by decide +kernel
theorem dX7_shapeOf_1 : decode cX7_shapeOf 1 = .ok (.tableswitch 64 0 6 #[43, 46, 49, 52, 55, 58, 61], 43) := by decide +kernel
theorem dX7_shapeOf_44 : decode cX7_shapeOf 44 = .ok (.ldc 44, 2) := by decide +kernel
theorem dX7_shapeOf_46 : decode cX7_shapeOf 46 = .ok (.areturn, 1) := by decide +kernel
theorem dX7_shapeOf_47 : decode cX7_shapeOf 47 = .ok (.ldc 46, 2) := by decide +kernel
theorem dX7_shapeOf_49 : decode cX7_shapeOf 49 = .ok (.areturn, 1) := by decide +kernel
theorem dX7_shapeOf_50 : decode cX7_shapeOf 50 = .ok (.ldc 48, 2) := by decide +kernel
theorem dX7_shapeOf_52 : decode cX7_shapeOf 52 = .ok (.areturn, 1) := by decide +kernel
theorem dX7_shapeOf_53 : decode cX7_shapeOf 53 = .ok (.ldc 50, 2) := by decide +kernel
theorem dX7_shapeOf_55 : decode cX7_shapeOf 55 = .ok (.areturn, 1) := by decide +kernel
theorem dX7_shapeOf_56 : decode cX7_shapeOf 56 = .ok (.ldc 52, 2) := by decide +kernel
theorem dX7_shapeOf_58 : decode cX7_shapeOf 58 = .ok (.areturn, 1) := by decide +kernel
theorem dX7_shapeOf_59 : decode cX7_shapeOf 59 = .ok (.ldc 54, 2) := by decide +kernel
theorem dX7_shapeOf_61 : decode cX7_shapeOf 61 = .ok (.areturn, 1) := by decide +kernel
theorem dX7_shapeOf_62 : decode cX7_shapeOf 62 = .ok (.ldc 56, 2) := by decide +kernel
theorem dX7_shapeOf_64 : decode cX7_shapeOf 64 = .ok (.areturn, 1) := by decide +kernel
theorem dX7_shapeOf_65 : decode cX7_shapeOf 65 = .ok (.ldc 58, 2) := by decide +kernel
theorem dX7_shapeOf_67 : decode cX7_shapeOf 67 = .ok (.areturn, 1) := by decide +kernel
theorem dX7_matchKind_0 : decode cX7_matchKind 0 = .ok (.iload_n 1, 1) := by decide +kernel
theorem dX7_matchKind_1 : decode cX7_matchKind 1 = .ok (.invokestatic 60, 3) := by decide +kernel
theorem dX7_matchKind_4 : decode cX7_matchKind 4 = .ok (.astore 4, 2) := by decide +kernel
theorem dX7_matchKind_6 : decode cX7_matchKind 6 = .ok (.iload_n 2, 1) := by decide +kernel
theorem dX7_matchKind_7 : decode cX7_matchKind 7 = .ok (.istore 5, 2) := by decide +kernel
theorem dX7_matchKind_9 : decode cX7_matchKind 9 = .ok (.iconst 0, 1) := by decide +kernel
theorem dX7_matchKind_10 : decode cX7_matchKind 10 = .ok (.istore 6, 2) := by decide +kernel
theorem dX7_matchKind_12 : decode cX7_matchKind 12 = .ok (.iconst 0, 1) := by decide +kernel
theorem dX7_matchKind_13 : decode cX7_matchKind 13 = .ok (.istore 7, 2) := by decide +kernel
theorem dX7_matchKind_15 : decode cX7_matchKind 15 = .ok (.iload 7, 2) := by decide +kernel
theorem dX7_matchKind_17 : decode cX7_matchKind 17 = .ok (.aload 4, 2) := by decide +kernel
theorem dX7_matchKind_19 : decode cX7_matchKind 19 = .ok (.invokevirtual 64, 3) := by decide +kernel
theorem dX7_matchKind_22 : decode cX7_matchKind 22 = .ok (.if_icmp .ge 95, 3) := by decide +kernel
theorem dX7_matchKind_25 : decode cX7_matchKind 25 = .ok (.aload 4, 2) := by decide +kernel
theorem dX7_matchKind_27 : decode cX7_matchKind 27 = .ok (.iload 7, 2) := by decide +kernel
theorem dX7_matchKind_29 : decode cX7_matchKind 29 = .ok (.invokevirtual 69, 3) := by decide +kernel
theorem dX7_matchKind_32 : decode cX7_matchKind 32 = .ok (.istore 8, 2) := by decide +kernel
theorem dX7_matchKind_34 : decode cX7_matchKind 34 = .ok (.aload_n 0, 1) := by decide +kernel
theorem dX7_matchKind_35 : decode cX7_matchKind 35 = .ok (.iload 8, 2) := by decide +kernel
theorem dX7_matchKind_37 : decode cX7_matchKind 37 = .ok (.iload 5, 2) := by decide +kernel
theorem dX7_matchKind_39 : decode cX7_matchKind 39 = .ok (.invokevirtual 73, 3) := by decide +kernel
theorem dX7_matchKind_42 : decode cX7_matchKind 42 = .ok (.istore 9, 2) := by decide +kernel
theorem dX7_matchKind_44 : decode cX7_matchKind 44 = .ok (.iload 9, 2) := by decide +kernel
theorem dX7_matchKind_46 : decode cX7_matchKind 46 = .ok (.ifCond .ne 18, 3) := by decide +kernel
theorem dX7_matchKind_49 : decode cX7_matchKind 49 = .ok (.aload_n 0, 1) := by decide +kernel
theorem dX7_matchKind_50 : decode cX7_matchKind 50 = .ok (.aload_n 0, 1) := by decide +kernel
theorem dX7_matchKind_51 : decode cX7_matchKind 51 = .ok (.getfield 29, 3) := by decide +kernel
theorem dX7_matchKind_54 : decode cX7_matchKind 54 = .ok (.iload 5, 2) := by decide +kernel
theorem dX7_matchKind_56 : decode cX7_matchKind 56 = .ok (.invokestatic 77, 3) := by decide +kernel
theorem dX7_matchKind_59 : decode cX7_matchKind 59 = .ok (.putfield 29, 3) := by decide +kernel
theorem dX7_matchKind_62 : decode cX7_matchKind 62 = .ok (.iconst (-1), 1) := by decide +kernel
theorem dX7_matchKind_63 : decode cX7_matchKind 63 = .ok (.ireturn, 1) := by decide +kernel
theorem dX7_matchKind_64 : decode cX7_matchKind 64 = .ok (.iload 8, 2) := by decide +kernel
theorem dX7_matchKind_66 : decode cX7_matchKind 66 = .ok (.bipush 78, 2) := by decide +kernel
theorem dX7_matchKind_68 : decode cX7_matchKind 68 = .ok (.if_icmp .eq 17, 3) := by decide +kernel
theorem dX7_matchKind_71 : decode cX7_matchKind 71 = .ok (.iload 8, 2) := by decide +kernel
theorem dX7_matchKind_73 : decode cX7_matchKind 73 = .ok (.bipush 68, 2) := by decide +kernel
theorem dX7_matchKind_75 : decode cX7_matchKind 75 = .ok (.if_icmp .eq 10, 3) := by decide +kernel
theorem dX7_matchKind_78 : decode cX7_matchKind 78 = .ok (.iload 8, 2) := by decide +kernel
theorem dX7_matchKind_80 : decode cX7_matchKind 80 = .ok (.bipush 80, 2) := by decide +kernel
theorem dX7_matchKind_82 : decode cX7_matchKind 82 = .ok (.if_icmp .ne 22, 3) := by decide +kernel
theorem dX7_matchKind_85 : decode cX7_matchKind 85 = .ok (.aload_n 3, 1) := by decide +kernel
theorem dX7_matchKind_86 : decode cX7_matchKind 86 = .ok (.iload 6, 2) := by decide +kernel
theorem dX7_matchKind_88 : decode cX7_matchKind 88 = .ok (.aload_n 0, 1) := by decide +kernel
theorem dX7_matchKind_89 : decode cX7_matchKind 89 = .ok (.iload 8, 2) := by decide +kernel
theorem dX7_matchKind_91 : decode cX7_matchKind 91 = .ok (.iload 5, 2) := by decide +kernel
theorem dX7_matchKind_93 : decode cX7_matchKind 93 = .ok (.iload 9, 2) := by decide +kernel
theorem dX7_matchKind_95 : decode cX7_matchKind 95 = .ok (.invokevirtual 83, 3) := by decide +kernel
theorem dX7_matchKind_98 : decode cX7_matchKind 98 = .ok (.invokevirtual 87, 3) := by decide +kernel
theorem dX7_matchKind_101 : decode cX7_matchKind 101 = .ok (.iinc 6 1, 3) := by decide +kernel
theorem dX7_matchKind_104 : decode cX7_matchKind 104 = .ok (.iload 5, 2) := by decide +kernel
theorem dX7_matchKind_106 : decode cX7_matchKind 106 = .ok (.iload 9, 2) := by decide +kernel
theorem dX7_matchKind_108 : decode cX7_matchKind 108 = .ok (.iadd, 1) := by decide +kernel
theorem dX7_matchKind_109 : decode cX7_matchKind 109 = .ok (.istore 5, 2) := by decide +kernel
theorem dX7_matchKind_111 : decode cX7_matchKind 111 = .ok (.iinc 7 1, 3) := by decide +kernel
theorem dX7_matchKind_114 : decode cX7_matchKind 114 = .ok (.goto (-99), 3) := by decide +kernel
theorem dX7_matchKind_117 : decode cX7_matchKind 117 = .ok (.aload_n 3, 1) := by decide +kernel
theorem dX7_matchKind_118 : decode cX7_matchKind 118 = .ok (.iload_n 1, 1) := by decide +kernel
theorem dX7_matchKind_119 : decode cX7_matchKind 119 = .ok (.putfield 91, 3) := by decide +kernel
theorem dX7_matchKind_122 : decode cX7_matchKind 122 = .ok (.iload 5, 2) := by decide +kernel
theorem dX7_matchKind_124 : decode cX7_matchKind 124 = .ok (.ireturn, 1) := by decide +kernel
theorem dX7_widthOf_0 : decode cX7_widthOf 0 = .ok (.iload_n 1, 1) := by decide +kernel
theorem dX7_widthOf_1 : decode cX7_widthOf 1 = .ok (.bipush 78, 2) := by decide +kernel
theorem dX7_widthOf_3 : decode cX7_widthOf 3 = .ok (.if_icmp .ne 23, 3) := by decide +kernel
theorem dX7_widthOf_6 : decode cX7_widthOf 6 = .ok (.aload_n 0, 1) := by decide +kernel
theorem dX7_widthOf_7 : decode cX7_widthOf 7 = .ok (.iload_n 2, 1) := by decide +kernel
theorem dX7_widthOf_8 : decode cX7_widthOf 8 = .ok (.invokevirtual 94, 3) := by decide +kernel
theorem dX7_widthOf_11 : decode cX7_widthOf 11 = .ok (.ifCond .eq 15, 3) := by decide +kernel
theorem dX7_widthOf_14 : decode cX7_widthOf 14 = .ok (.aload_n 0, 1) := by decide +kernel
theorem dX7_widthOf_15 : decode cX7_widthOf 15 = .ok (.iload_n 2, 1) := by decide +kernel
theorem dX7_widthOf_16 : decode cX7_widthOf 16 = .ok (.iconst 1, 1) := by decide +kernel
theorem dX7_widthOf_17 : decode cX7_widthOf 17 = .ok (.iadd, 1) := by decide +kernel
theorem dX7_widthOf_18 : decode cX7_widthOf 18 = .ok (.invokevirtual 94, 3) := by decide +kernel
theorem dX7_widthOf_21 : decode cX7_widthOf 21 = .ok (.ifCond .eq 5, 3) := by decide +kernel
theorem dX7_widthOf_24 : decode cX7_widthOf 24 = .ok (.iconst 2, 1) := by decide +kernel
theorem dX7_widthOf_25 : decode cX7_widthOf 25 = .ok (.ireturn, 1) := by decide +kernel
theorem dX7_widthOf_26 : decode cX7_widthOf 26 = .ok (.iload_n 1, 1) := by decide +kernel
theorem dX7_widthOf_27 : decode cX7_widthOf 27 = .ok (.bipush 78, 2) := by decide +kernel
theorem dX7_widthOf_29 : decode cX7_widthOf 29 = .ok (.if_icmp .eq 9, 3) := by decide +kernel
theorem dX7_widthOf_32 : decode cX7_widthOf 32 = .ok (.iload_n 1, 1) := by decide +kernel
theorem dX7_widthOf_33 : decode cX7_widthOf 33 = .ok (.bipush 68, 2) := by decide +kernel
theorem dX7_widthOf_35 : decode cX7_widthOf 35 = .ok (.if_icmp .ne 17, 3) := by decide +kernel
theorem dX7_widthOf_38 : decode cX7_widthOf 38 = .ok (.aload_n 0, 1) := by decide +kernel
theorem dX7_widthOf_39 : decode cX7_widthOf 39 = .ok (.iload_n 2, 1) := by decide +kernel
theorem dX7_widthOf_40 : decode cX7_widthOf 40 = .ok (.invokevirtual 94, 3) := by decide +kernel
theorem dX7_widthOf_43 : decode cX7_widthOf 43 = .ok (.ifCond .eq 7, 3) := by decide +kernel
theorem dX7_widthOf_46 : decode cX7_widthOf 46 = .ok (.iconst 1, 1) := by decide +kernel
theorem dX7_widthOf_47 : decode cX7_widthOf 47 = .ok (.goto 4, 3) := by decide +kernel
theorem dX7_widthOf_50 : decode cX7_widthOf 50 = .ok (.iconst 0, 1) := by decide +kernel
theorem dX7_widthOf_51 : decode cX7_widthOf 51 = .ok (.ireturn, 1) := by decide +kernel
theorem dX7_widthOf_52 : decode cX7_widthOf 52 = .ok (.iload_n 1, 1) := by decide +kernel
theorem dX7_widthOf_53 : decode cX7_widthOf 53 = .ok (.bipush 80, 2) := by decide +kernel
theorem dX7_widthOf_55 : decode cX7_widthOf 55 = .ok (.if_icmp .ne 29, 3) := by decide +kernel
theorem dX7_widthOf_58 : decode cX7_widthOf 58 = .ok (.aload_n 0, 1) := by decide +kernel
theorem dX7_widthOf_59 : decode cX7_widthOf 59 = .ok (.iload_n 2, 1) := by decide +kernel
theorem dX7_widthOf_60 : decode cX7_widthOf 60 = .ok (.bipush 110, 2) := by decide +kernel
theorem dX7_widthOf_62 : decode cX7_widthOf 62 = .ok (.invokevirtual 36, 3) := by decide +kernel
theorem dX7_widthOf_65 : decode cX7_widthOf 65 = .ok (.ifCond .ne 13, 3) := by decide +kernel
theorem dX7_widthOf_68 : decode cX7_widthOf 68 = .ok (.aload_n 0, 1) := by decide +kernel
theorem dX7_widthOf_69 : decode cX7_widthOf 69 = .ok (.iload_n 2, 1) := by decide +kernel
theorem dX7_widthOf_70 : decode cX7_widthOf 70 = .ok (.bipush 115, 2) := by decide +kernel
theorem dX7_widthOf_72 : decode cX7_widthOf 72 = .ok (.invokevirtual 36, 3) := by decide +kernel
theorem dX7_widthOf_75 : decode cX7_widthOf 75 = .ok (.ifCond .eq 7, 3) := by decide +kernel
theorem dX7_widthOf_78 : decode cX7_widthOf 78 = .ok (.iconst 1, 1) := by decide +kernel
theorem dX7_widthOf_79 : decode cX7_widthOf 79 = .ok (.goto 4, 3) := by decide +kernel
theorem dX7_widthOf_82 : decode cX7_widthOf 82 = .ok (.iconst 0, 1) := by decide +kernel
theorem dX7_widthOf_83 : decode cX7_widthOf 83 = .ok (.ireturn, 1) := by decide +kernel
theorem dX7_widthOf_84 : decode cX7_widthOf 84 = .ok (.aload_n 0, 1) := by decide +kernel
theorem dX7_widthOf_85 : decode cX7_widthOf 85 = .ok (.iload_n 2, 1) := by decide +kernel
theorem dX7_widthOf_86 : decode cX7_widthOf 86 = .ok (.iload_n 1, 1) := by decide +kernel
theorem dX7_widthOf_87 : decode cX7_widthOf 87 = .ok (.invokevirtual 36, 3) := by decide +kernel
theorem dX7_widthOf_90 : decode cX7_widthOf 90 = .ok (.ifCond .eq 7, 3) := by decide +kernel
theorem dX7_widthOf_93 : decode cX7_widthOf 93 = .ok (.iconst 1, 1) := by decide +kernel
theorem dX7_widthOf_94 : decode cX7_widthOf 94 = .ok (.goto 4, 3) := by decide +kernel
theorem dX7_widthOf_97 : decode cX7_widthOf 97 = .ok (.iconst 0, 1) := by decide +kernel
theorem dX7_widthOf_98 : decode cX7_widthOf 98 = .ok (.ireturn, 1) := by decide +kernel
theorem dX7_isDigitAt_0 : decode cX7_isDigitAt 0 = .ok (.iload_n 1, 1) := by decide +kernel
theorem dX7_isDigitAt_1 : decode cX7_isDigitAt 1 = .ok (.ifCond .lt 37, 3) := by decide +kernel
theorem dX7_isDigitAt_4 : decode cX7_isDigitAt 4 = .ok (.iload_n 1, 1) := by decide +kernel
theorem dX7_isDigitAt_5 : decode cX7_isDigitAt 5 = .ok (.aload_n 0, 1) := by decide +kernel
theorem dX7_isDigitAt_6 : decode cX7_isDigitAt 6 = .ok (.getfield 22, 3) := by decide +kernel
theorem dX7_isDigitAt_9 : decode cX7_isDigitAt 9 = .ok (.if_icmp .ge 29, 3) := by decide +kernel
theorem dX7_isDigitAt_12 : decode cX7_isDigitAt 12 = .ok (.aload_n 0, 1) := by decide +kernel
theorem dX7_isDigitAt_13 : decode cX7_isDigitAt 13 = .ok (.getfield 9, 3) := by decide +kernel
theorem dX7_isDigitAt_16 : decode cX7_isDigitAt 16 = .ok (.iload_n 1, 1) := by decide +kernel
theorem dX7_isDigitAt_17 : decode cX7_isDigitAt 17 = .ok (.caload, 1) := by decide +kernel
theorem dX7_isDigitAt_18 : decode cX7_isDigitAt 18 = .ok (.bipush 48, 2) := by decide +kernel
theorem dX7_isDigitAt_20 : decode cX7_isDigitAt 20 = .ok (.if_icmp .lt 18, 3) := by decide +kernel
theorem dX7_isDigitAt_23 : decode cX7_isDigitAt 23 = .ok (.aload_n 0, 1) := by decide +kernel
theorem dX7_isDigitAt_24 : decode cX7_isDigitAt 24 = .ok (.getfield 9, 3) := by decide +kernel
theorem dX7_isDigitAt_27 : decode cX7_isDigitAt 27 = .ok (.iload_n 1, 1) := by decide +kernel
theorem dX7_isDigitAt_28 : decode cX7_isDigitAt 28 = .ok (.caload, 1) := by decide +kernel
theorem dX7_isDigitAt_29 : decode cX7_isDigitAt 29 = .ok (.bipush 57, 2) := by decide +kernel
theorem dX7_isDigitAt_31 : decode cX7_isDigitAt 31 = .ok (.if_icmp .gt 7, 3) := by decide +kernel
theorem dX7_isDigitAt_34 : decode cX7_isDigitAt 34 = .ok (.iconst 1, 1) := by decide +kernel
theorem dX7_isDigitAt_35 : decode cX7_isDigitAt 35 = .ok (.goto 4, 3) := by decide +kernel
theorem dX7_isDigitAt_38 : decode cX7_isDigitAt 38 = .ok (.iconst 0, 1) := by decide +kernel
theorem dX7_isDigitAt_39 : decode cX7_isDigitAt 39 = .ok (.ireturn, 1) := by decide +kernel
theorem dX7_hasAt_0 : decode cX7_hasAt 0 = .ok (.iload_n 1, 1) := by decide +kernel
theorem dX7_hasAt_1 : decode cX7_hasAt 1 = .ok (.ifCond .lt 25, 3) := by decide +kernel
theorem dX7_hasAt_4 : decode cX7_hasAt 4 = .ok (.iload_n 1, 1) := by decide +kernel
theorem dX7_hasAt_5 : decode cX7_hasAt 5 = .ok (.aload_n 0, 1) := by decide +kernel
theorem dX7_hasAt_6 : decode cX7_hasAt 6 = .ok (.getfield 22, 3) := by decide +kernel
theorem dX7_hasAt_9 : decode cX7_hasAt 9 = .ok (.if_icmp .ge 17, 3) := by decide +kernel
theorem dX7_hasAt_12 : decode cX7_hasAt 12 = .ok (.aload_n 0, 1) := by decide +kernel
theorem dX7_hasAt_13 : decode cX7_hasAt 13 = .ok (.getfield 9, 3) := by decide +kernel
theorem dX7_hasAt_16 : decode cX7_hasAt 16 = .ok (.iload_n 1, 1) := by decide +kernel
theorem dX7_hasAt_17 : decode cX7_hasAt 17 = .ok (.caload, 1) := by decide +kernel
theorem dX7_hasAt_18 : decode cX7_hasAt 18 = .ok (.iload_n 2, 1) := by decide +kernel
theorem dX7_hasAt_19 : decode cX7_hasAt 19 = .ok (.if_icmp .ne 7, 3) := by decide +kernel
theorem dX7_hasAt_22 : decode cX7_hasAt 22 = .ok (.iconst 1, 1) := by decide +kernel
theorem dX7_hasAt_23 : decode cX7_hasAt 23 = .ok (.goto 4, 3) := by decide +kernel
theorem dX7_hasAt_26 : decode cX7_hasAt 26 = .ok (.iconst 0, 1) := by decide +kernel
theorem dX7_hasAt_27 : decode cX7_hasAt 27 = .ok (.ireturn, 1) := by decide +kernel
theorem dX7_valueOf_0 : decode cX7_valueOf 0 = .ok (.iload_n 1, 1) := by decide +kernel
theorem dX7_valueOf_1 : decode cX7_valueOf 1 = .ok (.bipush 80, 2) := by decide +kernel
theorem dX7_valueOf_3 : decode cX7_valueOf 3 = .ok (.if_icmp .ne 19, 3) := by decide +kernel
theorem dX7_valueOf_6 : decode cX7_valueOf 6 = .ok (.aload_n 0, 1) := by decide +kernel
theorem dX7_valueOf_7 : decode cX7_valueOf 7 = .ok (.iload_n 2, 1) := by decide +kernel
theorem dX7_valueOf_8 : decode cX7_valueOf 8 = .ok (.bipush 110, 2) := by decide +kernel
theorem dX7_valueOf_10 : decode cX7_valueOf 10 = .ok (.invokevirtual 36, 3) := by decide +kernel
theorem dX7_valueOf_13 : decode cX7_valueOf 13 = .ok (.ifCond .eq 7, 3) := by decide +kernel
theorem dX7_valueOf_16 : decode cX7_valueOf 16 = .ok (.iconst 1, 1) := by decide +kernel
theorem dX7_valueOf_17 : decode cX7_valueOf 17 = .ok (.goto 4, 3) := by decide +kernel
theorem dX7_valueOf_20 : decode cX7_valueOf 20 = .ok (.iconst 0, 1) := by decide +kernel
theorem dX7_valueOf_21 : decode cX7_valueOf 21 = .ok (.ireturn, 1) := by decide +kernel
theorem dX7_valueOf_22 : decode cX7_valueOf 22 = .ok (.aload_n 0, 1) := by decide +kernel
theorem dX7_valueOf_23 : decode cX7_valueOf 23 = .ok (.getfield 9, 3) := by decide +kernel
theorem dX7_valueOf_26 : decode cX7_valueOf 26 = .ok (.iload_n 2, 1) := by decide +kernel
theorem dX7_valueOf_27 : decode cX7_valueOf 27 = .ok (.caload, 1) := by decide +kernel
theorem dX7_valueOf_28 : decode cX7_valueOf 28 = .ok (.bipush 48, 2) := by decide +kernel
theorem dX7_valueOf_30 : decode cX7_valueOf 30 = .ok (.isub, 1) := by decide +kernel
theorem dX7_valueOf_31 : decode cX7_valueOf 31 = .ok (.istore 4, 2) := by decide +kernel
theorem dX7_valueOf_33 : decode cX7_valueOf 33 = .ok (.iload_n 3, 1) := by decide +kernel
theorem dX7_valueOf_34 : decode cX7_valueOf 34 = .ok (.iconst 1, 1) := by decide +kernel
theorem dX7_valueOf_35 : decode cX7_valueOf 35 = .ok (.if_icmp .ne 8, 3) := by decide +kernel
theorem dX7_valueOf_38 : decode cX7_valueOf 38 = .ok (.iload 4, 2) := by decide +kernel
theorem dX7_valueOf_40 : decode cX7_valueOf 40 = .ok (.goto 20, 3) := by decide +kernel
theorem dX7_valueOf_43 : decode cX7_valueOf 43 = .ok (.bipush 10, 2) := by decide +kernel
theorem dX7_valueOf_45 : decode cX7_valueOf 45 = .ok (.iload 4, 2) := by decide +kernel
theorem dX7_valueOf_47 : decode cX7_valueOf 47 = .ok (.imul, 1) := by decide +kernel
theorem dX7_valueOf_48 : decode cX7_valueOf 48 = .ok (.aload_n 0, 1) := by decide +kernel
theorem dX7_valueOf_49 : decode cX7_valueOf 49 = .ok (.getfield 9, 3) := by decide +kernel
theorem dX7_valueOf_52 : decode cX7_valueOf 52 = .ok (.iload_n 2, 1) := by decide +kernel
theorem dX7_valueOf_53 : decode cX7_valueOf 53 = .ok (.iconst 1, 1) := by decide +kernel
theorem dX7_valueOf_54 : decode cX7_valueOf 54 = .ok (.iadd, 1) := by decide +kernel
theorem dX7_valueOf_55 : decode cX7_valueOf 55 = .ok (.caload, 1) := by decide +kernel
theorem dX7_valueOf_56 : decode cX7_valueOf 56 = .ok (.iadd, 1) := by decide +kernel
theorem dX7_valueOf_57 : decode cX7_valueOf 57 = .ok (.bipush 48, 2) := by decide +kernel
theorem dX7_valueOf_59 : decode cX7_valueOf 59 = .ok (.isub, 1) := by decide +kernel
theorem dX7_valueOf_60 : decode cX7_valueOf 60 = .ok (.ireturn, 1) := by decide +kernel
end
section
theorem dX8_init_0 : decode cX8_init 0 = .ok (.aload_n 0, 1) := by decide +kernel
theorem dX8_init_1 : decode cX8_init 1 = .ok (.invokespecial 3, 3) := by decide +kernel
theorem dX8_init_4 : decode cX8_init 4 = .ok (.aload_n 0, 1) := by decide +kernel
theorem dX8_init_5 : decode cX8_init 5 = .ok (.new 9, 3) := by decide +kernel
theorem dX8_init_8 : decode cX8_init 8 = .ok (.dup, 1) := by decide +kernel
theorem dX8_init_9 : decode cX8_init 9 = .ok (.invokespecial 11, 3) := by decide +kernel
theorem dX8_init_12 : decode cX8_init 12 = .ok (.putfield 12, 3) := by decide +kernel
theorem dX8_init_15 : decode cX8_init 15 = .ok (.aload_n 0, 1) := by decide +kernel
theorem dX8_init_16 : decode cX8_init 16 = .ok (.new 16, 3) := by decide +kernel
theorem dX8_init_19 : decode cX8_init 19 = .ok (.dup, 1) := by decide +kernel
theorem dX8_init_20 : decode cX8_init 20 = .ok (.aload_n 0, 1) := by decide +kernel
theorem dX8_init_21 : decode cX8_init 21 = .ok (.getfield 12, 3) := by decide +kernel
theorem dX8_init_24 : decode cX8_init 24 = .ok (.invokespecial 18, 3) := by decide +kernel
theorem dX8_init_27 : decode cX8_init 27 = .ok (.putfield 21, 3) := by decide +kernel
theorem dX8_init_30 : decode cX8_init 30 = .ok (.aload_n 0, 1) := by decide +kernel
theorem dX8_init_31 : decode cX8_init 31 = .ok (.new 25, 3) := by decide +kernel
theorem dX8_init_34 : decode cX8_init 34 = .ok (.dup, 1) := by decide +kernel
theorem dX8_init_35 : decode cX8_init 35 = .ok (.aload_n 0, 1) := by decide +kernel
theorem dX8_init_36 : decode cX8_init 36 = .ok (.getfield 12, 3) := by decide +kernel
theorem dX8_init_39 : decode cX8_init 39 = .ok (.invokespecial 27, 3) := by decide +kernel
theorem dX8_init_42 : decode cX8_init 42 = .ok (.putfield 28, 3) := by decide +kernel
theorem dX8_init_45 : decode cX8_init 45 = .ok (.aload_n 0, 1) := by decide +kernel
theorem dX8_init_46 : decode cX8_init 46 = .ok (.new 32, 3) := by decide +kernel
theorem dX8_init_49 : decode cX8_init 49 = .ok (.dup, 1) := by decide +kernel
theorem dX8_init_50 : decode cX8_init 50 = .ok (.aload_n 0, 1) := by decide +kernel
theorem dX8_init_51 : decode cX8_init 51 = .ok (.getfield 12, 3) := by decide +kernel
theorem dX8_init_54 : decode cX8_init 54 = .ok (.aload_n 0, 1) := by decide +kernel
theorem dX8_init_55 : decode cX8_init 55 = .ok (.getfield 21, 3) := by decide +kernel
theorem dX8_init_58 : decode cX8_init 58 = .ok (.aload_n 0, 1) := by decide +kernel
theorem dX8_init_59 : decode cX8_init 59 = .ok (.getfield 28, 3) := by decide +kernel
theorem dX8_init_62 : decode cX8_init 62 = .ok (.invokespecial 34, 3) := by decide +kernel
theorem dX8_init_65 : decode cX8_init 65 = .ok (.putfield 37, 3) := by decide +kernel
theorem dX8_init_68 : decode cX8_init 68 = .ok (.aload_n 0, 1) := by decide +kernel
theorem dX8_init_69 : decode cX8_init 69 = .ok (.new 41, 3) := by decide +kernel
theorem dX8_init_72 : decode cX8_init 72 = .ok (.dup, 1) := by decide +kernel
theorem dX8_init_73 : decode cX8_init 73 = .ok (.invokespecial 43, 3) := by decide +kernel
theorem dX8_init_76 : decode cX8_init 76 = .ok (.putfield 44, 3) := by decide +kernel
theorem dX8_init_79 : decode cX8_init 79 = .ok (.aload_n 0, 1) := by decide +kernel
theorem dX8_init_80 : decode cX8_init 80 = .ok (.new 9, 3) := by decide +kernel
theorem dX8_init_83 : decode cX8_init 83 = .ok (.dup, 1) := by decide +kernel
theorem dX8_init_84 : decode cX8_init 84 = .ok (.invokespecial 11, 3) := by decide +kernel
theorem dX8_init_87 : decode cX8_init 87 = .ok (.putfield 48, 3) := by decide +kernel
theorem dX8_init_90 : decode cX8_init 90 = .ok (.aload_n 0, 1) := by decide +kernel
theorem dX8_init_91 : decode cX8_init 91 = .ok (.new 9, 3) := by decide +kernel
theorem dX8_init_94 : decode cX8_init 94 = .ok (.dup, 1) := by decide +kernel
theorem dX8_init_95 : decode cX8_init 95 = .ok (.invokespecial 11, 3) := by decide +kernel
theorem dX8_init_98 : decode cX8_init 98 = .ok (.putfield 51, 3) := by decide +kernel
theorem dX8_init_101 : decode cX8_init 101 = .ok (.aload_n 0, 1) := by decide +kernel
theorem dX8_init_102 : decode cX8_init 102 = .ok (.new 54, 3) := by decide +kernel
theorem dX8_init_105 : decode cX8_init 105 = .ok (.dup, 1) := by decide +kernel
theorem dX8_init_106 : decode cX8_init 106 = .ok (.invokespecial 56, 3) := by decide +kernel
theorem dX8_init_109 : decode cX8_init 109 = .ok (.putfield 57, 3) := by decide +kernel
theorem dX8_init_112 : decode cX8_init 112 = .ok (.aload_n 0, 1) := by decide +kernel
theorem dX8_init_113 : decode cX8_init 113 = .ok (.new 61, 3) := by decide +kernel
theorem dX8_init_116 : decode cX8_init 116 = .ok (.dup, 1) := by decide +kernel
theorem dX8_init_117 : decode cX8_init 117 = .ok (.invokespecial 63, 3) := by decide +kernel
theorem dX8_init_120 : decode cX8_init 120 = .ok (.putfield 64, 3) := by decide +kernel
theorem dX8_init_123 : decode cX8_init 123 = .ok (.aload_n 0, 1) := by decide +kernel
theorem dX8_init_124 : decode cX8_init 124 = .ok (.iconst (-1), 1) := by decide +kernel
theorem dX8_init_125 : decode cX8_init 125 = .ok (.putfield 68, 3) := by decide +kernel
theorem dX8_init_128 : decode cX8_init 128 = .ok (.return_, 1) := by decide +kernel
theorem dX8_addMagnet_0 : decode cX8_addMagnet 0 = .ok (.aload_n 0, 1) := by decide +kernel
theorem dX8_addMagnet_1 : decode cX8_addMagnet 1 = .ok (.iconst 0, 1) := by decide +kernel
theorem dX8_addMagnet_2 : decode cX8_addMagnet 2 = .ok (.iload_n 1, 1) := by decide +kernel
theorem dX8_addMagnet_3 : decode cX8_addMagnet 3 = .ok (.iload_n 2, 1) := by decide +kernel
theorem dX8_addMagnet_4 : decode cX8_addMagnet 4 = .ok (.iload_n 3, 1) := by decide +kernel
theorem dX8_addMagnet_5 : decode cX8_addMagnet 5 = .ok (.ifCond .eq 7, 3) := by decide +kernel
theorem dX8_addMagnet_8 : decode cX8_addMagnet 8 = .ok (.iconst 1, 1) := by decide +kernel
theorem dX8_addMagnet_9 : decode cX8_addMagnet 9 = .ok (.goto 4, 3) := by decide +kernel
theorem dX8_addMagnet_12 : decode cX8_addMagnet 12 = .ok (.iconst 0, 1) := by decide +kernel
theorem dX8_addMagnet_13 : decode cX8_addMagnet 13 = .ok (.invokevirtual 72, 3) := by decide +kernel
theorem dX8_addMagnet_16 : decode cX8_addMagnet 16 = .ok (.ireturn, 1) := by decide +kernel
theorem dX8_setStrength_0 : decode cX8_setStrength 0 = .ok (.aload_n 0, 1) := by decide +kernel
theorem dX8_setStrength_1 : decode cX8_setStrength 1 = .ok (.iconst 1, 1) := by decide +kernel
theorem dX8_setStrength_2 : decode cX8_setStrength 2 = .ok (.iload_n 1, 1) := by decide +kernel
theorem dX8_setStrength_3 : decode cX8_setStrength 3 = .ok (.iload_n 2, 1) := by decide +kernel
theorem dX8_setStrength_4 : decode cX8_setStrength 4 = .ok (.iconst 0, 1) := by decide +kernel
theorem dX8_setStrength_5 : decode cX8_setStrength 5 = .ok (.invokevirtual 72, 3) := by decide +kernel
theorem dX8_setStrength_8 : decode cX8_setStrength 8 = .ok (.ireturn, 1) := by decide +kernel
theorem dX8_turn_0 : decode cX8_turn 0 = .ok (.aload_n 0, 1) := by decide +kernel
theorem dX8_turn_1 : decode cX8_turn 1 = .ok (.iconst 2, 1) := by decide +kernel
theorem dX8_turn_2 : decode cX8_turn 2 = .ok (.iload_n 1, 1) := by decide +kernel
theorem dX8_turn_3 : decode cX8_turn 3 = .ok (.iconst 0, 1) := by decide +kernel
theorem dX8_turn_4 : decode cX8_turn 4 = .ok (.iconst 0, 1) := by decide +kernel
theorem dX8_turn_5 : decode cX8_turn 5 = .ok (.invokevirtual 72, 3) := by decide +kernel
theorem dX8_turn_8 : decode cX8_turn 8 = .ok (.ireturn, 1) := by decide +kernel
theorem dX8_shift_0 : decode cX8_shift 0 = .ok (.aload_n 0, 1) := by decide +kernel
theorem dX8_shift_1 : decode cX8_shift 1 = .ok (.iconst 3, 1) := by decide +kernel
theorem dX8_shift_2 : decode cX8_shift 2 = .ok (.iload_n 1, 1) := by decide +kernel
theorem dX8_shift_3 : decode cX8_shift 3 = .ok (.iconst 0, 1) := by decide +kernel
theorem dX8_shift_4 : decode cX8_shift 4 = .ok (.iconst 0, 1) := by decide +kernel
theorem dX8_shift_5 : decode cX8_shift 5 = .ok (.invokevirtual 72, 3) := by decide +kernel
theorem dX8_shift_8 : decode cX8_shift 8 = .ok (.ireturn, 1) := by decide +kernel
theorem dX8_move_0 : decode cX8_move 0 = .ok (.aload_n 0, 1) := by decide +kernel
theorem dX8_move_1 : decode cX8_move 1 = .ok (.iconst 4, 1) := by decide +kernel
theorem dX8_move_2 : decode cX8_move 2 = .ok (.iconst 0, 1) := by decide +kernel
theorem dX8_move_3 : decode cX8_move 3 = .ok (.iconst 0, 1) := by decide +kernel
theorem dX8_move_4 : decode cX8_move 4 = .ok (.iconst 0, 1) := by decide +kernel
theorem dX8_move_5 : decode cX8_move 5 = .ok (.invokevirtual 72, 3) := by decide +kernel
theorem dX8_move_8 : decode cX8_move 8 = .ok (.ireturn, 1) := by decide +kernel
theorem dX8_magnetCount_0 : decode cX8_magnetCount 0 = .ok (.aload_n 0, 1) := by decide +kernel
theorem dX8_magnetCount_1 : decode cX8_magnetCount 1 = .ok (.getfield 12, 3) := by decide +kernel
theorem dX8_magnetCount_4 : decode cX8_magnetCount 4 = .ok (.getfield 76, 3) := by decide +kernel
theorem dX8_magnetCount_7 : decode cX8_magnetCount 7 = .ok (.ireturn, 1) := by decide +kernel
theorem dX8_position_0 : decode cX8_position 0 = .ok (.aload_n 0, 1) := by decide +kernel
theorem dX8_position_1 : decode cX8_position 1 = .ok (.iload_n 1, 1) := by decide +kernel
theorem dX8_position_2 : decode cX8_position 2 = .ok (.invokevirtual 79, 3) := by decide +kernel
theorem dX8_position_5 : decode cX8_position 5 = .ok (.aload_n 0, 1) := by decide +kernel
theorem dX8_position_6 : decode cX8_position 6 = .ok (.getfield 12, 3) := by decide +kernel
theorem dX8_position_9 : decode cX8_position 9 = .ok (.getfield 83, 3) := by decide +kernel
theorem dX8_position_12 : decode cX8_position 12 = .ok (.iload_n 1, 1) := by decide +kernel
theorem dX8_position_13 : decode cX8_position 13 = .ok (.iaload, 1) := by decide +kernel
theorem dX8_position_14 : decode cX8_position 14 = .ok (.ireturn, 1) := by decide +kernel
theorem dX8_strength_0 : decode cX8_strength 0 = .ok (.aload_n 0, 1) := by decide +kernel
theorem dX8_strength_1 : decode cX8_strength 1 = .ok (.iload_n 1, 1) := by decide +kernel
theorem dX8_strength_2 : decode cX8_strength 2 = .ok (.invokevirtual 79, 3) := by decide +kernel
theorem dX8_strength_5 : decode cX8_strength 5 = .ok (.aload_n 0, 1) := by decide +kernel
theorem dX8_strength_6 : decode cX8_strength 6 = .ok (.getfield 12, 3) := by decide +kernel
theorem dX8_strength_9 : decode cX8_strength 9 = .ok (.getfield 87, 3) := by decide +kernel
theorem dX8_strength_12 : decode cX8_strength 12 = .ok (.iload_n 1, 1) := by decide +kernel
theorem dX8_strength_13 : decode cX8_strength 13 = .ok (.iaload, 1) := by decide +kernel
theorem dX8_strength_14 : decode cX8_strength 14 = .ok (.ireturn, 1) := by decide +kernel
theorem dX8_pole_0 : decode cX8_pole 0 = .ok (.aload_n 0, 1) := by decide +kernel
theorem dX8_pole_1 : decode cX8_pole 1 = .ok (.iload_n 1, 1) := by decide +kernel
theorem dX8_pole_2 : decode cX8_pole 2 = .ok (.invokevirtual 79, 3) := by decide +kernel
theorem dX8_pole_5 : decode cX8_pole 5 = .ok (.aload_n 0, 1) := by decide +kernel
theorem dX8_pole_6 : decode cX8_pole 6 = .ok (.getfield 12, 3) := by decide +kernel
theorem dX8_pole_9 : decode cX8_pole 9 = .ok (.iload_n 1, 1) := by decide +kernel
theorem dX8_pole_10 : decode cX8_pole 10 = .ok (.invokevirtual 90, 3) := by decide +kernel
theorem dX8_pole_13 : decode cX8_pole 13 = .ok (.ireturn, 1) := by decide +kernel
theorem dX8_magnetAt_0 : decode cX8_magnetAt 0 = .ok (.iload_n 1, 1) := by decide +kernel
theorem dX8_magnetAt_1 : decode cX8_magnetAt 1 = .ok (.invokestatic 94, 3) := by decide +kernel
theorem dX8_magnetAt_4 : decode cX8_magnetAt 4 = .ok (.aload_n 0, 1) := by decide +kernel
theorem dX8_magnetAt_5 : decode cX8_magnetAt 5 = .ok (.getfield 12, 3) := by decide +kernel
theorem dX8_magnetAt_8 : decode cX8_magnetAt 8 = .ok (.iload_n 1, 1) := by decide +kernel
theorem dX8_magnetAt_9 : decode cX8_magnetAt 9 = .ok (.invokevirtual 97, 3) := by decide +kernel
theorem dX8_magnetAt_12 : decode cX8_magnetAt 12 = .ok (.invokestatic 101, 3) := by decide +kernel
theorem dX8_magnetAt_15 : decode cX8_magnetAt 15 = .ok (.ireturn, 1) := by decide +kernel
theorem dX8_magnetByStrength_0 : decode cX8_magnetByStrength 0 = .ok (.aload_n 0, 1) := by decide +kernel
theorem dX8_magnetByStrength_1 : decode cX8_magnetByStrength 1 = .ok (.getfield 12, 3) := by decide +kernel
theorem dX8_magnetByStrength_4 : decode cX8_magnetByStrength 4 = .ok (.iload_n 1, 1) := by decide +kernel
theorem dX8_magnetByStrength_5 : decode cX8_magnetByStrength 5 = .ok (.invokevirtual 104, 3) := by decide +kernel
theorem dX8_magnetByStrength_8 : decode cX8_magnetByStrength 8 = .ok (.invokestatic 101, 3) := by decide +kernel
theorem dX8_magnetByStrength_11 : decode cX8_magnetByStrength 11 = .ok (.ireturn, 1) := by decide +kernel
theorem dX8_dig_0 : decode cX8_dig 0 = .ok (.aload_n 0, 1) := by decide +kernel
theorem dX8_dig_1 : decode cX8_dig 1 = .ok (.iconst 5, 1) := by decide +kernel
theorem dX8_dig_2 : decode cX8_dig 2 = .ok (.iload_n 1, 1) := by decide +kernel
theorem dX8_dig_3 : decode cX8_dig 3 = .ok (.iload_n 2, 1) := by decide +kernel
theorem dX8_dig_4 : decode cX8_dig 4 = .ok (.iconst 0, 1) := by decide +kernel
theorem dX8_dig_5 : decode cX8_dig 5 = .ok (.invokevirtual 72, 3) := by decide +kernel
theorem dX8_dig_8 : decode cX8_dig 8 = .ok (.ireturn, 1) := by decide +kernel
theorem dX8_fill_0 : decode cX8_fill 0 = .ok (.aload_n 0, 1) := by decide +kernel
theorem dX8_fill_1 : decode cX8_fill 1 = .ok (.bipush 6, 2) := by decide +kernel
theorem dX8_fill_3 : decode cX8_fill 3 = .ok (.iload_n 1, 1) := by decide +kernel
theorem dX8_fill_4 : decode cX8_fill 4 = .ok (.iconst 0, 1) := by decide +kernel
theorem dX8_fill_5 : decode cX8_fill 5 = .ok (.iconst 0, 1) := by decide +kernel
theorem dX8_fill_6 : decode cX8_fill 6 = .ok (.invokevirtual 72, 3) := by decide +kernel
theorem dX8_fill_9 : decode cX8_fill 9 = .ok (.ireturn, 1) := by decide +kernel
theorem dX8_settle_0 : decode cX8_settle 0 = .ok (.aload_n 0, 1) := by decide +kernel
theorem dX8_settle_1 : decode cX8_settle 1 = .ok (.bipush 7, 2) := by decide +kernel
theorem dX8_settle_3 : decode cX8_settle 3 = .ok (.iconst 0, 1) := by decide +kernel
theorem dX8_settle_4 : decode cX8_settle 4 = .ok (.iconst 0, 1) := by decide +kernel
theorem dX8_settle_5 : decode cX8_settle 5 = .ok (.iconst 0, 1) := by decide +kernel
theorem dX8_settle_6 : decode cX8_settle 6 = .ok (.invokevirtual 72, 3) := by decide +kernel
theorem dX8_settle_9 : decode cX8_settle 9 = .ok (.ireturn, 1) := by decide +kernel
theorem dX8_tunnelCount_0 : decode cX8_tunnelCount 0 = .ok (.aload_n 0, 1) := by decide +kernel
theorem dX8_tunnelCount_1 : decode cX8_tunnelCount 1 = .ok (.getfield 12, 3) := by decide +kernel
theorem dX8_tunnelCount_4 : decode cX8_tunnelCount 4 = .ok (.getfield 107, 3) := by decide +kernel
theorem dX8_tunnelCount_7 : decode cX8_tunnelCount 7 = .ok (.ireturn, 1) := by decide +kernel
theorem dX8_isOpen_0 : decode cX8_isOpen 0 = .ok (.aload_n 0, 1) := by decide +kernel
theorem dX8_isOpen_1 : decode cX8_isOpen 1 = .ok (.iload_n 1, 1) := by decide +kernel
theorem dX8_isOpen_2 : decode cX8_isOpen 2 = .ok (.invokevirtual 110, 3) := by decide +kernel
theorem dX8_isOpen_5 : decode cX8_isOpen 5 = .ok (.aload_n 0, 1) := by decide +kernel
theorem dX8_isOpen_6 : decode cX8_isOpen 6 = .ok (.getfield 12, 3) := by decide +kernel
theorem dX8_isOpen_9 : decode cX8_isOpen 9 = .ok (.iload_n 1, 1) := by decide +kernel
theorem dX8_isOpen_10 : decode cX8_isOpen 10 = .ok (.invokevirtual 113, 3) := by decide +kernel
theorem dX8_isOpen_13 : decode cX8_isOpen 13 = .ok (.ireturn, 1) := by decide +kernel
theorem dX8_blocked_0 : decode cX8_blocked 0 = .ok (.aload_n 0, 1) := by decide +kernel
theorem dX8_blocked_1 : decode cX8_blocked 1 = .ok (.getfield 12, 3) := by decide +kernel
theorem dX8_blocked_4 : decode cX8_blocked 4 = .ok (.invokevirtual 117, 3) := by decide +kernel
theorem dX8_blocked_7 : decode cX8_blocked 7 = .ok (.ireturn, 1) := by decide +kernel
theorem dX8_parts_0 : decode cX8_parts 0 = .ok (.aload_n 0, 1) := by decide +kernel
theorem dX8_parts_1 : decode cX8_parts 1 = .ok (.getfield 21, 3) := by decide +kernel
theorem dX8_parts_4 : decode cX8_parts 4 = .ok (.iconst (-1), 1) := by decide +kernel
theorem dX8_parts_5 : decode cX8_parts 5 = .ok (.invokevirtual 121, 3) := by decide +kernel
theorem dX8_parts_8 : decode cX8_parts 8 = .ok (.ireturn, 1) := by decide +kernel
theorem dX8_walk_0 : decode cX8_walk 0 = .ok (.aload_n 0, 1) := by decide +kernel
theorem dX8_walk_1 : decode cX8_walk 1 = .ok (.iload_n 1, 1) := by decide +kernel
theorem dX8_walk_2 : decode cX8_walk 2 = .ok (.invokevirtual 79, 3) := by decide +kernel
theorem dX8_walk_5 : decode cX8_walk 5 = .ok (.aload_n 0, 1) := by decide +kernel
theorem dX8_walk_6 : decode cX8_walk 6 = .ok (.iload_n 2, 1) := by decide +kernel
theorem dX8_walk_7 : decode cX8_walk 7 = .ok (.invokevirtual 79, 3) := by decide +kernel
theorem dX8_walk_10 : decode cX8_walk 10 = .ok (.aload_n 0, 1) := by decide +kernel
theorem dX8_walk_11 : decode cX8_walk 11 = .ok (.getfield 21, 3) := by decide +kernel
theorem dX8_walk_14 : decode cX8_walk 14 = .ok (.iload_n 1, 1) := by decide +kernel
theorem dX8_walk_15 : decode cX8_walk 15 = .ok (.iload_n 2, 1) := by decide +kernel
theorem dX8_walk_16 : decode cX8_walk 16 = .ok (.invokevirtual 124, 3) := by decide +kernel
theorem dX8_walk_19 : decode cX8_walk 19 = .ok (.invokestatic 101, 3) := by decide +kernel
theorem dX8_walk_22 : decode cX8_walk 22 = .ok (.ireturn, 1) := by decide +kernel
theorem dX8_bridges_0 : decode cX8_bridges 0 = .ok (.aload_n 0, 1) := by decide +kernel
theorem dX8_bridges_1 : decode cX8_bridges 1 = .ok (.getfield 21, 3) := by decide +kernel
theorem dX8_bridges_4 : decode cX8_bridges 4 = .ok (.invokevirtual 128, 3) := by decide +kernel
theorem dX8_bridges_7 : decode cX8_bridges 7 = .ok (.ireturn, 1) := by decide +kernel
theorem dX8_bridgesByFilling_0 : decode cX8_bridgesByFilling 0 = .ok (.aload_n 0, 1) := by decide +kernel
theorem dX8_bridgesByFilling_1 : decode cX8_bridgesByFilling 1 = .ok (.getfield 21, 3) := by decide +kernel
theorem dX8_bridgesByFilling_4 : decode cX8_bridgesByFilling 4 = .ok (.invokevirtual 131, 3) := by decide +kernel
theorem dX8_bridgesByFilling_7 : decode cX8_bridgesByFilling 7 = .ok (.ireturn, 1) := by decide +kernel
theorem dX8_canSettle_0 : decode cX8_canSettle 0 = .ok (.aload_n 0, 1) := by decide +kernel
theorem dX8_canSettle_1 : decode cX8_canSettle 1 = .ok (.getfield 21, 3) := by decide +kernel
theorem dX8_canSettle_4 : decode cX8_canSettle 4 = .ok (.invokevirtual 134, 3) := by decide +kernel
theorem dX8_canSettle_7 : decode cX8_canSettle 7 = .ok (.iconst (-1), 1) := by decide +kernel
theorem dX8_canSettle_8 : decode cX8_canSettle 8 = .ok (.if_icmp .eq 7, 3) := by decide +kernel
theorem dX8_canSettle_11 : decode cX8_canSettle 11 = .ok (.iconst 1, 1) := by decide +kernel
theorem dX8_canSettle_12 : decode cX8_canSettle 12 = .ok (.goto 4, 3) := by decide +kernel
theorem dX8_canSettle_15 : decode cX8_canSettle 15 = .ok (.iconst 0, 1) := by decide +kernel
theorem dX8_canSettle_16 : decode cX8_canSettle 16 = .ok (.ireturn, 1) := by decide +kernel
theorem dX8_canSettleByUnions_0 : decode cX8_canSettleByUnions 0 = .ok (.aload_n 0, 1) := by decide +kernel
theorem dX8_canSettleByUnions_1 : decode cX8_canSettleByUnions 1 = .ok (.getfield 21, 3) := by decide +kernel
theorem dX8_canSettleByUnions_4 : decode cX8_canSettleByUnions 4 = .ok (.invokevirtual 137, 3) := by decide +kernel
theorem dX8_canSettleByUnions_7 : decode cX8_canSettleByUnions 7 = .ok (.ireturn, 1) := by decide +kernel
theorem dX8_fewestTurns_0 : decode cX8_fewestTurns 0 = .ok (.aload_n 0, 1) := by decide +kernel
theorem dX8_fewestTurns_1 : decode cX8_fewestTurns 1 = .ok (.getfield 21, 3) := by decide +kernel
theorem dX8_fewestTurns_4 : decode cX8_fewestTurns 4 = .ok (.invokevirtual 141, 3) := by decide +kernel
theorem dX8_fewestTurns_7 : decode cX8_fewestTurns 7 = .ok (.invokestatic 101, 3) := by decide +kernel
theorem dX8_fewestTurns_10 : decode cX8_fewestTurns 10 = .ok (.ireturn, 1) := by decide +kernel
theorem dX8_fewestTurnsBySets_0 : decode cX8_fewestTurnsBySets 0 = .ok (.aload_n 0, 1) := by decide +kernel
theorem dX8_fewestTurnsBySets_1 : decode cX8_fewestTurnsBySets 1 = .ok (.getfield 21, 3) := by decide +kernel
theorem dX8_fewestTurnsBySets_4 : decode cX8_fewestTurnsBySets 4 = .ok (.invokevirtual 144, 3) := by decide +kernel
theorem dX8_fewestTurnsBySets_7 : decode cX8_fewestTurnsBySets 7 = .ok (.invokestatic 101, 3) := by decide +kernel
theorem dX8_fewestTurnsBySets_10 : decode cX8_fewestTurnsBySets 10 = .ok (.ireturn, 1) := by decide +kernel
theorem dX8_leastBlocked_0 : decode cX8_leastBlocked 0 = .ok (.aload_n 0, 1) := by decide +kernel
theorem dX8_leastBlocked_1 : decode cX8_leastBlocked 1 = .ok (.getfield 21, 3) := by decide +kernel
theorem dX8_leastBlocked_4 : decode cX8_leastBlocked 4 = .ok (.invokevirtual 147, 3) := by decide +kernel
theorem dX8_leastBlocked_7 : decode cX8_leastBlocked 7 = .ok (.ireturn, 1) := by decide +kernel
theorem dX8_leastBlockedByBounds_0 : decode cX8_leastBlockedByBounds 0 = .ok (.aload_n 0, 1) := by decide +kernel
theorem dX8_leastBlockedByBounds_1 : decode cX8_leastBlockedByBounds 1 = .ok (.getfield 21, 3) := by decide +kernel
theorem dX8_leastBlockedByBounds_4 : decode cX8_leastBlockedByBounds 4 = .ok (.invokevirtual 150, 3) := by decide +kernel
theorem dX8_leastBlockedByBounds_7 : decode cX8_leastBlockedByBounds 7 = .ok (.ireturn, 1) := by decide +kernel
theorem dX8_force_0 : decode cX8_force 0 = .ok (.aload_n 0, 1) := by decide +kernel
theorem dX8_force_1 : decode cX8_force 1 = .ok (.iload_n 1, 1) := by decide +kernel
theorem dX8_force_2 : decode cX8_force 2 = .ok (.invokevirtual 79, 3) := by decide +kernel
theorem dX8_force_5 : decode cX8_force 5 = .ok (.aload_n 0, 1) := by decide +kernel
theorem dX8_force_6 : decode cX8_force 6 = .ok (.getfield 28, 3) := by decide +kernel
theorem dX8_force_9 : decode cX8_force 9 = .ok (.iload_n 1, 1) := by decide +kernel
theorem dX8_force_10 : decode cX8_force 10 = .ok (.invokevirtual 153, 3) := by decide +kernel
theorem dX8_force_13 : decode cX8_force 13 = .ok (.freturn, 1) := by decide +kernel
theorem dX8_wholeForce_0 : decode cX8_wholeForce 0 = .ok (.aload_n 0, 1) := by decide +kernel
theorem dX8_wholeForce_1 : decode cX8_wholeForce 1 = .ok (.iload_n 1, 1) := by decide +kernel
theorem dX8_wholeForce_2 : decode cX8_wholeForce 2 = .ok (.invokevirtual 79, 3) := by decide +kernel
theorem dX8_wholeForce_5 : decode cX8_wholeForce 5 = .ok (.aload_n 0, 1) := by decide +kernel
theorem dX8_wholeForce_6 : decode cX8_wholeForce 6 = .ok (.getfield 28, 3) := by decide +kernel
theorem dX8_wholeForce_9 : decode cX8_wholeForce 9 = .ok (.iload_n 1, 1) := by decide +kernel
theorem dX8_wholeForce_10 : decode cX8_wholeForce 10 = .ok (.invokevirtual 153, 3) := by decide +kernel
theorem dX8_wholeForce_13 : decode cX8_wholeForce 13 = .ok (.f2i, 1) := by decide +kernel
theorem dX8_wholeForce_14 : decode cX8_wholeForce 14 = .ok (.ireturn, 1) := by decide +kernel
theorem dX8_field_0 : decode cX8_field 0 = .ok (.iload_n 1, 1) := by decide +kernel
theorem dX8_field_1 : decode cX8_field 1 = .ok (.invokestatic 94, 3) := by decide +kernel
theorem dX8_field_4 : decode cX8_field 4 = .ok (.aload_n 0, 1) := by decide +kernel
theorem dX8_field_5 : decode cX8_field 5 = .ok (.getfield 28, 3) := by decide +kernel
theorem dX8_field_8 : decode cX8_field 8 = .ok (.iload_n 1, 1) := by decide +kernel
theorem dX8_field_9 : decode cX8_field 9 = .ok (.invokevirtual 157, 3) := by decide +kernel
theorem dX8_field_12 : decode cX8_field 12 = .ok (.dreturn, 1) := by decide +kernel
theorem dX8_strongestPosition_0 : decode cX8_strongestPosition 0 = .ok (.aload_n 0, 1) := by decide +kernel
theorem dX8_strongestPosition_1 : decode cX8_strongestPosition 1 = .ok (.getfield 28, 3) := by decide +kernel
theorem dX8_strongestPosition_4 : decode cX8_strongestPosition 4 = .ok (.invokevirtual 161, 3) := by decide +kernel
theorem dX8_strongestPosition_7 : decode cX8_strongestPosition 7 = .ok (.invokestatic 101, 3) := by decide +kernel
theorem dX8_strongestPosition_10 : decode cX8_strongestPosition 10 = .ok (.ireturn, 1) := by decide +kernel
theorem dX8_queen_0 : decode cX8_queen 0 = .ok (.aload_n 0, 1) := by decide +kernel
theorem dX8_queen_1 : decode cX8_queen 1 = .ok (.getfield 28, 3) := by decide +kernel
theorem dX8_queen_4 : decode cX8_queen 4 = .ok (.invokevirtual 164, 3) := by decide +kernel
theorem dX8_queen_7 : decode cX8_queen 7 = .ok (.invokestatic 101, 3) := by decide +kernel
theorem dX8_queen_10 : decode cX8_queen 10 = .ok (.ireturn, 1) := by decide +kernel
theorem dX8_meanStrength_0 : decode cX8_meanStrength 0 = .ok (.aload_n 0, 1) := by decide +kernel
theorem dX8_meanStrength_1 : decode cX8_meanStrength 1 = .ok (.getfield 12, 3) := by decide +kernel
theorem dX8_meanStrength_4 : decode cX8_meanStrength 4 = .ok (.getfield 76, 3) := by decide +kernel
theorem dX8_meanStrength_7 : decode cX8_meanStrength 7 = .ok (.ifCond .ne 13, 3) := by decide +kernel
theorem dX8_meanStrength_10 : decode cX8_meanStrength 10 = .ok (.new 167, 3) := by decide +kernel
theorem dX8_meanStrength_13 : decode cX8_meanStrength 13 = .ok (.dup, 1) := by decide +kernel
theorem dX8_meanStrength_14 : decode cX8_meanStrength 14 = .ok (.ldc 169, 2) := by decide +kernel
theorem dX8_meanStrength_16 : decode cX8_meanStrength 16 = .ok (.invokespecial 171, 3) := by decide +kernel
theorem dX8_meanStrength_19 : decode cX8_meanStrength 19 = .ok (.athrow, 1) := by decide +kernel
theorem dX8_meanStrength_20 : decode cX8_meanStrength 20 = .ok (.aload_n 0, 1) := by decide +kernel
theorem dX8_meanStrength_21 : decode cX8_meanStrength 21 = .ok (.getfield 12, 3) := by decide +kernel
theorem dX8_meanStrength_24 : decode cX8_meanStrength 24 = .ok (.invokevirtual 174, 3) := by decide +kernel
theorem dX8_meanStrength_27 : decode cX8_meanStrength 27 = .ok (.i2d, 1) := by decide +kernel
theorem dX8_meanStrength_28 : decode cX8_meanStrength 28 = .ok (.aload_n 0, 1) := by decide +kernel
theorem dX8_meanStrength_29 : decode cX8_meanStrength 29 = .ok (.getfield 12, 3) := by decide +kernel
theorem dX8_meanStrength_32 : decode cX8_meanStrength 32 = .ok (.getfield 76, 3) := by decide +kernel
theorem dX8_meanStrength_35 : decode cX8_meanStrength 35 = .ok (.i2d, 1) := by decide +kernel
theorem dX8_meanStrength_36 : decode cX8_meanStrength 36 = .ok (.ddiv, 1) := by decide +kernel
theorem dX8_meanStrength_37 : decode cX8_meanStrength 37 = .ok (.dreturn, 1) := by decide +kernel
theorem dX8_openShare_0 : decode cX8_openShare 0 = .ok (.aload_n 0, 1) := by decide +kernel
theorem dX8_openShare_1 : decode cX8_openShare 1 = .ok (.getfield 12, 3) := by decide +kernel
theorem dX8_openShare_4 : decode cX8_openShare 4 = .ok (.getfield 107, 3) := by decide +kernel
theorem dX8_openShare_7 : decode cX8_openShare 7 = .ok (.ifCond .ne 13, 3) := by decide +kernel
theorem dX8_openShare_10 : decode cX8_openShare 10 = .ok (.new 167, 3) := by decide +kernel
theorem dX8_openShare_13 : decode cX8_openShare 13 = .ok (.dup, 1) := by decide +kernel
theorem dX8_openShare_14 : decode cX8_openShare 14 = .ok (.ldc 177, 2) := by decide +kernel
theorem dX8_openShare_16 : decode cX8_openShare 16 = .ok (.invokespecial 171, 3) := by decide +kernel
theorem dX8_openShare_19 : decode cX8_openShare 19 = .ok (.athrow, 1) := by decide +kernel
theorem dX8_openShare_20 : decode cX8_openShare 20 = .ok (.aload_n 0, 1) := by decide +kernel
theorem dX8_openShare_21 : decode cX8_openShare 21 = .ok (.getfield 12, 3) := by decide +kernel
theorem dX8_openShare_24 : decode cX8_openShare 24 = .ok (.getfield 107, 3) := by decide +kernel
theorem dX8_openShare_27 : decode cX8_openShare 27 = .ok (.aload_n 0, 1) := by decide +kernel
theorem dX8_openShare_28 : decode cX8_openShare 28 = .ok (.getfield 12, 3) := by decide +kernel
theorem dX8_openShare_31 : decode cX8_openShare 31 = .ok (.invokevirtual 117, 3) := by decide +kernel
theorem dX8_openShare_34 : decode cX8_openShare 34 = .ok (.isub, 1) := by decide +kernel
theorem dX8_openShare_35 : decode cX8_openShare 35 = .ok (.i2f, 1) := by decide +kernel
theorem dX8_openShare_36 : decode cX8_openShare 36 = .ok (.aload_n 0, 1) := by decide +kernel
theorem dX8_openShare_37 : decode cX8_openShare 37 = .ok (.getfield 12, 3) := by decide +kernel
theorem dX8_openShare_40 : decode cX8_openShare 40 = .ok (.getfield 107, 3) := by decide +kernel
theorem dX8_openShare_43 : decode cX8_openShare 43 = .ok (.i2f, 1) := by decide +kernel
theorem dX8_openShare_44 : decode cX8_openShare 44 = .ok (.fdiv, 1) := by decide +kernel
theorem dX8_openShare_45 : decode cX8_openShare 45 = .ok (.freturn, 1) := by decide +kernel
theorem dX8_turnTotal_0 : decode cX8_turnTotal 0 = .ok (.aload_n 0, 1) := by decide +kernel
theorem dX8_turnTotal_1 : decode cX8_turnTotal 1 = .ok (.getfield 12, 3) := by decide +kernel
theorem dX8_turnTotal_4 : decode cX8_turnTotal 4 = .ok (.getfield 179, 3) := by decide +kernel
theorem dX8_turnTotal_7 : decode cX8_turnTotal 7 = .ok (.ireturn, 1) := by decide +kernel
theorem dX8_turnsOf_0 : decode cX8_turnsOf 0 = .ok (.aload_n 0, 1) := by decide +kernel
theorem dX8_turnsOf_1 : decode cX8_turnsOf 1 = .ok (.iload_n 1, 1) := by decide +kernel
theorem dX8_turnsOf_2 : decode cX8_turnsOf 2 = .ok (.invokevirtual 79, 3) := by decide +kernel
theorem dX8_turnsOf_5 : decode cX8_turnsOf 5 = .ok (.aload_n 0, 1) := by decide +kernel
theorem dX8_turnsOf_6 : decode cX8_turnsOf 6 = .ok (.getfield 12, 3) := by decide +kernel
theorem dX8_turnsOf_9 : decode cX8_turnsOf 9 = .ok (.getfield 182, 3) := by decide +kernel
theorem dX8_turnsOf_12 : decode cX8_turnsOf 12 = .ok (.iload_n 1, 1) := by decide +kernel
theorem dX8_turnsOf_13 : decode cX8_turnsOf 13 = .ok (.iaload, 1) := by decide +kernel
theorem dX8_turnsOf_14 : decode cX8_turnsOf 14 = .ok (.ireturn, 1) := by decide +kernel
theorem dX8_moved_0 : decode cX8_moved 0 = .ok (.aload_n 0, 1) := by decide +kernel
theorem dX8_moved_1 : decode cX8_moved 1 = .ok (.getfield 12, 3) := by decide +kernel
theorem dX8_moved_4 : decode cX8_moved 4 = .ok (.getfield 185, 3) := by decide +kernel
theorem dX8_moved_7 : decode cX8_moved 7 = .ok (.ireturn, 1) := by decide +kernel
theorem dX8_feed_0 : decode cX8_feed 0 = .ok (.aload_n 0, 1) := by decide +kernel
theorem dX8_feed_1 : decode cX8_feed 1 = .ok (.getfield 57, 3) := by decide +kernel
theorem dX8_feed_4 : decode cX8_feed 4 = .ok (.invokevirtual 188, 3) := by decide +kernel
theorem dX8_feed_7 : decode cX8_feed 7 = .ok (.ifCond .ne 13, 3) := by decide +kernel
theorem dX8_feed_10 : decode cX8_feed 10 = .ok (.new 191, 3) := by decide +kernel
theorem dX8_feed_13 : decode cX8_feed 13 = .ok (.dup, 1) := by decide +kernel
theorem dX8_feed_14 : decode cX8_feed 14 = .ok (.ldc 193, 2) := by decide +kernel
theorem dX8_feed_16 : decode cX8_feed 16 = .ok (.invokespecial 195, 3) := by decide +kernel
theorem dX8_feed_19 : decode cX8_feed 19 = .ok (.athrow, 1) := by decide +kernel
theorem dX8_feed_20 : decode cX8_feed 20 = .ok (.aload_n 0, 1) := by decide +kernel
theorem dX8_feed_21 : decode cX8_feed 21 = .ok (.getfield 57, 3) := by decide +kernel
theorem dX8_feed_24 : decode cX8_feed 24 = .ok (.iload_n 1, 1) := by decide +kernel
theorem dX8_feed_25 : decode cX8_feed 25 = .ok (.invokevirtual 196, 3) := by decide +kernel
theorem dX8_feed_28 : decode cX8_feed 28 = .ok (.aload_n 0, 1) := by decide +kernel
theorem dX8_feed_29 : decode cX8_feed 29 = .ok (.getfield 57, 3) := by decide +kernel
theorem dX8_feed_32 : decode cX8_feed 32 = .ok (.getfield 200, 3) := by decide +kernel
theorem dX8_feed_35 : decode cX8_feed 35 = .ok (.ireturn, 1) := by decide +kernel
theorem dX8_execute_0 : decode cX8_execute 0 = .ok (.aload_n 0, 1) := by decide +kernel
theorem dX8_execute_1 : decode cX8_execute 1 = .ok (.getfield 57, 3) := by decide +kernel
theorem dX8_execute_4 : decode cX8_execute 4 = .ok (.invokevirtual 203, 3) := by decide +kernel
theorem dX8_execute_7 : decode cX8_execute 7 = .ok (.istore_n 1, 1) := by decide +kernel
theorem dX8_execute_8 : decode cX8_execute 8 = .ok (.aload_n 0, 1) := by decide +kernel
theorem dX8_execute_9 : decode cX8_execute 9 = .ok (.getfield 57, 3) := by decide +kernel
theorem dX8_execute_12 : decode cX8_execute 12 = .ok (.invokevirtual 206, 3) := by decide +kernel
theorem dX8_execute_15 : decode cX8_execute 15 = .ok (.iload_n 1, 1) := by decide +kernel
theorem dX8_execute_16 : decode cX8_execute 16 = .ok (.ifCond .ne 24, 3) := by decide +kernel
theorem dX8_execute_19 : decode cX8_execute 19 = .ok (.aload_n 0, 1) := by decide +kernel
theorem dX8_execute_20 : decode cX8_execute 20 = .ok (.aload_n 0, 1) := by decide +kernel
theorem dX8_execute_21 : decode cX8_execute 21 = .ok (.getfield 57, 3) := by decide +kernel
theorem dX8_execute_24 : decode cX8_execute 24 = .ok (.getfield 209, 3) := by decide +kernel
theorem dX8_execute_27 : decode cX8_execute 27 = .ok (.putfield 68, 3) := by decide +kernel
theorem dX8_execute_30 : decode cX8_execute 30 = .ok (.new 212, 3) := by decide +kernel
theorem dX8_execute_33 : decode cX8_execute 33 = .ok (.dup, 1) := by decide +kernel
theorem dX8_execute_34 : decode cX8_execute 34 = .ok (.ldc 214, 2) := by decide +kernel
theorem dX8_execute_36 : decode cX8_execute 36 = .ok (.invokespecial 216, 3) := by decide +kernel
theorem dX8_execute_39 : decode cX8_execute 39 = .ok (.athrow, 1) := by decide +kernel
theorem dX8_execute_40 : decode cX8_execute 40 = .ok (.aload_n 0, 1) := by decide +kernel
theorem dX8_execute_41 : decode cX8_execute 41 = .ok (.getfield 48, 3) := by decide +kernel
theorem dX8_execute_44 : decode cX8_execute 44 = .ok (.aload_n 0, 1) := by decide +kernel
theorem dX8_execute_45 : decode cX8_execute 45 = .ok (.getfield 12, 3) := by decide +kernel
theorem dX8_execute_48 : decode cX8_execute 48 = .ok (.invokevirtual 217, 3) := by decide +kernel
theorem dX8_execute_51 : decode cX8_execute 51 = .ok (.iconst 0, 1) := by decide +kernel
theorem dX8_execute_52 : decode cX8_execute 52 = .ok (.istore_n 2, 1) := by decide +kernel
theorem dX8_execute_53 : decode cX8_execute 53 = .ok (.iload_n 2, 1) := by decide +kernel
theorem dX8_execute_54 : decode cX8_execute 54 = .ok (.aload_n 0, 1) := by decide +kernel
theorem dX8_execute_55 : decode cX8_execute 55 = .ok (.getfield 57, 3) := by decide +kernel
theorem dX8_execute_58 : decode cX8_execute 58 = .ok (.getfield 220, 3) := by decide +kernel
theorem dX8_execute_61 : decode cX8_execute 61 = .ok (.if_icmp .ge 102, 3) := by decide +kernel
theorem dX8_execute_64 : decode cX8_execute 64 = .ok (.aload_n 0, 1) := by decide +kernel
theorem dX8_execute_65 : decode cX8_execute 65 = .ok (.getfield 57, 3) := by decide +kernel
theorem dX8_execute_68 : decode cX8_execute 68 = .ok (.getfield 223, 3) := by decide +kernel
theorem dX8_execute_71 : decode cX8_execute 71 = .ok (.iload_n 2, 1) := by decide +kernel
theorem dX8_execute_72 : decode cX8_execute 72 = .ok (.aaload, 1) := by decide +kernel
theorem dX8_execute_73 : decode cX8_execute 73 = .ok (.astore_n 3, 1) := by decide +kernel
theorem dX8_execute_74 : decode cX8_execute 74 = .ok (.aload_n 0, 1) := by decide +kernel
theorem dX8_execute_75 : decode cX8_execute 75 = .ok (.getfield 37, 3) := by decide +kernel
theorem dX8_execute_78 : decode cX8_execute 78 = .ok (.aload_n 3, 1) := by decide +kernel
theorem dX8_execute_79 : decode cX8_execute 79 = .ok (.getfield 227, 3) := by decide +kernel
theorem dX8_execute_82 : decode cX8_execute 82 = .ok (.aload_n 3, 1) := by decide +kernel
theorem dX8_execute_83 : decode cX8_execute 83 = .ok (.getfield 232, 3) := by decide +kernel
theorem dX8_execute_86 : decode cX8_execute 86 = .ok (.aload_n 3, 1) := by decide +kernel
theorem dX8_execute_87 : decode cX8_execute 87 = .ok (.getfield 235, 3) := by decide +kernel
theorem dX8_execute_90 : decode cX8_execute 90 = .ok (.invokevirtual 238, 3) := by decide +kernel
theorem dX8_execute_93 : decode cX8_execute 93 = .ok (.istore 4, 2) := by decide +kernel
theorem dX8_execute_95 : decode cX8_execute 95 = .ok (.iload 4, 2) := by decide +kernel
theorem dX8_execute_97 : decode cX8_execute 97 = .ok (.ifCond .eq 36, 3) := by decide +kernel
theorem dX8_execute_100 : decode cX8_execute 100 = .ok (.aload_n 0, 1) := by decide +kernel
theorem dX8_execute_101 : decode cX8_execute 101 = .ok (.getfield 12, 3) := by decide +kernel
theorem dX8_execute_104 : decode cX8_execute 104 = .ok (.aload_n 0, 1) := by decide +kernel
theorem dX8_execute_105 : decode cX8_execute 105 = .ok (.getfield 48, 3) := by decide +kernel
theorem dX8_execute_108 : decode cX8_execute 108 = .ok (.invokevirtual 217, 3) := by decide +kernel
theorem dX8_execute_111 : decode cX8_execute 111 = .ok (.aload_n 0, 1) := by decide +kernel
theorem dX8_execute_112 : decode cX8_execute 112 = .ok (.bipush 6, 2) := by decide +kernel
theorem dX8_execute_114 : decode cX8_execute 114 = .ok (.iload_n 2, 1) := by decide +kernel
theorem dX8_execute_115 : decode cX8_execute 115 = .ok (.iload 4, 2) := by decide +kernel
theorem dX8_execute_117 : decode cX8_execute 117 = .ok (.invokestatic 242, 3) := by decide +kernel
theorem dX8_execute_120 : decode cX8_execute 120 = .ok (.invokevirtual 245, 3) := by decide +kernel
theorem dX8_execute_123 : decode cX8_execute 123 = .ok (.new 249, 3) := by decide +kernel
theorem dX8_execute_126 : decode cX8_execute 126 = .ok (.dup, 1) := by decide +kernel
theorem dX8_execute_127 : decode cX8_execute 127 = .ok (.ldc 251, 2) := by decide +kernel
theorem dX8_execute_129 : decode cX8_execute 129 = .ok (.invokespecial 253, 3) := by decide +kernel
theorem dX8_execute_132 : decode cX8_execute 132 = .ok (.athrow, 1) := by decide +kernel
theorem dX8_execute_133 : decode cX8_execute 133 = .ok (.aload_n 0, 1) := by decide +kernel
theorem dX8_execute_134 : decode cX8_execute 134 = .ok (.getfield 37, 3) := by decide +kernel
theorem dX8_execute_137 : decode cX8_execute 137 = .ok (.aload_n 3, 1) := by decide +kernel
theorem dX8_execute_138 : decode cX8_execute 138 = .ok (.getfield 227, 3) := by decide +kernel
theorem dX8_execute_141 : decode cX8_execute 141 = .ok (.aload_n 3, 1) := by decide +kernel
theorem dX8_execute_142 : decode cX8_execute 142 = .ok (.getfield 232, 3) := by decide +kernel
theorem dX8_execute_145 : decode cX8_execute 145 = .ok (.aload_n 3, 1) := by decide +kernel
theorem dX8_execute_146 : decode cX8_execute 146 = .ok (.getfield 235, 3) := by decide +kernel
theorem dX8_execute_149 : decode cX8_execute 149 = .ok (.aload_n 3, 1) := by decide +kernel
theorem dX8_execute_150 : decode cX8_execute 150 = .ok (.getfield 254, 3) := by decide +kernel
theorem dX8_execute_153 : decode cX8_execute 153 = .ok (.invokevirtual 257, 3) := by decide +kernel
theorem dX8_execute_156 : decode cX8_execute 156 = .ok (.pop, 1) := by decide +kernel
theorem dX8_execute_157 : decode cX8_execute 157 = .ok (.iinc 2 1, 3) := by decide +kernel
theorem dX8_execute_160 : decode cX8_execute 160 = .ok (.goto (-107), 3) := by decide +kernel
theorem dX8_execute_163 : decode cX8_execute 163 = .ok (.aload_n 0, 1) := by decide +kernel
theorem dX8_execute_164 : decode cX8_execute 164 = .ok (.getfield 44, 3) := by decide +kernel
theorem dX8_execute_167 : decode cX8_execute 167 = .ok (.aload_n 0, 1) := by decide +kernel
theorem dX8_execute_168 : decode cX8_execute 168 = .ok (.getfield 48, 3) := by decide +kernel
theorem dX8_execute_171 : decode cX8_execute 171 = .ok (.invokevirtual 260, 3) := by decide +kernel
theorem dX8_execute_174 : decode cX8_execute 174 = .ok (.aload_n 0, 1) := by decide +kernel
theorem dX8_execute_175 : decode cX8_execute 175 = .ok (.getfield 57, 3) := by decide +kernel
theorem dX8_execute_178 : decode cX8_execute 178 = .ok (.getfield 220, 3) := by decide +kernel
theorem dX8_execute_181 : decode cX8_execute 181 = .ok (.ireturn, 1) := by decide +kernel
theorem dX8_faultPosition_0 : decode cX8_faultPosition 0 = .ok (.aload_n 0, 1) := by decide +kernel
theorem dX8_faultPosition_1 : decode cX8_faultPosition 1 = .ok (.getfield 68, 3) := by decide +kernel
theorem dX8_faultPosition_4 : decode cX8_faultPosition 4 = .ok (.invokestatic 101, 3) := by decide +kernel
theorem dX8_faultPosition_7 : decode cX8_faultPosition 7 = .ok (.ireturn, 1) := by decide +kernel
theorem dX8_writeMagnet_0 : decode cX8_writeMagnet 0 = .ok (.aload_n 0, 1) := by decide +kernel
theorem dX8_writeMagnet_1 : decode cX8_writeMagnet 1 = .ok (.iload_n 1, 1) := by decide +kernel
theorem dX8_writeMagnet_2 : decode cX8_writeMagnet 2 = .ok (.invokevirtual 79, 3) := by decide +kernel
theorem dX8_writeMagnet_5 : decode cX8_writeMagnet 5 = .ok (.aload_n 0, 1) := by decide +kernel
theorem dX8_writeMagnet_6 : decode cX8_writeMagnet 6 = .ok (.getfield 64, 3) := by decide +kernel
theorem dX8_writeMagnet_9 : decode cX8_writeMagnet 9 = .ok (.aload_n 0, 1) := by decide +kernel
theorem dX8_writeMagnet_10 : decode cX8_writeMagnet 10 = .ok (.getfield 12, 3) := by decide +kernel
theorem dX8_writeMagnet_13 : decode cX8_writeMagnet 13 = .ok (.iload_n 1, 1) := by decide +kernel
theorem dX8_writeMagnet_14 : decode cX8_writeMagnet 14 = .ok (.invokevirtual 263, 3) := by decide +kernel
theorem dX8_writeMagnet_17 : decode cX8_writeMagnet 17 = .ok (.aload_n 0, 1) := by decide +kernel
theorem dX8_writeMagnet_18 : decode cX8_writeMagnet 18 = .ok (.getfield 64, 3) := by decide +kernel
theorem dX8_writeMagnet_21 : decode cX8_writeMagnet 21 = .ok (.getfield 267, 3) := by decide +kernel
theorem dX8_writeMagnet_24 : decode cX8_writeMagnet 24 = .ok (.ireturn, 1) := by decide +kernel
theorem dX8_lineCharacter_0 : decode cX8_lineCharacter 0 = .ok (.iload_n 1, 1) := by decide +kernel
theorem dX8_lineCharacter_1 : decode cX8_lineCharacter 1 = .ok (.ifCond .lt 14, 3) := by decide +kernel
theorem dX8_lineCharacter_4 : decode cX8_lineCharacter 4 = .ok (.iload_n 1, 1) := by decide +kernel
theorem dX8_lineCharacter_5 : decode cX8_lineCharacter 5 = .ok (.aload_n 0, 1) := by decide +kernel
theorem dX8_lineCharacter_6 : decode cX8_lineCharacter 6 = .ok (.getfield 64, 3) := by decide +kernel
theorem dX8_lineCharacter_9 : decode cX8_lineCharacter 9 = .ok (.getfield 267, 3) := by decide +kernel
theorem dX8_lineCharacter_12 : decode cX8_lineCharacter 12 = .ok (.if_icmp .lt 14, 3) := by decide +kernel
theorem dX8_lineCharacter_15 : decode cX8_lineCharacter 15 = .ok (.new 268, 3) := by decide +kernel
theorem dX8_lineCharacter_18 : decode cX8_lineCharacter 18 = .ok (.dup, 1) := by decide +kernel
theorem dX8_lineCharacter_19 : decode cX8_lineCharacter 19 = .ok (.ldc_w 270, 3) := by decide +kernel
theorem dX8_lineCharacter_22 : decode cX8_lineCharacter 22 = .ok (.invokespecial 272, 3) := by decide +kernel
theorem dX8_lineCharacter_25 : decode cX8_lineCharacter 25 = .ok (.athrow, 1) := by decide +kernel
theorem dX8_lineCharacter_26 : decode cX8_lineCharacter 26 = .ok (.aload_n 0, 1) := by decide +kernel
theorem dX8_lineCharacter_27 : decode cX8_lineCharacter 27 = .ok (.getfield 64, 3) := by decide +kernel
theorem dX8_lineCharacter_30 : decode cX8_lineCharacter 30 = .ok (.getfield 273, 3) := by decide +kernel
theorem dX8_lineCharacter_33 : decode cX8_lineCharacter 33 = .ok (.iload_n 1, 1) := by decide +kernel
theorem dX8_lineCharacter_34 : decode cX8_lineCharacter 34 = .ok (.caload, 1) := by decide +kernel
theorem dX8_lineCharacter_35 : decode cX8_lineCharacter 35 = .ok (.ireturn, 1) := by decide +kernel
theorem dX8_denial_0 : decode cX8_denial 0 = .ok (.aload_n 0, 1) := by decide +kernel
theorem dX8_denial_1 : decode cX8_denial 1 = .ok (.invokevirtual 277, 3) := by decide +kernel
theorem dX8_denial_4 : decode cX8_denial 4 = .ok (.aload_n 0, 1) := by decide +kernel
theorem dX8_denial_5 : decode cX8_denial 5 = .ok (.getfield 280, 3) := by decide +kernel
theorem dX8_denial_8 : decode cX8_denial 8 = .ok (.ireturn, 1) := by decide +kernel
theorem dX8_denialDetail_0 : decode cX8_denialDetail 0 = .ok (.aload_n 0, 1) := by decide +kernel
theorem dX8_denialDetail_1 : decode cX8_denialDetail 1 = .ok (.invokevirtual 277, 3) := by decide +kernel
theorem dX8_denialDetail_4 : decode cX8_denialDetail 4 = .ok (.aload_n 0, 1) := by decide +kernel
theorem dX8_denialDetail_5 : decode cX8_denialDetail 5 = .ok (.getfield 283, 3) := by decide +kernel
theorem dX8_denialDetail_8 : decode cX8_denialDetail 8 = .ok (.ireturn, 1) := by decide +kernel
theorem dX8_denialCause_0 : decode cX8_denialCause 0 = .ok (.aload_n 0, 1) := by decide +kernel
theorem dX8_denialCause_1 : decode cX8_denialCause 1 = .ok (.getfield 286, 3) := by decide +kernel
theorem dX8_denialCause_4 : decode cX8_denialCause 4 = .ok (.ifCond .ne 14, 3) := by decide +kernel
theorem dX8_denialCause_7 : decode cX8_denialCause 7 = .ok (.new 289, 3) := by decide +kernel
theorem dX8_denialCause_10 : decode cX8_denialCause 10 = .ok (.dup, 1) := by decide +kernel
theorem dX8_denialCause_11 : decode cX8_denialCause 11 = .ok (.ldc_w 291, 3) := by decide +kernel
theorem dX8_denialCause_14 : decode cX8_denialCause 14 = .ok (.invokespecial 293, 3) := by decide +kernel
theorem dX8_denialCause_17 : decode cX8_denialCause 17 = .ok (.athrow, 1) := by decide +kernel
theorem dX8_denialCause_18 : decode cX8_denialCause 18 = .ok (.aload_n 0, 1) := by decide +kernel
theorem dX8_denialCause_19 : decode cX8_denialCause 19 = .ok (.getfield 286, 3) := by decide +kernel
theorem dX8_denialCause_22 : decode cX8_denialCause 22 = .ok (.ireturn, 1) := by decide +kernel
theorem dX8_undo_0 : decode cX8_undo 0 = .ok (.aload_n 0, 1) := by decide +kernel
theorem dX8_undo_1 : decode cX8_undo 1 = .ok (.getfield 44, 3) := by decide +kernel
theorem dX8_undo_4 : decode cX8_undo 4 = .ok (.getfield 294, 3) := by decide +kernel
theorem dX8_undo_7 : decode cX8_undo 7 = .ok (.ifCond .ne 14, 3) := by decide +kernel
theorem dX8_undo_10 : decode cX8_undo 10 = .ok (.new 191, 3) := by decide +kernel
theorem dX8_undo_13 : decode cX8_undo 13 = .ok (.dup, 1) := by decide +kernel
theorem dX8_undo_14 : decode cX8_undo 14 = .ok (.ldc_w 297, 3) := by decide +kernel
theorem dX8_undo_17 : decode cX8_undo 17 = .ok (.invokespecial 195, 3) := by decide +kernel
theorem dX8_undo_20 : decode cX8_undo 20 = .ok (.athrow, 1) := by decide +kernel
theorem dX8_undo_21 : decode cX8_undo 21 = .ok (.aload_n 0, 1) := by decide +kernel
theorem dX8_undo_22 : decode cX8_undo 22 = .ok (.getfield 44, 3) := by decide +kernel
theorem dX8_undo_25 : decode cX8_undo 25 = .ok (.aload_n 0, 1) := by decide +kernel
theorem dX8_undo_26 : decode cX8_undo 26 = .ok (.getfield 12, 3) := by decide +kernel
theorem dX8_undo_29 : decode cX8_undo 29 = .ok (.invokevirtual 299, 3) := by decide +kernel
theorem dX8_undo_32 : decode cX8_undo 32 = .ok (.aload_n 0, 1) := by decide +kernel
theorem dX8_undo_33 : decode cX8_undo 33 = .ok (.getfield 44, 3) := by decide +kernel
theorem dX8_undo_36 : decode cX8_undo 36 = .ok (.getfield 294, 3) := by decide +kernel
theorem dX8_undo_39 : decode cX8_undo 39 = .ok (.ireturn, 1) := by decide +kernel
theorem dX8_undoCount_0 : decode cX8_undoCount 0 = .ok (.aload_n 0, 1) := by decide +kernel
theorem dX8_undoCount_1 : decode cX8_undoCount 1 = .ok (.getfield 44, 3) := by decide +kernel
theorem dX8_undoCount_4 : decode cX8_undoCount 4 = .ok (.getfield 294, 3) := by decide +kernel
theorem dX8_undoCount_7 : decode cX8_undoCount 7 = .ok (.ireturn, 1) := by decide +kernel
theorem dX8_saveSnapshot_0 : decode cX8_saveSnapshot 0 = .ok (.aload_n 0, 1) := by decide +kernel
theorem dX8_saveSnapshot_1 : decode cX8_saveSnapshot 1 = .ok (.getfield 51, 3) := by decide +kernel
theorem dX8_saveSnapshot_4 : decode cX8_saveSnapshot 4 = .ok (.aload_n 0, 1) := by decide +kernel
theorem dX8_saveSnapshot_5 : decode cX8_saveSnapshot 5 = .ok (.getfield 12, 3) := by decide +kernel
theorem dX8_saveSnapshot_8 : decode cX8_saveSnapshot 8 = .ok (.invokevirtual 217, 3) := by decide +kernel
theorem dX8_saveSnapshot_11 : decode cX8_saveSnapshot 11 = .ok (.aload_n 0, 1) := by decide +kernel
theorem dX8_saveSnapshot_12 : decode cX8_saveSnapshot 12 = .ok (.iconst 1, 1) := by decide +kernel
theorem dX8_saveSnapshot_13 : decode cX8_saveSnapshot 13 = .ok (.putfield 302, 3) := by decide +kernel
theorem dX8_saveSnapshot_16 : decode cX8_saveSnapshot 16 = .ok (.aload_n 0, 1) := by decide +kernel
theorem dX8_saveSnapshot_17 : decode cX8_saveSnapshot 17 = .ok (.getfield 12, 3) := by decide +kernel
theorem dX8_saveSnapshot_20 : decode cX8_saveSnapshot 20 = .ok (.getfield 76, 3) := by decide +kernel
theorem dX8_saveSnapshot_23 : decode cX8_saveSnapshot 23 = .ok (.ireturn, 1) := by decide +kernel
theorem dX8_restoreSnapshot_0 : decode cX8_restoreSnapshot 0 = .ok (.aload_n 0, 1) := by decide +kernel
theorem dX8_restoreSnapshot_1 : decode cX8_restoreSnapshot 1 = .ok (.getfield 302, 3) := by decide +kernel
theorem dX8_restoreSnapshot_4 : decode cX8_restoreSnapshot 4 = .ok (.ifCond .ne 14, 3) := by decide +kernel
theorem dX8_restoreSnapshot_7 : decode cX8_restoreSnapshot 7 = .ok (.new 191, 3) := by decide +kernel
theorem dX8_restoreSnapshot_10 : decode cX8_restoreSnapshot 10 = .ok (.dup, 1) := by decide +kernel
theorem dX8_restoreSnapshot_11 : decode cX8_restoreSnapshot 11 = .ok (.ldc_w 306, 3) := by decide +kernel
theorem dX8_restoreSnapshot_14 : decode cX8_restoreSnapshot 14 = .ok (.invokespecial 195, 3) := by decide +kernel
theorem dX8_restoreSnapshot_17 : decode cX8_restoreSnapshot 17 = .ok (.athrow, 1) := by decide +kernel
theorem dX8_restoreSnapshot_18 : decode cX8_restoreSnapshot 18 = .ok (.aload_n 0, 1) := by decide +kernel
theorem dX8_restoreSnapshot_19 : decode cX8_restoreSnapshot 19 = .ok (.getfield 12, 3) := by decide +kernel
theorem dX8_restoreSnapshot_22 : decode cX8_restoreSnapshot 22 = .ok (.aload_n 0, 1) := by decide +kernel
theorem dX8_restoreSnapshot_23 : decode cX8_restoreSnapshot 23 = .ok (.getfield 51, 3) := by decide +kernel
theorem dX8_restoreSnapshot_26 : decode cX8_restoreSnapshot 26 = .ok (.invokevirtual 217, 3) := by decide +kernel
theorem dX8_restoreSnapshot_29 : decode cX8_restoreSnapshot 29 = .ok (.aload_n 0, 1) := by decide +kernel
theorem dX8_restoreSnapshot_30 : decode cX8_restoreSnapshot 30 = .ok (.getfield 44, 3) := by decide +kernel
theorem dX8_restoreSnapshot_33 : decode cX8_restoreSnapshot 33 = .ok (.invokevirtual 308, 3) := by decide +kernel
theorem dX8_restoreSnapshot_36 : decode cX8_restoreSnapshot 36 = .ok (.aload_n 0, 1) := by decide +kernel
theorem dX8_restoreSnapshot_37 : decode cX8_restoreSnapshot 37 = .ok (.getfield 12, 3) := by decide +kernel
theorem dX8_restoreSnapshot_40 : decode cX8_restoreSnapshot 40 = .ok (.getfield 76, 3) := by decide +kernel
theorem dX8_restoreSnapshot_43 : decode cX8_restoreSnapshot 43 = .ok (.ireturn, 1) := by decide +kernel
theorem dX8_change_0 : decode cX8_change 0 = .ok (.aload_n 0, 1) := by decide +kernel
theorem dX8_change_1 : decode cX8_change 1 = .ok (.getfield 37, 3) := by decide +kernel
theorem dX8_change_4 : decode cX8_change 4 = .ok (.iload_n 1, 1) := by decide +kernel
theorem dX8_change_5 : decode cX8_change 5 = .ok (.iload_n 2, 1) := by decide +kernel
theorem dX8_change_6 : decode cX8_change 6 = .ok (.iload_n 3, 1) := by decide +kernel
theorem dX8_change_7 : decode cX8_change 7 = .ok (.invokevirtual 238, 3) := by decide +kernel
theorem dX8_change_10 : decode cX8_change 10 = .ok (.istore 5, 2) := by decide +kernel
theorem dX8_change_12 : decode cX8_change 12 = .ok (.iload 5, 2) := by decide +kernel
theorem dX8_change_14 : decode cX8_change 14 = .ok (.ifCond .eq 9, 3) := by decide +kernel
theorem dX8_change_17 : decode cX8_change 17 = .ok (.aload_n 0, 1) := by decide +kernel
theorem dX8_change_18 : decode cX8_change 18 = .ok (.iload 5, 2) := by decide +kernel
theorem dX8_change_20 : decode cX8_change 20 = .ok (.invokevirtual 311, 3) := by decide +kernel
theorem dX8_change_23 : decode cX8_change 23 = .ok (.aload_n 0, 1) := by decide +kernel
theorem dX8_change_24 : decode cX8_change 24 = .ok (.getfield 44, 3) := by decide +kernel
theorem dX8_change_27 : decode cX8_change 27 = .ok (.aload_n 0, 1) := by decide +kernel
theorem dX8_change_28 : decode cX8_change 28 = .ok (.getfield 12, 3) := by decide +kernel
theorem dX8_change_31 : decode cX8_change 31 = .ok (.invokevirtual 260, 3) := by decide +kernel
theorem dX8_change_34 : decode cX8_change 34 = .ok (.aload_n 0, 1) := by decide +kernel
theorem dX8_change_35 : decode cX8_change 35 = .ok (.getfield 37, 3) := by decide +kernel
theorem dX8_change_38 : decode cX8_change 38 = .ok (.iload_n 1, 1) := by decide +kernel
theorem dX8_change_39 : decode cX8_change 39 = .ok (.iload_n 2, 1) := by decide +kernel
theorem dX8_change_40 : decode cX8_change 40 = .ok (.iload_n 3, 1) := by decide +kernel
theorem dX8_change_41 : decode cX8_change 41 = .ok (.iload 4, 2) := by decide +kernel
theorem dX8_change_43 : decode cX8_change 43 = .ok (.invokevirtual 257, 3) := by decide +kernel
theorem dX8_change_46 : decode cX8_change 46 = .ok (.ireturn, 1) := by decide +kernel
theorem dX8_refuse_0 : decode cX8_refuse 0 = .ok (.iload_n 1, 1) := by decide +kernel
theorem dX8_refuse_1 : decode cX8_refuse 1 = .ok (.bipush 8, 2) := by decide +kernel
theorem dX8_refuse_3 : decode cX8_refuse 3 = .ok (.if_icmp .ne 14, 3) := by decide +kernel
theorem dX8_refuse_6 : decode cX8_refuse 6 = .ok (.new 268, 3) := by decide +kernel
theorem dX8_refuse_9 : decode cX8_refuse 9 = .ok (.dup, 1) := by decide +kernel
theorem dX8_refuse_10 : decode cX8_refuse 10 = .ok (.ldc_w 314, 3) := by decide +kernel
theorem dX8_refuse_13 : decode cX8_refuse 13 = .ok (.invokespecial 272, 3) := by decide +kernel
theorem dX8_refuse_16 : decode cX8_refuse 16 = .ok (.athrow, 1) := by decide +kernel
theorem dX8_refuse_17 : decode cX8_refuse 17 = .ok (.iload_n 1, 1) := by decide +kernel
theorem dX8_refuse_18 : decode cX8_refuse 18 = .ok (.bipush 9, 2) := by decide +kernel
theorem dX8_refuse_20 : decode cX8_refuse 20 = .ok (.if_icmp .ne 14, 3) := by decide +kernel
theorem dX8_refuse_23 : decode cX8_refuse 23 = .ok (.new 212, 3) := by decide +kernel
theorem dX8_refuse_26 : decode cX8_refuse 26 = .ok (.dup, 1) := by decide +kernel
theorem dX8_refuse_27 : decode cX8_refuse 27 = .ok (.ldc_w 316, 3) := by decide +kernel
theorem dX8_refuse_30 : decode cX8_refuse 30 = .ok (.invokespecial 216, 3) := by decide +kernel
theorem dX8_refuse_33 : decode cX8_refuse 33 = .ok (.athrow, 1) := by decide +kernel
theorem dX8_refuse_34 : decode cX8_refuse 34 = .ok (.aload_n 0, 1) := by decide +kernel
theorem dX8_refuse_35 : decode cX8_refuse 35 = .ok (.iload_n 1, 1) := by decide +kernel
theorem dX8_refuse_36 : decode cX8_refuse 36 = .ok (.aload_n 0, 1) := by decide +kernel
theorem dX8_refuse_37 : decode cX8_refuse 37 = .ok (.getfield 37, 3) := by decide +kernel
theorem dX8_refuse_40 : decode cX8_refuse 40 = .ok (.getfield 318, 3) := by decide +kernel
theorem dX8_refuse_43 : decode cX8_refuse 43 = .ok (.iconst 0, 1) := by decide +kernel
theorem dX8_refuse_44 : decode cX8_refuse 44 = .ok (.invokevirtual 245, 3) := by decide +kernel
theorem dX8_refuse_47 : decode cX8_refuse 47 = .ok (.new 249, 3) := by decide +kernel
theorem dX8_refuse_50 : decode cX8_refuse 50 = .ok (.dup, 1) := by decide +kernel
theorem dX8_refuse_51 : decode cX8_refuse 51 = .ok (.ldc_w 321, 3) := by decide +kernel
theorem dX8_refuse_54 : decode cX8_refuse 54 = .ok (.invokespecial 253, 3) := by decide +kernel
theorem dX8_refuse_57 : decode cX8_refuse 57 = .ok (.athrow, 1) := by decide +kernel
theorem dX8_causeOf_0 : decode cX8_causeOf 0 = .ok (.iload_n 0, 1) := by decide +kernel
theorem dX8_causeOf_1 : decode cX8_causeOf 1 = .ok (.bipush 6, 2) := by decide +kernel
theorem dX8_causeOf_3 : decode cX8_causeOf 3 = .ok (.if_icmp .ge 7, 3) := by decide +kernel
theorem dX8_causeOf_6 : decode cX8_causeOf 6 = .ok (.iload_n 0, 1) := by decide +kernel
theorem dX8_causeOf_7 : decode cX8_causeOf 7 = .ok (.goto 5, 3) := by decide +kernel
theorem dX8_causeOf_10 : decode cX8_causeOf 10 = .ok (.bipush 7, 2) := by decide +kernel
theorem dX8_causeOf_12 : decode cX8_causeOf 12 = .ok (.ireturn, 1) := by decide +kernel
theorem dX8_keepDenial_0 : decode cX8_keepDenial 0 = .ok (.aload_n 0, 1) := by decide +kernel
theorem dX8_keepDenial_1 : decode cX8_keepDenial 1 = .ok (.iload_n 1, 1) := by decide +kernel
theorem dX8_keepDenial_2 : decode cX8_keepDenial 2 = .ok (.putfield 280, 3) := by decide +kernel
theorem dX8_keepDenial_5 : decode cX8_keepDenial 5 = .ok (.aload_n 0, 1) := by decide +kernel
theorem dX8_keepDenial_6 : decode cX8_keepDenial 6 = .ok (.iload_n 2, 1) := by decide +kernel
theorem dX8_keepDenial_7 : decode cX8_keepDenial 7 = .ok (.putfield 283, 3) := by decide +kernel
theorem dX8_keepDenial_10 : decode cX8_keepDenial 10 = .ok (.aload_n 0, 1) := by decide +kernel
theorem dX8_keepDenial_11 : decode cX8_keepDenial 11 = .ok (.iload_n 3, 1) := by decide +kernel
theorem dX8_keepDenial_12 : decode cX8_keepDenial 12 = .ok (.putfield 286, 3) := by decide +kernel
theorem dX8_keepDenial_15 : decode cX8_keepDenial 15 = .ok (.return_, 1) := by decide +kernel
theorem dX8_isPosition_0 : decode cX8_isPosition 0 = .ok (.iload_n 0, 1) := by decide +kernel
theorem dX8_isPosition_1 : decode cX8_isPosition 1 = .ok (.ifCond .lt 13, 3) := by decide +kernel
theorem dX8_isPosition_4 : decode cX8_isPosition 4 = .ok (.iload_n 0, 1) := by decide +kernel
theorem dX8_isPosition_5 : decode cX8_isPosition 5 = .ok (.bipush 100, 2) := by decide +kernel
theorem dX8_isPosition_7 : decode cX8_isPosition 7 = .ok (.if_icmp .ge 7, 3) := by decide +kernel
theorem dX8_isPosition_10 : decode cX8_isPosition 10 = .ok (.iconst 1, 1) := by decide +kernel
theorem dX8_isPosition_11 : decode cX8_isPosition 11 = .ok (.goto 4, 3) := by decide +kernel
theorem dX8_isPosition_14 : decode cX8_isPosition 14 = .ok (.iconst 0, 1) := by decide +kernel
theorem dX8_isPosition_15 : decode cX8_isPosition 15 = .ok (.ireturn, 1) := by decide +kernel
theorem dX8_isStrength_0 : decode cX8_isStrength 0 = .ok (.iload_n 0, 1) := by decide +kernel
theorem dX8_isStrength_1 : decode cX8_isStrength 1 = .ok (.iconst 1, 1) := by decide +kernel
theorem dX8_isStrength_2 : decode cX8_isStrength 2 = .ok (.if_icmp .lt 13, 3) := by decide +kernel
theorem dX8_isStrength_5 : decode cX8_isStrength 5 = .ok (.iload_n 0, 1) := by decide +kernel
theorem dX8_isStrength_6 : decode cX8_isStrength 6 = .ok (.bipush 30, 2) := by decide +kernel
theorem dX8_isStrength_8 : decode cX8_isStrength 8 = .ok (.if_icmp .gt 7, 3) := by decide +kernel
theorem dX8_isStrength_11 : decode cX8_isStrength 11 = .ok (.iconst 1, 1) := by decide +kernel
theorem dX8_isStrength_12 : decode cX8_isStrength 12 = .ok (.goto 4, 3) := by decide +kernel
theorem dX8_isStrength_15 : decode cX8_isStrength 15 = .ok (.iconst 0, 1) := by decide +kernel
theorem dX8_isStrength_16 : decode cX8_isStrength 16 = .ok (.ireturn, 1) := by decide +kernel
theorem dX8_isIn_0 : decode cX8_isIn 0 = .ok (.iload_n 0, 1) := by decide +kernel
theorem dX8_isIn_1 : decode cX8_isIn 1 = .ok (.iload_n 1, 1) := by decide +kernel
theorem dX8_isIn_2 : decode cX8_isIn 2 = .ok (.ishr, 1) := by decide +kernel
theorem dX8_isIn_3 : decode cX8_isIn 3 = .ok (.iconst 1, 1) := by decide +kernel
theorem dX8_isIn_4 : decode cX8_isIn 4 = .ok (.iand, 1) := by decide +kernel
theorem dX8_isIn_5 : decode cX8_isIn 5 = .ok (.iconst 1, 1) := by decide +kernel
theorem dX8_isIn_6 : decode cX8_isIn 6 = .ok (.if_icmp .ne 7, 3) := by decide +kernel
theorem dX8_isIn_9 : decode cX8_isIn 9 = .ok (.iconst 1, 1) := by decide +kernel
theorem dX8_isIn_10 : decode cX8_isIn 10 = .ok (.goto 4, 3) := by decide +kernel
theorem dX8_isIn_13 : decode cX8_isIn 13 = .ok (.iconst 0, 1) := by decide +kernel
theorem dX8_isIn_14 : decode cX8_isIn 14 = .ok (.ireturn, 1) := by decide +kernel
theorem dX8_requirePosition_0 : decode cX8_requirePosition 0 = .ok (.iload_n 0, 1) := by decide +kernel
theorem dX8_requirePosition_1 : decode cX8_requirePosition 1 = .ok (.invokestatic 323, 3) := by decide +kernel
theorem dX8_requirePosition_4 : decode cX8_requirePosition 4 = .ok (.ifCond .ne 14, 3) := by decide +kernel
theorem dX8_requirePosition_7 : decode cX8_requirePosition 7 = .ok (.new 212, 3) := by decide +kernel
theorem dX8_requirePosition_10 : decode cX8_requirePosition 10 = .ok (.dup, 1) := by decide +kernel
theorem dX8_requirePosition_11 : decode cX8_requirePosition 11 = .ok (.ldc_w 326, 3) := by decide +kernel
theorem dX8_requirePosition_14 : decode cX8_requirePosition 14 = .ok (.invokespecial 216, 3) := by decide +kernel
theorem dX8_requirePosition_17 : decode cX8_requirePosition 17 = .ok (.athrow, 1) := by decide +kernel
theorem dX8_requirePosition_18 : decode cX8_requirePosition 18 = .ok (.return_, 1) := by decide +kernel
theorem dX8_requireFound_0 : decode cX8_requireFound 0 = .ok (.iload_n 0, 1) := by decide +kernel
theorem dX8_requireFound_1 : decode cX8_requireFound 1 = .ok (.iconst (-1), 1) := by decide +kernel
theorem dX8_requireFound_2 : decode cX8_requireFound 2 = .ok (.if_icmp .ne 14, 3) := by decide +kernel
theorem dX8_requireFound_5 : decode cX8_requireFound 5 = .ok (.new 289, 3) := by decide +kernel
theorem dX8_requireFound_8 : decode cX8_requireFound 8 = .ok (.dup, 1) := by decide +kernel
theorem dX8_requireFound_9 : decode cX8_requireFound 9 = .ok (.ldc_w 328, 3) := by decide +kernel
theorem dX8_requireFound_12 : decode cX8_requireFound 12 = .ok (.invokespecial 293, 3) := by decide +kernel
theorem dX8_requireFound_15 : decode cX8_requireFound 15 = .ok (.athrow, 1) := by decide +kernel
theorem dX8_requireFound_16 : decode cX8_requireFound 16 = .ok (.iload_n 0, 1) := by decide +kernel
theorem dX8_requireFound_17 : decode cX8_requireFound 17 = .ok (.ireturn, 1) := by decide +kernel
theorem dX8_requireMagnet_0 : decode cX8_requireMagnet 0 = .ok (.aload_n 0, 1) := by decide +kernel
theorem dX8_requireMagnet_1 : decode cX8_requireMagnet 1 = .ok (.getfield 12, 3) := by decide +kernel
theorem dX8_requireMagnet_4 : decode cX8_requireMagnet 4 = .ok (.iload_n 1, 1) := by decide +kernel
theorem dX8_requireMagnet_5 : decode cX8_requireMagnet 5 = .ok (.invokevirtual 330, 3) := by decide +kernel
theorem dX8_requireMagnet_8 : decode cX8_requireMagnet 8 = .ok (.ifCond .ne 14, 3) := by decide +kernel
theorem dX8_requireMagnet_11 : decode cX8_requireMagnet 11 = .ok (.new 268, 3) := by decide +kernel
theorem dX8_requireMagnet_14 : decode cX8_requireMagnet 14 = .ok (.dup, 1) := by decide +kernel
theorem dX8_requireMagnet_15 : decode cX8_requireMagnet 15 = .ok (.ldc_w 333, 3) := by decide +kernel
theorem dX8_requireMagnet_18 : decode cX8_requireMagnet 18 = .ok (.invokespecial 272, 3) := by decide +kernel
theorem dX8_requireMagnet_21 : decode cX8_requireMagnet 21 = .ok (.athrow, 1) := by decide +kernel
theorem dX8_requireMagnet_22 : decode cX8_requireMagnet 22 = .ok (.return_, 1) := by decide +kernel
theorem dX8_requireTunnel_0 : decode cX8_requireTunnel 0 = .ok (.aload_n 0, 1) := by decide +kernel
theorem dX8_requireTunnel_1 : decode cX8_requireTunnel 1 = .ok (.getfield 12, 3) := by decide +kernel
theorem dX8_requireTunnel_4 : decode cX8_requireTunnel 4 = .ok (.iload_n 1, 1) := by decide +kernel
theorem dX8_requireTunnel_5 : decode cX8_requireTunnel 5 = .ok (.invokevirtual 335, 3) := by decide +kernel
theorem dX8_requireTunnel_8 : decode cX8_requireTunnel 8 = .ok (.ifCond .ne 14, 3) := by decide +kernel
theorem dX8_requireTunnel_11 : decode cX8_requireTunnel 11 = .ok (.new 268, 3) := by decide +kernel
theorem dX8_requireTunnel_14 : decode cX8_requireTunnel 14 = .ok (.dup, 1) := by decide +kernel
theorem dX8_requireTunnel_15 : decode cX8_requireTunnel 15 = .ok (.ldc_w 338, 3) := by decide +kernel
theorem dX8_requireTunnel_18 : decode cX8_requireTunnel 18 = .ok (.invokespecial 272, 3) := by decide +kernel
theorem dX8_requireTunnel_21 : decode cX8_requireTunnel 21 = .ok (.athrow, 1) := by decide +kernel
theorem dX8_requireTunnel_22 : decode cX8_requireTunnel 22 = .ok (.return_, 1) := by decide +kernel
theorem dX8_requireDenial_0 : decode cX8_requireDenial 0 = .ok (.aload_n 0, 1) := by decide +kernel
theorem dX8_requireDenial_1 : decode cX8_requireDenial 1 = .ok (.getfield 280, 3) := by decide +kernel
theorem dX8_requireDenial_4 : decode cX8_requireDenial 4 = .ok (.ifCond .ne 14, 3) := by decide +kernel
theorem dX8_requireDenial_7 : decode cX8_requireDenial 7 = .ok (.new 289, 3) := by decide +kernel
theorem dX8_requireDenial_10 : decode cX8_requireDenial 10 = .ok (.dup, 1) := by decide +kernel
theorem dX8_requireDenial_11 : decode cX8_requireDenial 11 = .ok (.ldc_w 340, 3) := by decide +kernel
theorem dX8_requireDenial_14 : decode cX8_requireDenial 14 = .ok (.invokespecial 293, 3) := by decide +kernel
theorem dX8_requireDenial_17 : decode cX8_requireDenial 17 = .ok (.athrow, 1) := by decide +kernel
theorem dX8_requireDenial_18 : decode cX8_requireDenial 18 = .ok (.return_, 1) := by decide +kernel
end
section
theorem dX9_init_0 : decode cX9_init 0 = .ok (.aload_n 0, 1) := by decide +kernel
theorem dX9_init_1 : decode cX9_init 1 = .ok (.invokespecial 1, 3) := by decide +kernel
theorem dX9_init_4 : decode cX9_init 4 = .ok (.aload_n 0, 1) := by decide +kernel
theorem dX9_init_5 : decode cX9_init 5 = .ok (.bipush 72, 2) := by decide +kernel
theorem dX9_init_7 : decode cX9_init 7 = .ok (.newarray .int, 2) := by decide +kernel
theorem dX9_init_9 : decode cX9_init 9 = .ok (.putfield 7, 3) := by decide +kernel
theorem dX9_init_12 : decode cX9_init 12 = .ok (.aload_n 0, 1) := by decide +kernel
theorem dX9_init_13 : decode cX9_init 13 = .ok (.sipush 576, 3) := by decide +kernel
theorem dX9_init_16 : decode cX9_init 16 = .ok (.newarray .int, 2) := by decide +kernel
theorem dX9_init_18 : decode cX9_init 18 = .ok (.putfield 13, 3) := by decide +kernel
theorem dX9_init_21 : decode cX9_init 21 = .ok (.aload_n 0, 1) := by decide +kernel
theorem dX9_init_22 : decode cX9_init 22 = .ok (.bipush 72, 2) := by decide +kernel
theorem dX9_init_24 : decode cX9_init 24 = .ok (.newarray .int, 2) := by decide +kernel
theorem dX9_init_26 : decode cX9_init 26 = .ok (.putfield 16, 3) := by decide +kernel
theorem dX9_init_29 : decode cX9_init 29 = .ok (.aload_n 0, 1) := by decide +kernel
theorem dX9_init_30 : decode cX9_init 30 = .ok (.bipush 72, 2) := by decide +kernel
theorem dX9_init_32 : decode cX9_init 32 = .ok (.newarray .int, 2) := by decide +kernel
theorem dX9_init_34 : decode cX9_init 34 = .ok (.putfield 19, 3) := by decide +kernel
theorem dX9_init_37 : decode cX9_init 37 = .ok (.aload_n 0, 1) := by decide +kernel
theorem dX9_init_38 : decode cX9_init 38 = .ok (.bipush 60, 2) := by decide +kernel
theorem dX9_init_40 : decode cX9_init 40 = .ok (.newarray .int, 2) := by decide +kernel
theorem dX9_init_42 : decode cX9_init 42 = .ok (.putfield 22, 3) := by decide +kernel
theorem dX9_init_45 : decode cX9_init 45 = .ok (.aload_n 0, 1) := by decide +kernel
theorem dX9_init_46 : decode cX9_init 46 = .ok (.iconst (-1), 1) := by decide +kernel
theorem dX9_init_47 : decode cX9_init 47 = .ok (.putfield 25, 3) := by decide +kernel
theorem dX9_init_50 : decode cX9_init 50 = .ok (.aload_n 0, 1) := by decide +kernel
theorem dX9_init_51 : decode cX9_init 51 = .ok (.bipush 60, 2) := by decide +kernel
theorem dX9_init_53 : decode cX9_init 53 = .ok (.newarray .char, 2) := by decide +kernel
theorem dX9_init_55 : decode cX9_init 55 = .ok (.putfield 29, 3) := by decide +kernel
theorem dX9_init_58 : decode cX9_init 58 = .ok (.aload_n 0, 1) := by decide +kernel
theorem dX9_init_59 : decode cX9_init 59 = .ok (.bipush 124, 2) := by decide +kernel
theorem dX9_init_61 : decode cX9_init 61 = .ok (.newarray .int, 2) := by decide +kernel
theorem dX9_init_63 : decode cX9_init 63 = .ok (.putfield 33, 3) := by decide +kernel
theorem dX9_init_66 : decode cX9_init 66 = .ok (.return_, 1) := by decide +kernel
theorem dX9_thrown_0 : decode cX9_thrown 0 = .ok (.aload_n 0, 1) := by decide +kernel
theorem dX9_thrown_1 : decode cX9_thrown 1 = .ok (.getfield 36, 3) := by decide +kernel
theorem dX9_thrown_4 : decode cX9_thrown 4 = .ok (.ireturn, 1) := by decide +kernel
theorem dX9_fails_0 : decode cX9_fails 0 = .ok (.aload_n 0, 1) := by decide +kernel
theorem dX9_fails_1 : decode cX9_fails 1 = .ok (.iload_n 1, 1) := by decide +kernel
theorem dX9_fails_2 : decode cX9_fails 2 = .ok (.putfield 36, 3) := by decide +kernel
theorem dX9_fails_5 : decode cX9_fails 5 = .ok (.aload_n 0, 1) := by decide +kernel
theorem dX9_fails_6 : decode cX9_fails 6 = .ok (.iconst 0, 1) := by decide +kernel
theorem dX9_fails_7 : decode cX9_fails 7 = .ok (.putfield 39, 3) := by decide +kernel
theorem dX9_fails_10 : decode cX9_fails 10 = .ok (.iload_n 1, 1) := by decide +kernel
theorem dX9_fails_11 : decode cX9_fails 11 = .ok (.ifCond .le 7, 3) := by decide +kernel
theorem dX9_fails_14 : decode cX9_fails 14 = .ok (.iconst 1, 1) := by decide +kernel
theorem dX9_fails_15 : decode cX9_fails 15 = .ok (.goto 4, 3) := by decide +kernel
theorem dX9_fails_18 : decode cX9_fails 18 = .ok (.iconst 0, 1) := by decide +kernel
theorem dX9_fails_19 : decode cX9_fails 19 = .ok (.ireturn, 1) := by decide +kernel
theorem dX9_denies_0 : decode cX9_denies 0 = .ok (.aload_n 0, 1) := by decide +kernel
theorem dX9_denies_1 : decode cX9_denies 1 = .ok (.iload_n 1, 1) := by decide +kernel
theorem dX9_denies_2 : decode cX9_denies 2 = .ok (.putfield 36, 3) := by decide +kernel
theorem dX9_denies_5 : decode cX9_denies 5 = .ok (.aload_n 0, 1) := by decide +kernel
theorem dX9_denies_6 : decode cX9_denies 6 = .ok (.iconst 1, 1) := by decide +kernel
theorem dX9_denies_7 : decode cX9_denies 7 = .ok (.putfield 39, 3) := by decide +kernel
theorem dX9_denies_10 : decode cX9_denies 10 = .ok (.aload_n 0, 1) := by decide +kernel
theorem dX9_denies_11 : decode cX9_denies 11 = .ok (.iload_n 2, 1) := by decide +kernel
theorem dX9_denies_12 : decode cX9_denies 12 = .ok (.putfield 43, 3) := by decide +kernel
theorem dX9_denies_15 : decode cX9_denies 15 = .ok (.aload_n 0, 1) := by decide +kernel
theorem dX9_denies_16 : decode cX9_denies 16 = .ok (.iload_n 3, 1) := by decide +kernel
theorem dX9_denies_17 : decode cX9_denies 17 = .ok (.putfield 46, 3) := by decide +kernel
theorem dX9_denies_20 : decode cX9_denies 20 = .ok (.aload_n 0, 1) := by decide +kernel
theorem dX9_denies_21 : decode cX9_denies 21 = .ok (.iconst 0, 1) := by decide +kernel
theorem dX9_denies_22 : decode cX9_denies 22 = .ok (.putfield 49, 3) := by decide +kernel
theorem dX9_denies_25 : decode cX9_denies 25 = .ok (.iconst 0, 1) := by decide +kernel
theorem dX9_denies_26 : decode cX9_denies 26 = .ok (.ireturn, 1) := by decide +kernel
theorem dX9_in_0 : decode cX9_in 0 = .ok (.iload_n 0, 1) := by decide +kernel
theorem dX9_in_1 : decode cX9_in 1 = .ok (.iload_n 1, 1) := by decide +kernel
theorem dX9_in_2 : decode cX9_in 2 = .ok (.if_icmp .lt 12, 3) := by decide +kernel
theorem dX9_in_5 : decode cX9_in 5 = .ok (.iload_n 0, 1) := by decide +kernel
theorem dX9_in_6 : decode cX9_in 6 = .ok (.iload_n 2, 1) := by decide +kernel
theorem dX9_in_7 : decode cX9_in 7 = .ok (.if_icmp .gt 7, 3) := by decide +kernel
theorem dX9_in_10 : decode cX9_in 10 = .ok (.iconst 1, 1) := by decide +kernel
theorem dX9_in_11 : decode cX9_in 11 = .ok (.goto 4, 3) := by decide +kernel
theorem dX9_in_14 : decode cX9_in 14 = .ok (.iconst 0, 1) := by decide +kernel
theorem dX9_in_15 : decode cX9_in 15 = .ok (.ireturn, 1) := by decide +kernel
theorem dX9_size_0 : decode cX9_size 0 = .ok (.iload_n 0, 1) := by decide +kernel
theorem dX9_size_1 : decode cX9_size 1 = .ok (.ifCond .ge 8, 3) := by decide +kernel
theorem dX9_size_4 : decode cX9_size 4 = .ok (.iload_n 0, 1) := by decide +kernel
theorem dX9_size_5 : decode cX9_size 5 = .ok (.ineg, 1) := by decide +kernel
theorem dX9_size_6 : decode cX9_size 6 = .ok (.goto 4, 3) := by decide +kernel
theorem dX9_size_9 : decode cX9_size 9 = .ok (.iload_n 0, 1) := by decide +kernel
theorem dX9_size_10 : decode cX9_size 10 = .ok (.ireturn, 1) := by decide +kernel
theorem dX9_strong_0 : decode cX9_strong 0 = .ok (.dload_n 0, 1) := by decide +kernel
theorem dX9_strong_1 : decode cX9_strong 1 = .ok (.dconst 0, 1) := by decide +kernel
theorem dX9_strong_2 : decode cX9_strong 2 = .ok (.dcmp .g, 1) := by decide +kernel
theorem dX9_strong_3 : decode cX9_strong 3 = .ok (.ifCond .ge 9, 3) := by decide +kernel
theorem dX9_strong_6 : decode cX9_strong 6 = .ok (.dconst 0, 1) := by decide +kernel
theorem dX9_strong_7 : decode cX9_strong 7 = .ok (.dload_n 0, 1) := by decide +kernel
theorem dX9_strong_8 : decode cX9_strong 8 = .ok (.dsub, 1) := by decide +kernel
theorem dX9_strong_9 : decode cX9_strong 9 = .ok (.goto 4, 3) := by decide +kernel
theorem dX9_strong_12 : decode cX9_strong 12 = .ok (.dload_n 0, 1) := by decide +kernel
theorem dX9_strong_13 : decode cX9_strong 13 = .ok (.dreturn, 1) := by decide +kernel
theorem dX9_copies_0 : decode cX9_copies 0 = .ok (.iconst 0, 1) := by decide +kernel
theorem dX9_copies_1 : decode cX9_copies 1 = .ok (.istore 4, 2) := by decide +kernel
theorem dX9_copies_3 : decode cX9_copies 3 = .ok (.iload 4, 2) := by decide +kernel
theorem dX9_copies_5 : decode cX9_copies 5 = .ok (.bipush 72, 2) := by decide +kernel
theorem dX9_copies_7 : decode cX9_copies 7 = .ok (.if_icmp .ge 21, 3) := by decide +kernel
theorem dX9_copies_10 : decode cX9_copies 10 = .ok (.aload_n 2, 1) := by decide +kernel
theorem dX9_copies_11 : decode cX9_copies 11 = .ok (.iload_n 3, 1) := by decide +kernel
theorem dX9_copies_12 : decode cX9_copies 12 = .ok (.iload 4, 2) := by decide +kernel
theorem dX9_copies_14 : decode cX9_copies 14 = .ok (.iadd, 1) := by decide +kernel
theorem dX9_copies_15 : decode cX9_copies 15 = .ok (.aload_n 0, 1) := by decide +kernel
theorem dX9_copies_16 : decode cX9_copies 16 = .ok (.iload_n 1, 1) := by decide +kernel
theorem dX9_copies_17 : decode cX9_copies 17 = .ok (.iload 4, 2) := by decide +kernel
theorem dX9_copies_19 : decode cX9_copies 19 = .ok (.iadd, 1) := by decide +kernel
theorem dX9_copies_20 : decode cX9_copies 20 = .ok (.iaload, 1) := by decide +kernel
theorem dX9_copies_21 : decode cX9_copies 21 = .ok (.iastore, 1) := by decide +kernel
theorem dX9_copies_22 : decode cX9_copies 22 = .ok (.iinc 4 1, 3) := by decide +kernel
theorem dX9_copies_25 : decode cX9_copies 25 = .ok (.goto (-22), 3) := by decide +kernel
theorem dX9_copies_28 : decode cX9_copies 28 = .ok (.return_, 1) := by decide +kernel
theorem dX9_keeps_0 : decode cX9_keeps 0 = .ok (.aload_n 0, 1) := by decide +kernel
theorem dX9_keeps_1 : decode cX9_keeps 1 = .ok (.iconst 0, 1) := by decide +kernel
theorem dX9_keeps_2 : decode cX9_keeps 2 = .ok (.putfield 36, 3) := by decide +kernel
theorem dX9_keeps_5 : decode cX9_keeps 5 = .ok (.aload_n 0, 1) := by decide +kernel
theorem dX9_keeps_6 : decode cX9_keeps 6 = .ok (.getfield 52, 3) := by decide +kernel
theorem dX9_keeps_9 : decode cX9_keeps 9 = .ok (.ifCond .eq 4, 3) := by decide +kernel
theorem dX9_keeps_12 : decode cX9_keeps 12 = .ok (.return_, 1) := by decide +kernel
theorem dX9_keeps_13 : decode cX9_keeps 13 = .ok (.aload_n 0, 1) := by decide +kernel
theorem dX9_keeps_14 : decode cX9_keeps 14 = .ok (.getfield 55, 3) := by decide +kernel
theorem dX9_keeps_17 : decode cX9_keeps 17 = .ok (.bipush 8, 2) := by decide +kernel
theorem dX9_keeps_19 : decode cX9_keeps 19 = .ok (.if_icmp .ne 43, 3) := by decide +kernel
theorem dX9_keeps_22 : decode cX9_keeps 22 = .ok (.iconst 0, 1) := by decide +kernel
theorem dX9_keeps_23 : decode cX9_keeps 23 = .ok (.istore_n 2, 1) := by decide +kernel
theorem dX9_keeps_24 : decode cX9_keeps 24 = .ok (.iload_n 2, 1) := by decide +kernel
theorem dX9_keeps_25 : decode cX9_keeps 25 = .ok (.sipush 504, 3) := by decide +kernel
theorem dX9_keeps_28 : decode cX9_keeps 28 = .ok (.if_icmp .ge 24, 3) := by decide +kernel
theorem dX9_keeps_31 : decode cX9_keeps 31 = .ok (.aload_n 0, 1) := by decide +kernel
theorem dX9_keeps_32 : decode cX9_keeps 32 = .ok (.getfield 13, 3) := by decide +kernel
theorem dX9_keeps_35 : decode cX9_keeps 35 = .ok (.iload_n 2, 1) := by decide +kernel
theorem dX9_keeps_36 : decode cX9_keeps 36 = .ok (.aload_n 0, 1) := by decide +kernel
theorem dX9_keeps_37 : decode cX9_keeps 37 = .ok (.getfield 13, 3) := by decide +kernel
theorem dX9_keeps_40 : decode cX9_keeps 40 = .ok (.iload_n 2, 1) := by decide +kernel
theorem dX9_keeps_41 : decode cX9_keeps 41 = .ok (.bipush 72, 2) := by decide +kernel
theorem dX9_keeps_43 : decode cX9_keeps 43 = .ok (.iadd, 1) := by decide +kernel
theorem dX9_keeps_44 : decode cX9_keeps 44 = .ok (.iaload, 1) := by decide +kernel
theorem dX9_keeps_45 : decode cX9_keeps 45 = .ok (.iastore, 1) := by decide +kernel
theorem dX9_keeps_46 : decode cX9_keeps 46 = .ok (.iinc 2 1, 3) := by decide +kernel
theorem dX9_keeps_49 : decode cX9_keeps 49 = .ok (.goto (-25), 3) := by decide +kernel
theorem dX9_keeps_52 : decode cX9_keeps 52 = .ok (.aload_n 0, 1) := by decide +kernel
theorem dX9_keeps_53 : decode cX9_keeps 53 = .ok (.dup, 1) := by decide +kernel
theorem dX9_keeps_54 : decode cX9_keeps 54 = .ok (.getfield 55, 3) := by decide +kernel
theorem dX9_keeps_57 : decode cX9_keeps 57 = .ok (.iconst 1, 1) := by decide +kernel
theorem dX9_keeps_58 : decode cX9_keeps 58 = .ok (.isub, 1) := by decide +kernel
theorem dX9_keeps_59 : decode cX9_keeps 59 = .ok (.putfield 55, 3) := by decide +kernel
theorem dX9_keeps_62 : decode cX9_keeps 62 = .ok (.aload_n 1, 1) := by decide +kernel
theorem dX9_keeps_63 : decode cX9_keeps 63 = .ok (.iconst 0, 1) := by decide +kernel
theorem dX9_keeps_64 : decode cX9_keeps 64 = .ok (.aload_n 0, 1) := by decide +kernel
theorem dX9_keeps_65 : decode cX9_keeps 65 = .ok (.getfield 13, 3) := by decide +kernel
theorem dX9_keeps_68 : decode cX9_keeps 68 = .ok (.bipush 72, 2) := by decide +kernel
theorem dX9_keeps_70 : decode cX9_keeps 70 = .ok (.aload_n 0, 1) := by decide +kernel
theorem dX9_keeps_71 : decode cX9_keeps 71 = .ok (.getfield 55, 3) := by decide +kernel
theorem dX9_keeps_74 : decode cX9_keeps 74 = .ok (.imul, 1) := by decide +kernel
theorem dX9_keeps_75 : decode cX9_keeps 75 = .ok (.invokestatic 58, 3) := by decide +kernel
theorem dX9_keeps_78 : decode cX9_keeps 78 = .ok (.aload_n 0, 1) := by decide +kernel
theorem dX9_keeps_79 : decode cX9_keeps 79 = .ok (.dup, 1) := by decide +kernel
theorem dX9_keeps_80 : decode cX9_keeps 80 = .ok (.getfield 55, 3) := by decide +kernel
theorem dX9_keeps_83 : decode cX9_keeps 83 = .ok (.iconst 1, 1) := by decide +kernel
theorem dX9_keeps_84 : decode cX9_keeps 84 = .ok (.iadd, 1) := by decide +kernel
theorem dX9_keeps_85 : decode cX9_keeps 85 = .ok (.putfield 55, 3) := by decide +kernel
theorem dX9_keeps_88 : decode cX9_keeps 88 = .ok (.return_, 1) := by decide +kernel
theorem dX9_bits_0 : decode cX9_bits 0 = .ok (.iconst 0, 1) := by decide +kernel
theorem dX9_bits_1 : decode cX9_bits 1 = .ok (.istore_n 1, 1) := by decide +kernel
theorem dX9_bits_2 : decode cX9_bits 2 = .ok (.iconst 0, 1) := by decide +kernel
theorem dX9_bits_3 : decode cX9_bits 3 = .ok (.istore_n 2, 1) := by decide +kernel
theorem dX9_bits_4 : decode cX9_bits 4 = .ok (.iload_n 2, 1) := by decide +kernel
theorem dX9_bits_5 : decode cX9_bits 5 = .ok (.bipush 9, 2) := by decide +kernel
theorem dX9_bits_7 : decode cX9_bits 7 = .ok (.if_icmp .ge 17, 3) := by decide +kernel
theorem dX9_bits_10 : decode cX9_bits 10 = .ok (.iload_n 1, 1) := by decide +kernel
theorem dX9_bits_11 : decode cX9_bits 11 = .ok (.iload_n 0, 1) := by decide +kernel
theorem dX9_bits_12 : decode cX9_bits 12 = .ok (.iload_n 2, 1) := by decide +kernel
theorem dX9_bits_13 : decode cX9_bits 13 = .ok (.ishr, 1) := by decide +kernel
theorem dX9_bits_14 : decode cX9_bits 14 = .ok (.iconst 1, 1) := by decide +kernel
theorem dX9_bits_15 : decode cX9_bits 15 = .ok (.iand, 1) := by decide +kernel
theorem dX9_bits_16 : decode cX9_bits 16 = .ok (.iadd, 1) := by decide +kernel
theorem dX9_bits_17 : decode cX9_bits 17 = .ok (.istore_n 1, 1) := by decide +kernel
theorem dX9_bits_18 : decode cX9_bits 18 = .ok (.iinc 2 1, 3) := by decide +kernel
theorem dX9_bits_21 : decode cX9_bits 21 = .ok (.goto (-17), 3) := by decide +kernel
theorem dX9_bits_24 : decode cX9_bits 24 = .ok (.iload_n 1, 1) := by decide +kernel
theorem dX9_bits_25 : decode cX9_bits 25 = .ok (.ireturn, 1) := by decide +kernel
theorem dX9_isMagnet_0 : decode cX9_isMagnet 0 = .ok (.iload_n 1, 1) := by decide +kernel
theorem dX9_isMagnet_1 : decode cX9_isMagnet 1 = .ok (.iconst 0, 1) := by decide +kernel
theorem dX9_isMagnet_2 : decode cX9_isMagnet 2 = .ok (.aload_n 0, 1) := by decide +kernel
theorem dX9_isMagnet_3 : decode cX9_isMagnet 3 = .ok (.getfield 7, 3) := by decide +kernel
theorem dX9_isMagnet_6 : decode cX9_isMagnet 6 = .ok (.iconst 0, 1) := by decide +kernel
theorem dX9_isMagnet_7 : decode cX9_isMagnet 7 = .ok (.iaload, 1) := by decide +kernel
theorem dX9_isMagnet_8 : decode cX9_isMagnet 8 = .ok (.iconst 1, 1) := by decide +kernel
theorem dX9_isMagnet_9 : decode cX9_isMagnet 9 = .ok (.isub, 1) := by decide +kernel
theorem dX9_isMagnet_10 : decode cX9_isMagnet 10 = .ok (.invokestatic 62, 3) := by decide +kernel
theorem dX9_isMagnet_13 : decode cX9_isMagnet 13 = .ok (.ireturn, 1) := by decide +kernel
theorem dX9_isNone_0 : decode cX9_isNone 0 = .ok (.aload_n 0, 1) := by decide +kernel
theorem dX9_isNone_1 : decode cX9_isNone 1 = .ok (.aload_n 0, 1) := by decide +kernel
theorem dX9_isNone_2 : decode cX9_isNone 2 = .ok (.iload_n 1, 1) := by decide +kernel
theorem dX9_isNone_3 : decode cX9_isNone 3 = .ok (.invokevirtual 66, 3) := by decide +kernel
theorem dX9_isNone_6 : decode cX9_isNone 6 = .ok (.ifCond .eq 7, 3) := by decide +kernel
theorem dX9_isNone_9 : decode cX9_isNone 9 = .ok (.iconst 0, 1) := by decide +kernel
theorem dX9_isNone_10 : decode cX9_isNone 10 = .ok (.goto 4, 3) := by decide +kernel
theorem dX9_isNone_13 : decode cX9_isNone 13 = .ok (.iconst 1, 1) := by decide +kernel
theorem dX9_isNone_14 : decode cX9_isNone 14 = .ok (.invokevirtual 70, 3) := by decide +kernel
theorem dX9_isNone_17 : decode cX9_isNone 17 = .ok (.ireturn, 1) := by decide +kernel
theorem dX9_of_0 : decode cX9_of 0 = .ok (.aload_n 0, 1) := by decide +kernel
theorem dX9_of_1 : decode cX9_of 1 = .ok (.getfield 7, 3) := by decide +kernel
theorem dX9_of_4 : decode cX9_of 4 = .ok (.iconst 4, 1) := by decide +kernel
theorem dX9_of_5 : decode cX9_of 5 = .ok (.iconst 4, 1) := by decide +kernel
theorem dX9_of_6 : decode cX9_of 6 = .ok (.iload_n 1, 1) := by decide +kernel
theorem dX9_of_7 : decode cX9_of 7 = .ok (.imul, 1) := by decide +kernel
theorem dX9_of_8 : decode cX9_of 8 = .ok (.iadd, 1) := by decide +kernel
theorem dX9_of_9 : decode cX9_of 9 = .ok (.iload_n 2, 1) := by decide +kernel
theorem dX9_of_10 : decode cX9_of 10 = .ok (.iadd, 1) := by decide +kernel
theorem dX9_of_11 : decode cX9_of 11 = .ok (.iaload, 1) := by decide +kernel
theorem dX9_of_12 : decode cX9_of 12 = .ok (.ireturn, 1) := by decide +kernel
theorem dX9_lays_0 : decode cX9_lays 0 = .ok (.aload_n 0, 1) := by decide +kernel
theorem dX9_lays_1 : decode cX9_lays 1 = .ok (.getfield 7, 3) := by decide +kernel
theorem dX9_lays_4 : decode cX9_lays 4 = .ok (.iconst 4, 1) := by decide +kernel
theorem dX9_lays_5 : decode cX9_lays 5 = .ok (.iconst 4, 1) := by decide +kernel
theorem dX9_lays_6 : decode cX9_lays 6 = .ok (.iload_n 1, 1) := by decide +kernel
theorem dX9_lays_7 : decode cX9_lays 7 = .ok (.imul, 1) := by decide +kernel
theorem dX9_lays_8 : decode cX9_lays 8 = .ok (.iadd, 1) := by decide +kernel
theorem dX9_lays_9 : decode cX9_lays 9 = .ok (.iload_n 2, 1) := by decide +kernel
theorem dX9_lays_10 : decode cX9_lays 10 = .ok (.iadd, 1) := by decide +kernel
theorem dX9_lays_11 : decode cX9_lays 11 = .ok (.iload_n 3, 1) := by decide +kernel
theorem dX9_lays_12 : decode cX9_lays 12 = .ok (.iastore, 1) := by decide +kernel
theorem dX9_lays_13 : decode cX9_lays 13 = .ok (.return_, 1) := by decide +kernel
theorem dX9_found_0 : decode cX9_found 0 = .ok (.iconst 0, 1) := by decide +kernel
theorem dX9_found_1 : decode cX9_found 1 = .ok (.istore_n 2, 1) := by decide +kernel
theorem dX9_found_2 : decode cX9_found 2 = .ok (.iload_n 2, 1) := by decide +kernel
theorem dX9_found_3 : decode cX9_found 3 = .ok (.aload_n 0, 1) := by decide +kernel
theorem dX9_found_4 : decode cX9_found 4 = .ok (.getfield 7, 3) := by decide +kernel
theorem dX9_found_7 : decode cX9_found 7 = .ok (.iconst 0, 1) := by decide +kernel
theorem dX9_found_8 : decode cX9_found 8 = .ok (.iaload, 1) := by decide +kernel
theorem dX9_found_9 : decode cX9_found 9 = .ok (.if_icmp .ge 21, 3) := by decide +kernel
theorem dX9_found_12 : decode cX9_found 12 = .ok (.aload_n 0, 1) := by decide +kernel
theorem dX9_found_13 : decode cX9_found 13 = .ok (.iload_n 2, 1) := by decide +kernel
theorem dX9_found_14 : decode cX9_found 14 = .ok (.iconst 0, 1) := by decide +kernel
theorem dX9_found_15 : decode cX9_found 15 = .ok (.invokevirtual 73, 3) := by decide +kernel
theorem dX9_found_18 : decode cX9_found 18 = .ok (.iload_n 1, 1) := by decide +kernel
theorem dX9_found_19 : decode cX9_found 19 = .ok (.if_icmp .ne 5, 3) := by decide +kernel
theorem dX9_found_22 : decode cX9_found 22 = .ok (.iload_n 2, 1) := by decide +kernel
theorem dX9_found_23 : decode cX9_found 23 = .ok (.ireturn, 1) := by decide +kernel
theorem dX9_found_24 : decode cX9_found 24 = .ok (.iinc 2 1, 3) := by decide +kernel
theorem dX9_found_27 : decode cX9_found 27 = .ok (.goto (-25), 3) := by decide +kernel
theorem dX9_found_30 : decode cX9_found 30 = .ok (.iconst (-1), 1) := by decide +kernel
theorem dX9_found_31 : decode cX9_found 31 = .ok (.ireturn, 1) := by decide +kernel
theorem dX9_addMagnet_0 : decode cX9_addMagnet 0 = .ok (.aload_n 0, 1) := by decide +kernel
theorem dX9_addMagnet_1 : decode cX9_addMagnet 1 = .ok (.iload_n 1, 1) := by decide +kernel
theorem dX9_addMagnet_2 : decode cX9_addMagnet 2 = .ok (.iconst 0, 1) := by decide +kernel
theorem dX9_addMagnet_3 : decode cX9_addMagnet 3 = .ok (.bipush 99, 2) := by decide +kernel
theorem dX9_addMagnet_5 : decode cX9_addMagnet 5 = .ok (.invokestatic 62, 3) := by decide +kernel
theorem dX9_addMagnet_8 : decode cX9_addMagnet 8 = .ok (.ifCond .eq 17, 3) := by decide +kernel
theorem dX9_addMagnet_11 : decode cX9_addMagnet 11 = .ok (.iload_n 2, 1) := by decide +kernel
theorem dX9_addMagnet_12 : decode cX9_addMagnet 12 = .ok (.iconst 1, 1) := by decide +kernel
theorem dX9_addMagnet_13 : decode cX9_addMagnet 13 = .ok (.bipush 30, 2) := by decide +kernel
theorem dX9_addMagnet_15 : decode cX9_addMagnet 15 = .ok (.invokestatic 62, 3) := by decide +kernel
theorem dX9_addMagnet_18 : decode cX9_addMagnet 18 = .ok (.ifCond .eq 7, 3) := by decide +kernel
theorem dX9_addMagnet_21 : decode cX9_addMagnet 21 = .ok (.iconst 0, 1) := by decide +kernel
theorem dX9_addMagnet_22 : decode cX9_addMagnet 22 = .ok (.goto 4, 3) := by decide +kernel
theorem dX9_addMagnet_25 : decode cX9_addMagnet 25 = .ok (.iconst 1, 1) := by decide +kernel
theorem dX9_addMagnet_26 : decode cX9_addMagnet 26 = .ok (.invokevirtual 70, 3) := by decide +kernel
theorem dX9_addMagnet_29 : decode cX9_addMagnet 29 = .ok (.ifCond .eq 5, 3) := by decide +kernel
theorem dX9_addMagnet_32 : decode cX9_addMagnet 32 = .ok (.iconst 0, 1) := by decide +kernel
theorem dX9_addMagnet_33 : decode cX9_addMagnet 33 = .ok (.ireturn, 1) := by decide +kernel
theorem dX9_addMagnet_34 : decode cX9_addMagnet 34 = .ok (.aload_n 0, 1) := by decide +kernel
theorem dX9_addMagnet_35 : decode cX9_addMagnet 35 = .ok (.getfield 7, 3) := by decide +kernel
theorem dX9_addMagnet_38 : decode cX9_addMagnet 38 = .ok (.iconst 0, 1) := by decide +kernel
theorem dX9_addMagnet_39 : decode cX9_addMagnet 39 = .ok (.iaload, 1) := by decide +kernel
theorem dX9_addMagnet_40 : decode cX9_addMagnet 40 = .ok (.bipush 9, 2) := by decide +kernel
theorem dX9_addMagnet_42 : decode cX9_addMagnet 42 = .ok (.if_icmp .ne 12, 3) := by decide +kernel
theorem dX9_addMagnet_45 : decode cX9_addMagnet 45 = .ok (.aload_n 0, 1) := by decide +kernel
theorem dX9_addMagnet_46 : decode cX9_addMagnet 46 = .ok (.iconst 2, 1) := by decide +kernel
theorem dX9_addMagnet_47 : decode cX9_addMagnet 47 = .ok (.iconst 1, 1) := by decide +kernel
theorem dX9_addMagnet_48 : decode cX9_addMagnet 48 = .ok (.bipush 9, 2) := by decide +kernel
theorem dX9_addMagnet_50 : decode cX9_addMagnet 50 = .ok (.invokevirtual 77, 3) := by decide +kernel
theorem dX9_addMagnet_53 : decode cX9_addMagnet 53 = .ok (.ireturn, 1) := by decide +kernel
theorem dX9_addMagnet_54 : decode cX9_addMagnet 54 = .ok (.aload_n 0, 1) := by decide +kernel
theorem dX9_addMagnet_55 : decode cX9_addMagnet 55 = .ok (.iload_n 1, 1) := by decide +kernel
theorem dX9_addMagnet_56 : decode cX9_addMagnet 56 = .ok (.invokevirtual 81, 3) := by decide +kernel
theorem dX9_addMagnet_59 : decode cX9_addMagnet 59 = .ok (.ifCond .lt 15, 3) := by decide +kernel
theorem dX9_addMagnet_62 : decode cX9_addMagnet 62 = .ok (.aload_n 0, 1) := by decide +kernel
theorem dX9_addMagnet_63 : decode cX9_addMagnet 63 = .ok (.iconst 2, 1) := by decide +kernel
theorem dX9_addMagnet_64 : decode cX9_addMagnet 64 = .ok (.iconst 2, 1) := by decide +kernel
theorem dX9_addMagnet_65 : decode cX9_addMagnet 65 = .ok (.aload_n 0, 1) := by decide +kernel
theorem dX9_addMagnet_66 : decode cX9_addMagnet 66 = .ok (.iload_n 1, 1) := by decide +kernel
theorem dX9_addMagnet_67 : decode cX9_addMagnet 67 = .ok (.invokevirtual 81, 3) := by decide +kernel
theorem dX9_addMagnet_70 : decode cX9_addMagnet 70 = .ok (.invokevirtual 77, 3) := by decide +kernel
theorem dX9_addMagnet_73 : decode cX9_addMagnet 73 = .ok (.ireturn, 1) := by decide +kernel
theorem dX9_addMagnet_74 : decode cX9_addMagnet 74 = .ok (.aload_n 0, 1) := by decide +kernel
theorem dX9_addMagnet_75 : decode cX9_addMagnet 75 = .ok (.aload_n 0, 1) := by decide +kernel
theorem dX9_addMagnet_76 : decode cX9_addMagnet 76 = .ok (.getfield 7, 3) := by decide +kernel
theorem dX9_addMagnet_79 : decode cX9_addMagnet 79 = .ok (.invokevirtual 85, 3) := by decide +kernel
theorem dX9_addMagnet_82 : decode cX9_addMagnet 82 = .ok (.aload_n 0, 1) := by decide +kernel
theorem dX9_addMagnet_83 : decode cX9_addMagnet 83 = .ok (.getfield 7, 3) := by decide +kernel
theorem dX9_addMagnet_86 : decode cX9_addMagnet 86 = .ok (.iconst 0, 1) := by decide +kernel
theorem dX9_addMagnet_87 : decode cX9_addMagnet 87 = .ok (.iaload, 1) := by decide +kernel
theorem dX9_addMagnet_88 : decode cX9_addMagnet 88 = .ok (.istore 4, 2) := by decide +kernel
theorem dX9_addMagnet_90 : decode cX9_addMagnet 90 = .ok (.aload_n 0, 1) := by decide +kernel
theorem dX9_addMagnet_91 : decode cX9_addMagnet 91 = .ok (.getfield 7, 3) := by decide +kernel
theorem dX9_addMagnet_94 : decode cX9_addMagnet 94 = .ok (.iconst 0, 1) := by decide +kernel
theorem dX9_addMagnet_95 : decode cX9_addMagnet 95 = .ok (.dup2, 1) := by decide +kernel
theorem dX9_addMagnet_96 : decode cX9_addMagnet 96 = .ok (.iaload, 1) := by decide +kernel
theorem dX9_addMagnet_97 : decode cX9_addMagnet 97 = .ok (.iconst 1, 1) := by decide +kernel
theorem dX9_addMagnet_98 : decode cX9_addMagnet 98 = .ok (.iadd, 1) := by decide +kernel
theorem dX9_addMagnet_99 : decode cX9_addMagnet 99 = .ok (.iastore, 1) := by decide +kernel
theorem dX9_addMagnet_100 : decode cX9_addMagnet 100 = .ok (.aload_n 0, 1) := by decide +kernel
theorem dX9_addMagnet_101 : decode cX9_addMagnet 101 = .ok (.iload 4, 2) := by decide +kernel
theorem dX9_addMagnet_103 : decode cX9_addMagnet 103 = .ok (.iconst 0, 1) := by decide +kernel
theorem dX9_addMagnet_104 : decode cX9_addMagnet 104 = .ok (.iload_n 1, 1) := by decide +kernel
theorem dX9_addMagnet_105 : decode cX9_addMagnet 105 = .ok (.invokevirtual 89, 3) := by decide +kernel
theorem dX9_addMagnet_108 : decode cX9_addMagnet 108 = .ok (.aload_n 0, 1) := by decide +kernel
theorem dX9_addMagnet_109 : decode cX9_addMagnet 109 = .ok (.iload 4, 2) := by decide +kernel
theorem dX9_addMagnet_111 : decode cX9_addMagnet 111 = .ok (.iconst 1, 1) := by decide +kernel
theorem dX9_addMagnet_112 : decode cX9_addMagnet 112 = .ok (.iload_n 2, 1) := by decide +kernel
theorem dX9_addMagnet_113 : decode cX9_addMagnet 113 = .ok (.invokevirtual 89, 3) := by decide +kernel
theorem dX9_addMagnet_116 : decode cX9_addMagnet 116 = .ok (.aload_n 0, 1) := by decide +kernel
theorem dX9_addMagnet_117 : decode cX9_addMagnet 117 = .ok (.iload 4, 2) := by decide +kernel
theorem dX9_addMagnet_119 : decode cX9_addMagnet 119 = .ok (.iconst 2, 1) := by decide +kernel
theorem dX9_addMagnet_120 : decode cX9_addMagnet 120 = .ok (.iload_n 3, 1) := by decide +kernel
theorem dX9_addMagnet_121 : decode cX9_addMagnet 121 = .ok (.ifCond .eq 7, 3) := by decide +kernel
theorem dX9_addMagnet_124 : decode cX9_addMagnet 124 = .ok (.iconst 1, 1) := by decide +kernel
theorem dX9_addMagnet_125 : decode cX9_addMagnet 125 = .ok (.goto 4, 3) := by decide +kernel
theorem dX9_addMagnet_128 : decode cX9_addMagnet 128 = .ok (.iconst 0, 1) := by decide +kernel
theorem dX9_addMagnet_129 : decode cX9_addMagnet 129 = .ok (.invokevirtual 89, 3) := by decide +kernel
theorem dX9_addMagnet_132 : decode cX9_addMagnet 132 = .ok (.aload_n 0, 1) := by decide +kernel
theorem dX9_addMagnet_133 : decode cX9_addMagnet 133 = .ok (.iload 4, 2) := by decide +kernel
theorem dX9_addMagnet_135 : decode cX9_addMagnet 135 = .ok (.iconst 3, 1) := by decide +kernel
theorem dX9_addMagnet_136 : decode cX9_addMagnet 136 = .ok (.iconst 0, 1) := by decide +kernel
theorem dX9_addMagnet_137 : decode cX9_addMagnet 137 = .ok (.invokevirtual 89, 3) := by decide +kernel
theorem dX9_addMagnet_140 : decode cX9_addMagnet 140 = .ok (.iload 4, 2) := by decide +kernel
theorem dX9_addMagnet_142 : decode cX9_addMagnet 142 = .ok (.ireturn, 1) := by decide +kernel
theorem dX9_setStrength_0 : decode cX9_setStrength 0 = .ok (.aload_n 0, 1) := by decide +kernel
theorem dX9_setStrength_1 : decode cX9_setStrength 1 = .ok (.iload_n 1, 1) := by decide +kernel
theorem dX9_setStrength_2 : decode cX9_setStrength 2 = .ok (.invokevirtual 93, 3) := by decide +kernel
theorem dX9_setStrength_5 : decode cX9_setStrength 5 = .ok (.ifCond .ne 25, 3) := by decide +kernel
theorem dX9_setStrength_8 : decode cX9_setStrength 8 = .ok (.aload_n 0, 1) := by decide +kernel
theorem dX9_setStrength_9 : decode cX9_setStrength 9 = .ok (.iload_n 2, 1) := by decide +kernel
theorem dX9_setStrength_10 : decode cX9_setStrength 10 = .ok (.iconst 1, 1) := by decide +kernel
theorem dX9_setStrength_11 : decode cX9_setStrength 11 = .ok (.bipush 30, 2) := by decide +kernel
theorem dX9_setStrength_13 : decode cX9_setStrength 13 = .ok (.invokestatic 62, 3) := by decide +kernel
theorem dX9_setStrength_16 : decode cX9_setStrength 16 = .ok (.ifCond .eq 7, 3) := by decide +kernel
theorem dX9_setStrength_19 : decode cX9_setStrength 19 = .ok (.iconst 0, 1) := by decide +kernel
theorem dX9_setStrength_20 : decode cX9_setStrength 20 = .ok (.goto 4, 3) := by decide +kernel
theorem dX9_setStrength_23 : decode cX9_setStrength 23 = .ok (.iconst 2, 1) := by decide +kernel
theorem dX9_setStrength_24 : decode cX9_setStrength 24 = .ok (.invokevirtual 70, 3) := by decide +kernel
theorem dX9_setStrength_27 : decode cX9_setStrength 27 = .ok (.ifCond .eq 5, 3) := by decide +kernel
theorem dX9_setStrength_30 : decode cX9_setStrength 30 = .ok (.iconst 0, 1) := by decide +kernel
theorem dX9_setStrength_31 : decode cX9_setStrength 31 = .ok (.ireturn, 1) := by decide +kernel
theorem dX9_setStrength_32 : decode cX9_setStrength 32 = .ok (.aload_n 0, 1) := by decide +kernel
theorem dX9_setStrength_33 : decode cX9_setStrength 33 = .ok (.iload_n 1, 1) := by decide +kernel
theorem dX9_setStrength_34 : decode cX9_setStrength 34 = .ok (.iconst 1, 1) := by decide +kernel
theorem dX9_setStrength_35 : decode cX9_setStrength 35 = .ok (.invokevirtual 73, 3) := by decide +kernel
theorem dX9_setStrength_38 : decode cX9_setStrength 38 = .ok (.istore_n 3, 1) := by decide +kernel
theorem dX9_setStrength_39 : decode cX9_setStrength 39 = .ok (.aload_n 0, 1) := by decide +kernel
theorem dX9_setStrength_40 : decode cX9_setStrength 40 = .ok (.aload_n 0, 1) := by decide +kernel
theorem dX9_setStrength_41 : decode cX9_setStrength 41 = .ok (.getfield 7, 3) := by decide +kernel
theorem dX9_setStrength_44 : decode cX9_setStrength 44 = .ok (.invokevirtual 85, 3) := by decide +kernel
theorem dX9_setStrength_47 : decode cX9_setStrength 47 = .ok (.aload_n 0, 1) := by decide +kernel
theorem dX9_setStrength_48 : decode cX9_setStrength 48 = .ok (.iload_n 1, 1) := by decide +kernel
theorem dX9_setStrength_49 : decode cX9_setStrength 49 = .ok (.iconst 1, 1) := by decide +kernel
theorem dX9_setStrength_50 : decode cX9_setStrength 50 = .ok (.iload_n 2, 1) := by decide +kernel
theorem dX9_setStrength_51 : decode cX9_setStrength 51 = .ok (.invokevirtual 89, 3) := by decide +kernel
theorem dX9_setStrength_54 : decode cX9_setStrength 54 = .ok (.iload_n 3, 1) := by decide +kernel
theorem dX9_setStrength_55 : decode cX9_setStrength 55 = .ok (.ireturn, 1) := by decide +kernel
theorem dX9_turnsOne_0 : decode cX9_turnsOne 0 = .ok (.aload_n 0, 1) := by decide +kernel
theorem dX9_turnsOne_1 : decode cX9_turnsOne 1 = .ok (.iload_n 1, 1) := by decide +kernel
theorem dX9_turnsOne_2 : decode cX9_turnsOne 2 = .ok (.iconst 2, 1) := by decide +kernel
theorem dX9_turnsOne_3 : decode cX9_turnsOne 3 = .ok (.iconst 1, 1) := by decide +kernel
theorem dX9_turnsOne_4 : decode cX9_turnsOne 4 = .ok (.aload_n 0, 1) := by decide +kernel
theorem dX9_turnsOne_5 : decode cX9_turnsOne 5 = .ok (.iload_n 1, 1) := by decide +kernel
theorem dX9_turnsOne_6 : decode cX9_turnsOne 6 = .ok (.iconst 2, 1) := by decide +kernel
theorem dX9_turnsOne_7 : decode cX9_turnsOne 7 = .ok (.invokevirtual 73, 3) := by decide +kernel
theorem dX9_turnsOne_10 : decode cX9_turnsOne 10 = .ok (.isub, 1) := by decide +kernel
theorem dX9_turnsOne_11 : decode cX9_turnsOne 11 = .ok (.invokevirtual 89, 3) := by decide +kernel
theorem dX9_turnsOne_14 : decode cX9_turnsOne 14 = .ok (.aload_n 0, 1) := by decide +kernel
theorem dX9_turnsOne_15 : decode cX9_turnsOne 15 = .ok (.iload_n 1, 1) := by decide +kernel
theorem dX9_turnsOne_16 : decode cX9_turnsOne 16 = .ok (.iconst 3, 1) := by decide +kernel
theorem dX9_turnsOne_17 : decode cX9_turnsOne 17 = .ok (.aload_n 0, 1) := by decide +kernel
theorem dX9_turnsOne_18 : decode cX9_turnsOne 18 = .ok (.iload_n 1, 1) := by decide +kernel
theorem dX9_turnsOne_19 : decode cX9_turnsOne 19 = .ok (.iconst 3, 1) := by decide +kernel
theorem dX9_turnsOne_20 : decode cX9_turnsOne 20 = .ok (.invokevirtual 73, 3) := by decide +kernel
theorem dX9_turnsOne_23 : decode cX9_turnsOne 23 = .ok (.iconst 1, 1) := by decide +kernel
theorem dX9_turnsOne_24 : decode cX9_turnsOne 24 = .ok (.iadd, 1) := by decide +kernel
theorem dX9_turnsOne_25 : decode cX9_turnsOne 25 = .ok (.invokevirtual 89, 3) := by decide +kernel
theorem dX9_turnsOne_28 : decode cX9_turnsOne 28 = .ok (.aload_n 0, 1) := by decide +kernel
theorem dX9_turnsOne_29 : decode cX9_turnsOne 29 = .ok (.getfield 7, 3) := by decide +kernel
theorem dX9_turnsOne_32 : decode cX9_turnsOne 32 = .ok (.iconst 2, 1) := by decide +kernel
theorem dX9_turnsOne_33 : decode cX9_turnsOne 33 = .ok (.dup2, 1) := by decide +kernel
theorem dX9_turnsOne_34 : decode cX9_turnsOne 34 = .ok (.iaload, 1) := by decide +kernel
theorem dX9_turnsOne_35 : decode cX9_turnsOne 35 = .ok (.iconst 1, 1) := by decide +kernel
theorem dX9_turnsOne_36 : decode cX9_turnsOne 36 = .ok (.iadd, 1) := by decide +kernel
theorem dX9_turnsOne_37 : decode cX9_turnsOne 37 = .ok (.iastore, 1) := by decide +kernel
theorem dX9_turnsOne_38 : decode cX9_turnsOne 38 = .ok (.return_, 1) := by decide +kernel
theorem dX9_turn_0 : decode cX9_turn 0 = .ok (.aload_n 0, 1) := by decide +kernel
theorem dX9_turn_1 : decode cX9_turn 1 = .ok (.iload_n 1, 1) := by decide +kernel
theorem dX9_turn_2 : decode cX9_turn 2 = .ok (.invokevirtual 93, 3) := by decide +kernel
theorem dX9_turn_5 : decode cX9_turn 5 = .ok (.ifCond .eq 5, 3) := by decide +kernel
theorem dX9_turn_8 : decode cX9_turn 8 = .ok (.iconst 0, 1) := by decide +kernel
theorem dX9_turn_9 : decode cX9_turn 9 = .ok (.ireturn, 1) := by decide +kernel
theorem dX9_turn_10 : decode cX9_turn 10 = .ok (.aload_n 0, 1) := by decide +kernel
theorem dX9_turn_11 : decode cX9_turn 11 = .ok (.aload_n 0, 1) := by decide +kernel
theorem dX9_turn_12 : decode cX9_turn 12 = .ok (.getfield 7, 3) := by decide +kernel
theorem dX9_turn_15 : decode cX9_turn 15 = .ok (.invokevirtual 85, 3) := by decide +kernel
theorem dX9_turn_18 : decode cX9_turn 18 = .ok (.aload_n 0, 1) := by decide +kernel
theorem dX9_turn_19 : decode cX9_turn 19 = .ok (.iload_n 1, 1) := by decide +kernel
theorem dX9_turn_20 : decode cX9_turn 20 = .ok (.invokevirtual 96, 3) := by decide +kernel
theorem dX9_turn_23 : decode cX9_turn 23 = .ok (.aload_n 0, 1) := by decide +kernel
theorem dX9_turn_24 : decode cX9_turn 24 = .ok (.iconst 0, 1) := by decide +kernel
theorem dX9_turn_25 : decode cX9_turn 25 = .ok (.invokevirtual 100, 3) := by decide +kernel
theorem dX9_turn_28 : decode cX9_turn 28 = .ok (.ireturn, 1) := by decide +kernel
theorem dX9_shift_0 : decode cX9_shift 0 = .ok (.aload_n 0, 1) := by decide +kernel
theorem dX9_shift_1 : decode cX9_shift 1 = .ok (.iload_n 1, 1) := by decide +kernel
theorem dX9_shift_2 : decode cX9_shift 2 = .ok (.iconst 0, 1) := by decide +kernel
theorem dX9_shift_3 : decode cX9_shift 3 = .ok (.bipush 99, 2) := by decide +kernel
theorem dX9_shift_5 : decode cX9_shift 5 = .ok (.invokestatic 62, 3) := by decide +kernel
theorem dX9_shift_8 : decode cX9_shift 8 = .ok (.ifCond .eq 7, 3) := by decide +kernel
theorem dX9_shift_11 : decode cX9_shift 11 = .ok (.iconst 0, 1) := by decide +kernel
theorem dX9_shift_12 : decode cX9_shift 12 = .ok (.goto 4, 3) := by decide +kernel
theorem dX9_shift_15 : decode cX9_shift 15 = .ok (.iconst 1, 1) := by decide +kernel
theorem dX9_shift_16 : decode cX9_shift 16 = .ok (.invokevirtual 70, 3) := by decide +kernel
theorem dX9_shift_19 : decode cX9_shift 19 = .ok (.ifCond .eq 5, 3) := by decide +kernel
theorem dX9_shift_22 : decode cX9_shift 22 = .ok (.iconst 0, 1) := by decide +kernel
theorem dX9_shift_23 : decode cX9_shift 23 = .ok (.ireturn, 1) := by decide +kernel
theorem dX9_shift_24 : decode cX9_shift 24 = .ok (.aload_n 0, 1) := by decide +kernel
theorem dX9_shift_25 : decode cX9_shift 25 = .ok (.aload_n 0, 1) := by decide +kernel
theorem dX9_shift_26 : decode cX9_shift 26 = .ok (.getfield 7, 3) := by decide +kernel
theorem dX9_shift_29 : decode cX9_shift 29 = .ok (.invokevirtual 85, 3) := by decide +kernel
theorem dX9_shift_32 : decode cX9_shift 32 = .ok (.iconst 0, 1) := by decide +kernel
theorem dX9_shift_33 : decode cX9_shift 33 = .ok (.istore_n 2, 1) := by decide +kernel
theorem dX9_shift_34 : decode cX9_shift 34 = .ok (.iconst 0, 1) := by decide +kernel
theorem dX9_shift_35 : decode cX9_shift 35 = .ok (.istore_n 3, 1) := by decide +kernel
theorem dX9_shift_36 : decode cX9_shift 36 = .ok (.iload_n 3, 1) := by decide +kernel
theorem dX9_shift_37 : decode cX9_shift 37 = .ok (.aload_n 0, 1) := by decide +kernel
theorem dX9_shift_38 : decode cX9_shift 38 = .ok (.getfield 7, 3) := by decide +kernel
theorem dX9_shift_41 : decode cX9_shift 41 = .ok (.iconst 0, 1) := by decide +kernel
theorem dX9_shift_42 : decode cX9_shift 42 = .ok (.iaload, 1) := by decide +kernel
theorem dX9_shift_43 : decode cX9_shift 43 = .ok (.if_icmp .ge 30, 3) := by decide +kernel
theorem dX9_shift_46 : decode cX9_shift 46 = .ok (.aload_n 0, 1) := by decide +kernel
theorem dX9_shift_47 : decode cX9_shift 47 = .ok (.iload_n 3, 1) := by decide +kernel
theorem dX9_shift_48 : decode cX9_shift 48 = .ok (.iconst 0, 1) := by decide +kernel
theorem dX9_shift_49 : decode cX9_shift 49 = .ok (.invokevirtual 73, 3) := by decide +kernel
theorem dX9_shift_52 : decode cX9_shift 52 = .ok (.iload_n 1, 1) := by decide +kernel
theorem dX9_shift_53 : decode cX9_shift 53 = .ok (.if_icmp .ge 6, 3) := by decide +kernel
theorem dX9_shift_56 : decode cX9_shift 56 = .ok (.goto 11, 3) := by decide +kernel
theorem dX9_shift_59 : decode cX9_shift 59 = .ok (.aload_n 0, 1) := by decide +kernel
theorem dX9_shift_60 : decode cX9_shift 60 = .ok (.iload_n 3, 1) := by decide +kernel
theorem dX9_shift_61 : decode cX9_shift 61 = .ok (.invokevirtual 96, 3) := by decide +kernel
theorem dX9_shift_64 : decode cX9_shift 64 = .ok (.iinc 2 1, 3) := by decide +kernel
theorem dX9_shift_67 : decode cX9_shift 67 = .ok (.iinc 3 1, 3) := by decide +kernel
theorem dX9_shift_70 : decode cX9_shift 70 = .ok (.goto (-34), 3) := by decide +kernel
theorem dX9_shift_73 : decode cX9_shift 73 = .ok (.iload_n 2, 1) := by decide +kernel
theorem dX9_shift_74 : decode cX9_shift 74 = .ok (.ireturn, 1) := by decide +kernel
theorem dX9_pull_0 : decode cX9_pull 0 = .ok (.fconst 0, 1) := by decide +kernel
theorem dX9_pull_1 : decode cX9_pull 1 = .ok (.fstore_n 2, 1) := by decide +kernel
theorem dX9_pull_2 : decode cX9_pull 2 = .ok (.iconst 0, 1) := by decide +kernel
theorem dX9_pull_3 : decode cX9_pull 3 = .ok (.istore_n 3, 1) := by decide +kernel
theorem dX9_pull_4 : decode cX9_pull 4 = .ok (.iload_n 3, 1) := by decide +kernel
theorem dX9_pull_5 : decode cX9_pull 5 = .ok (.aload_n 0, 1) := by decide +kernel
theorem dX9_pull_6 : decode cX9_pull 6 = .ok (.getfield 7, 3) := by decide +kernel
theorem dX9_pull_9 : decode cX9_pull 9 = .ok (.iconst 0, 1) := by decide +kernel
theorem dX9_pull_10 : decode cX9_pull 10 = .ok (.iaload, 1) := by decide +kernel
theorem dX9_pull_11 : decode cX9_pull 11 = .ok (.if_icmp .ge 113, 3) := by decide +kernel
theorem dX9_pull_14 : decode cX9_pull 14 = .ok (.iload_n 3, 1) := by decide +kernel
theorem dX9_pull_15 : decode cX9_pull 15 = .ok (.iload_n 1, 1) := by decide +kernel
theorem dX9_pull_16 : decode cX9_pull 16 = .ok (.if_icmp .ne 6, 3) := by decide +kernel
theorem dX9_pull_19 : decode cX9_pull 19 = .ok (.goto 99, 3) := by decide +kernel
theorem dX9_pull_22 : decode cX9_pull 22 = .ok (.aload_n 0, 1) := by decide +kernel
theorem dX9_pull_23 : decode cX9_pull 23 = .ok (.iload_n 1, 1) := by decide +kernel
theorem dX9_pull_24 : decode cX9_pull 24 = .ok (.iconst 0, 1) := by decide +kernel
theorem dX9_pull_25 : decode cX9_pull 25 = .ok (.invokevirtual 73, 3) := by decide +kernel
theorem dX9_pull_28 : decode cX9_pull 28 = .ok (.aload_n 0, 1) := by decide +kernel
theorem dX9_pull_29 : decode cX9_pull 29 = .ok (.iload_n 3, 1) := by decide +kernel
theorem dX9_pull_30 : decode cX9_pull 30 = .ok (.iconst 0, 1) := by decide +kernel
theorem dX9_pull_31 : decode cX9_pull 31 = .ok (.invokevirtual 73, 3) := by decide +kernel
theorem dX9_pull_34 : decode cX9_pull 34 = .ok (.isub, 1) := by decide +kernel
theorem dX9_pull_35 : decode cX9_pull 35 = .ok (.istore 4, 2) := by decide +kernel
theorem dX9_pull_37 : decode cX9_pull 37 = .ok (.aload_n 0, 1) := by decide +kernel
theorem dX9_pull_38 : decode cX9_pull 38 = .ok (.iload_n 1, 1) := by decide +kernel
theorem dX9_pull_39 : decode cX9_pull 39 = .ok (.iconst 1, 1) := by decide +kernel
theorem dX9_pull_40 : decode cX9_pull 40 = .ok (.invokevirtual 73, 3) := by decide +kernel
theorem dX9_pull_43 : decode cX9_pull 43 = .ok (.aload_n 0, 1) := by decide +kernel
theorem dX9_pull_44 : decode cX9_pull 44 = .ok (.iload_n 3, 1) := by decide +kernel
theorem dX9_pull_45 : decode cX9_pull 45 = .ok (.iconst 1, 1) := by decide +kernel
theorem dX9_pull_46 : decode cX9_pull 46 = .ok (.invokevirtual 73, 3) := by decide +kernel
theorem dX9_pull_49 : decode cX9_pull 49 = .ok (.imul, 1) := by decide +kernel
theorem dX9_pull_50 : decode cX9_pull 50 = .ok (.i2f, 1) := by decide +kernel
theorem dX9_pull_51 : decode cX9_pull 51 = .ok (.iload 4, 2) := by decide +kernel
theorem dX9_pull_53 : decode cX9_pull 53 = .ok (.iload 4, 2) := by decide +kernel
theorem dX9_pull_55 : decode cX9_pull 55 = .ok (.imul, 1) := by decide +kernel
theorem dX9_pull_56 : decode cX9_pull 56 = .ok (.i2f, 1) := by decide +kernel
theorem dX9_pull_57 : decode cX9_pull 57 = .ok (.fdiv, 1) := by decide +kernel
theorem dX9_pull_58 : decode cX9_pull 58 = .ok (.fstore 5, 2) := by decide +kernel
theorem dX9_pull_60 : decode cX9_pull 60 = .ok (.iload 4, 2) := by decide +kernel
theorem dX9_pull_62 : decode cX9_pull 62 = .ok (.ifCond .le 7, 3) := by decide +kernel
theorem dX9_pull_65 : decode cX9_pull 65 = .ok (.iconst 1, 1) := by decide +kernel
theorem dX9_pull_66 : decode cX9_pull 66 = .ok (.goto 4, 3) := by decide +kernel
theorem dX9_pull_69 : decode cX9_pull 69 = .ok (.iconst 0, 1) := by decide +kernel
theorem dX9_pull_70 : decode cX9_pull 70 = .ok (.aload_n 0, 1) := by decide +kernel
theorem dX9_pull_71 : decode cX9_pull 71 = .ok (.iload_n 3, 1) := by decide +kernel
theorem dX9_pull_72 : decode cX9_pull 72 = .ok (.iconst 2, 1) := by decide +kernel
theorem dX9_pull_73 : decode cX9_pull 73 = .ok (.invokevirtual 73, 3) := by decide +kernel
theorem dX9_pull_76 : decode cX9_pull 76 = .ok (.aload_n 0, 1) := by decide +kernel
theorem dX9_pull_77 : decode cX9_pull 77 = .ok (.iload_n 1, 1) := by decide +kernel
theorem dX9_pull_78 : decode cX9_pull 78 = .ok (.iconst 2, 1) := by decide +kernel
theorem dX9_pull_79 : decode cX9_pull 79 = .ok (.invokevirtual 73, 3) := by decide +kernel
theorem dX9_pull_82 : decode cX9_pull 82 = .ok (.if_icmp .ne 7, 3) := by decide +kernel
theorem dX9_pull_85 : decode cX9_pull 85 = .ok (.iconst 1, 1) := by decide +kernel
theorem dX9_pull_86 : decode cX9_pull 86 = .ok (.goto 4, 3) := by decide +kernel
theorem dX9_pull_89 : decode cX9_pull 89 = .ok (.iconst 0, 1) := by decide +kernel
theorem dX9_pull_90 : decode cX9_pull 90 = .ok (.if_icmp .ne 7, 3) := by decide +kernel
theorem dX9_pull_93 : decode cX9_pull 93 = .ok (.iconst 1, 1) := by decide +kernel
theorem dX9_pull_94 : decode cX9_pull 94 = .ok (.goto 4, 3) := by decide +kernel
theorem dX9_pull_97 : decode cX9_pull 97 = .ok (.iconst 0, 1) := by decide +kernel
theorem dX9_pull_98 : decode cX9_pull 98 = .ok (.istore 6, 2) := by decide +kernel
theorem dX9_pull_100 : decode cX9_pull 100 = .ok (.iload 6, 2) := by decide +kernel
theorem dX9_pull_102 : decode cX9_pull 102 = .ok (.ifCond .eq 11, 3) := by decide +kernel
theorem dX9_pull_105 : decode cX9_pull 105 = .ok (.fload_n 2, 1) := by decide +kernel
theorem dX9_pull_106 : decode cX9_pull 106 = .ok (.fload 5, 2) := by decide +kernel
theorem dX9_pull_108 : decode cX9_pull 108 = .ok (.fadd, 1) := by decide +kernel
theorem dX9_pull_109 : decode cX9_pull 109 = .ok (.fstore_n 2, 1) := by decide +kernel
theorem dX9_pull_110 : decode cX9_pull 110 = .ok (.goto 8, 3) := by decide +kernel
theorem dX9_pull_113 : decode cX9_pull 113 = .ok (.fload_n 2, 1) := by decide +kernel
theorem dX9_pull_114 : decode cX9_pull 114 = .ok (.fload 5, 2) := by decide +kernel
theorem dX9_pull_116 : decode cX9_pull 116 = .ok (.fsub, 1) := by decide +kernel
theorem dX9_pull_117 : decode cX9_pull 117 = .ok (.fstore_n 2, 1) := by decide +kernel
theorem dX9_pull_118 : decode cX9_pull 118 = .ok (.iinc 3 1, 3) := by decide +kernel
theorem dX9_pull_121 : decode cX9_pull 121 = .ok (.goto (-117), 3) := by decide +kernel
theorem dX9_pull_124 : decode cX9_pull 124 = .ok (.fload_n 2, 1) := by decide +kernel
theorem dX9_pull_125 : decode cX9_pull 125 = .ok (.freturn, 1) := by decide +kernel
theorem dX9_move_0 : decode cX9_move 0 = .ok (.aload_n 0, 1) := by decide +kernel
theorem dX9_move_1 : decode cX9_move 1 = .ok (.aload_n 0, 1) := by decide +kernel
theorem dX9_move_2 : decode cX9_move 2 = .ok (.getfield 7, 3) := by decide +kernel
theorem dX9_move_5 : decode cX9_move 5 = .ok (.invokevirtual 85, 3) := by decide +kernel
theorem dX9_move_8 : decode cX9_move 8 = .ok (.iconst 0, 1) := by decide +kernel
theorem dX9_move_9 : decode cX9_move 9 = .ok (.istore_n 1, 1) := by decide +kernel
theorem dX9_move_10 : decode cX9_move 10 = .ok (.iconst 0, 1) := by decide +kernel
theorem dX9_move_11 : decode cX9_move 11 = .ok (.istore_n 2, 1) := by decide +kernel
theorem dX9_move_12 : decode cX9_move 12 = .ok (.iload_n 2, 1) := by decide +kernel
theorem dX9_move_13 : decode cX9_move 13 = .ok (.aload_n 0, 1) := by decide +kernel
theorem dX9_move_14 : decode cX9_move 14 = .ok (.getfield 7, 3) := by decide +kernel
theorem dX9_move_17 : decode cX9_move 17 = .ok (.iconst 0, 1) := by decide +kernel
theorem dX9_move_18 : decode cX9_move 18 = .ok (.iaload, 1) := by decide +kernel
theorem dX9_move_19 : decode cX9_move 19 = .ok (.if_icmp .ge 79, 3) := by decide +kernel
theorem dX9_move_22 : decode cX9_move 22 = .ok (.aload_n 0, 1) := by decide +kernel
theorem dX9_move_23 : decode cX9_move 23 = .ok (.iload_n 2, 1) := by decide +kernel
theorem dX9_move_24 : decode cX9_move 24 = .ok (.invokevirtual 103, 3) := by decide +kernel
theorem dX9_move_27 : decode cX9_move 27 = .ok (.fstore_n 3, 1) := by decide +kernel
theorem dX9_move_28 : decode cX9_move 28 = .ok (.aload_n 0, 1) := by decide +kernel
theorem dX9_move_29 : decode cX9_move 29 = .ok (.iload_n 2, 1) := by decide +kernel
theorem dX9_move_30 : decode cX9_move 30 = .ok (.iconst 0, 1) := by decide +kernel
theorem dX9_move_31 : decode cX9_move 31 = .ok (.invokevirtual 73, 3) := by decide +kernel
theorem dX9_move_34 : decode cX9_move 34 = .ok (.fload_n 3, 1) := by decide +kernel
theorem dX9_move_35 : decode cX9_move 35 = .ok (.fconst 0, 1) := by decide +kernel
theorem dX9_move_36 : decode cX9_move 36 = .ok (.fcmp .l, 1) := by decide +kernel
theorem dX9_move_37 : decode cX9_move 37 = .ok (.ifCond .le 7, 3) := by decide +kernel
theorem dX9_move_40 : decode cX9_move 40 = .ok (.iconst 1, 1) := by decide +kernel
theorem dX9_move_41 : decode cX9_move 41 = .ok (.goto 14, 3) := by decide +kernel
theorem dX9_move_44 : decode cX9_move 44 = .ok (.fload_n 3, 1) := by decide +kernel
theorem dX9_move_45 : decode cX9_move 45 = .ok (.fconst 0, 1) := by decide +kernel
theorem dX9_move_46 : decode cX9_move 46 = .ok (.fcmp .g, 1) := by decide +kernel
theorem dX9_move_47 : decode cX9_move 47 = .ok (.ifCond .ge 7, 3) := by decide +kernel
theorem dX9_move_50 : decode cX9_move 50 = .ok (.iconst (-1), 1) := by decide +kernel
theorem dX9_move_51 : decode cX9_move 51 = .ok (.goto 4, 3) := by decide +kernel
theorem dX9_move_54 : decode cX9_move 54 = .ok (.iconst 0, 1) := by decide +kernel
theorem dX9_move_55 : decode cX9_move 55 = .ok (.iadd, 1) := by decide +kernel
theorem dX9_move_56 : decode cX9_move 56 = .ok (.istore 4, 2) := by decide +kernel
theorem dX9_move_58 : decode cX9_move 58 = .ok (.iload 4, 2) := by decide +kernel
theorem dX9_move_60 : decode cX9_move 60 = .ok (.iconst 0, 1) := by decide +kernel
theorem dX9_move_61 : decode cX9_move 61 = .ok (.bipush 99, 2) := by decide +kernel
theorem dX9_move_63 : decode cX9_move 63 = .ok (.invokestatic 62, 3) := by decide +kernel
theorem dX9_move_66 : decode cX9_move 66 = .ok (.ifCond .eq 26, 3) := by decide +kernel
theorem dX9_move_69 : decode cX9_move 69 = .ok (.aload_n 0, 1) := by decide +kernel
theorem dX9_move_70 : decode cX9_move 70 = .ok (.iload 4, 2) := by decide +kernel
theorem dX9_move_72 : decode cX9_move 72 = .ok (.invokevirtual 81, 3) := by decide +kernel
theorem dX9_move_75 : decode cX9_move 75 = .ok (.ifCond .lt 6, 3) := by decide +kernel
theorem dX9_move_78 : decode cX9_move 78 = .ok (.goto 14, 3) := by decide +kernel
theorem dX9_move_81 : decode cX9_move 81 = .ok (.aload_n 0, 1) := by decide +kernel
theorem dX9_move_82 : decode cX9_move 82 = .ok (.iload_n 2, 1) := by decide +kernel
theorem dX9_move_83 : decode cX9_move 83 = .ok (.iconst 0, 1) := by decide +kernel
theorem dX9_move_84 : decode cX9_move 84 = .ok (.iload 4, 2) := by decide +kernel
theorem dX9_move_86 : decode cX9_move 86 = .ok (.invokevirtual 89, 3) := by decide +kernel
theorem dX9_move_89 : decode cX9_move 89 = .ok (.iinc 1 1, 3) := by decide +kernel
theorem dX9_move_92 : decode cX9_move 92 = .ok (.iinc 2 1, 3) := by decide +kernel
theorem dX9_move_95 : decode cX9_move 95 = .ok (.goto (-83), 3) := by decide +kernel
theorem dX9_move_98 : decode cX9_move 98 = .ok (.aload_n 0, 1) := by decide +kernel
theorem dX9_move_99 : decode cX9_move 99 = .ok (.getfield 7, 3) := by decide +kernel
theorem dX9_move_102 : decode cX9_move 102 = .ok (.iconst 3, 1) := by decide +kernel
theorem dX9_move_103 : decode cX9_move 103 = .ok (.dup2, 1) := by decide +kernel
theorem dX9_move_104 : decode cX9_move 104 = .ok (.iaload, 1) := by decide +kernel
theorem dX9_move_105 : decode cX9_move 105 = .ok (.iload_n 1, 1) := by decide +kernel
theorem dX9_move_106 : decode cX9_move 106 = .ok (.iadd, 1) := by decide +kernel
theorem dX9_move_107 : decode cX9_move 107 = .ok (.iastore, 1) := by decide +kernel
theorem dX9_move_108 : decode cX9_move 108 = .ok (.iload_n 1, 1) := by decide +kernel
theorem dX9_move_109 : decode cX9_move 109 = .ok (.ireturn, 1) := by decide +kernel
theorem dX9_magnetCount_0 : decode cX9_magnetCount 0 = .ok (.aload_n 0, 1) := by decide +kernel
theorem dX9_magnetCount_1 : decode cX9_magnetCount 1 = .ok (.iconst 0, 1) := by decide +kernel
theorem dX9_magnetCount_2 : decode cX9_magnetCount 2 = .ok (.putfield 36, 3) := by decide +kernel
theorem dX9_magnetCount_5 : decode cX9_magnetCount 5 = .ok (.aload_n 0, 1) := by decide +kernel
theorem dX9_magnetCount_6 : decode cX9_magnetCount 6 = .ok (.getfield 7, 3) := by decide +kernel
theorem dX9_magnetCount_9 : decode cX9_magnetCount 9 = .ok (.iconst 0, 1) := by decide +kernel
theorem dX9_magnetCount_10 : decode cX9_magnetCount 10 = .ok (.iaload, 1) := by decide +kernel
theorem dX9_magnetCount_11 : decode cX9_magnetCount 11 = .ok (.ireturn, 1) := by decide +kernel
theorem dX9_position_0 : decode cX9_position 0 = .ok (.aload_n 0, 1) := by decide +kernel
theorem dX9_position_1 : decode cX9_position 1 = .ok (.iload_n 1, 1) := by decide +kernel
theorem dX9_position_2 : decode cX9_position 2 = .ok (.invokevirtual 93, 3) := by decide +kernel
theorem dX9_position_5 : decode cX9_position 5 = .ok (.ifCond .eq 7, 3) := by decide +kernel
theorem dX9_position_8 : decode cX9_position 8 = .ok (.iconst 0, 1) := by decide +kernel
theorem dX9_position_9 : decode cX9_position 9 = .ok (.goto 9, 3) := by decide +kernel
theorem dX9_position_12 : decode cX9_position 12 = .ok (.aload_n 0, 1) := by decide +kernel
theorem dX9_position_13 : decode cX9_position 13 = .ok (.iload_n 1, 1) := by decide +kernel
theorem dX9_position_14 : decode cX9_position 14 = .ok (.iconst 0, 1) := by decide +kernel
theorem dX9_position_15 : decode cX9_position 15 = .ok (.invokevirtual 73, 3) := by decide +kernel
theorem dX9_position_18 : decode cX9_position 18 = .ok (.ireturn, 1) := by decide +kernel
theorem dX9_strength_0 : decode cX9_strength 0 = .ok (.aload_n 0, 1) := by decide +kernel
theorem dX9_strength_1 : decode cX9_strength 1 = .ok (.iload_n 1, 1) := by decide +kernel
theorem dX9_strength_2 : decode cX9_strength 2 = .ok (.invokevirtual 93, 3) := by decide +kernel
theorem dX9_strength_5 : decode cX9_strength 5 = .ok (.ifCond .eq 7, 3) := by decide +kernel
theorem dX9_strength_8 : decode cX9_strength 8 = .ok (.iconst 0, 1) := by decide +kernel
theorem dX9_strength_9 : decode cX9_strength 9 = .ok (.goto 9, 3) := by decide +kernel
theorem dX9_strength_12 : decode cX9_strength 12 = .ok (.aload_n 0, 1) := by decide +kernel
theorem dX9_strength_13 : decode cX9_strength 13 = .ok (.iload_n 1, 1) := by decide +kernel
theorem dX9_strength_14 : decode cX9_strength 14 = .ok (.iconst 1, 1) := by decide +kernel
theorem dX9_strength_15 : decode cX9_strength 15 = .ok (.invokevirtual 73, 3) := by decide +kernel
theorem dX9_strength_18 : decode cX9_strength 18 = .ok (.ireturn, 1) := by decide +kernel
theorem dX9_sign_0 : decode cX9_sign 0 = .ok (.aload_n 0, 1) := by decide +kernel
theorem dX9_sign_1 : decode cX9_sign 1 = .ok (.iload_n 1, 1) := by decide +kernel
theorem dX9_sign_2 : decode cX9_sign 2 = .ok (.iconst 2, 1) := by decide +kernel
theorem dX9_sign_3 : decode cX9_sign 3 = .ok (.invokevirtual 73, 3) := by decide +kernel
theorem dX9_sign_6 : decode cX9_sign 6 = .ok (.iconst 1, 1) := by decide +kernel
theorem dX9_sign_7 : decode cX9_sign 7 = .ok (.if_icmp .ne 8, 3) := by decide +kernel
theorem dX9_sign_10 : decode cX9_sign 10 = .ok (.bipush 110, 2) := by decide +kernel
theorem dX9_sign_12 : decode cX9_sign 12 = .ok (.goto 5, 3) := by decide +kernel
theorem dX9_sign_15 : decode cX9_sign 15 = .ok (.bipush 115, 2) := by decide +kernel
theorem dX9_sign_17 : decode cX9_sign 17 = .ok (.ireturn, 1) := by decide +kernel
theorem dX9_pole_0 : decode cX9_pole 0 = .ok (.aload_n 0, 1) := by decide +kernel
theorem dX9_pole_1 : decode cX9_pole 1 = .ok (.iload_n 1, 1) := by decide +kernel
theorem dX9_pole_2 : decode cX9_pole 2 = .ok (.invokevirtual 93, 3) := by decide +kernel
theorem dX9_pole_5 : decode cX9_pole 5 = .ok (.ifCond .eq 8, 3) := by decide +kernel
theorem dX9_pole_8 : decode cX9_pole 8 = .ok (.bipush 32, 2) := by decide +kernel
theorem dX9_pole_10 : decode cX9_pole 10 = .ok (.goto 8, 3) := by decide +kernel
theorem dX9_pole_13 : decode cX9_pole 13 = .ok (.aload_n 0, 1) := by decide +kernel
theorem dX9_pole_14 : decode cX9_pole 14 = .ok (.iload_n 1, 1) := by decide +kernel
theorem dX9_pole_15 : decode cX9_pole 15 = .ok (.invokevirtual 107, 3) := by decide +kernel
theorem dX9_pole_18 : decode cX9_pole 18 = .ok (.ireturn, 1) := by decide +kernel
theorem dX9_magnetAt_0 : decode cX9_magnetAt 0 = .ok (.aload_n 0, 1) := by decide +kernel
theorem dX9_magnetAt_1 : decode cX9_magnetAt 1 = .ok (.iload_n 1, 1) := by decide +kernel
theorem dX9_magnetAt_2 : decode cX9_magnetAt 2 = .ok (.iconst 0, 1) := by decide +kernel
theorem dX9_magnetAt_3 : decode cX9_magnetAt 3 = .ok (.bipush 99, 2) := by decide +kernel
theorem dX9_magnetAt_5 : decode cX9_magnetAt 5 = .ok (.invokestatic 62, 3) := by decide +kernel
theorem dX9_magnetAt_8 : decode cX9_magnetAt 8 = .ok (.ifCond .ne 7, 3) := by decide +kernel
theorem dX9_magnetAt_11 : decode cX9_magnetAt 11 = .ok (.iconst 1, 1) := by decide +kernel
theorem dX9_magnetAt_12 : decode cX9_magnetAt 12 = .ok (.goto 16, 3) := by decide +kernel
theorem dX9_magnetAt_15 : decode cX9_magnetAt 15 = .ok (.aload_n 0, 1) := by decide +kernel
theorem dX9_magnetAt_16 : decode cX9_magnetAt 16 = .ok (.iload_n 1, 1) := by decide +kernel
theorem dX9_magnetAt_17 : decode cX9_magnetAt 17 = .ok (.invokevirtual 81, 3) := by decide +kernel
theorem dX9_magnetAt_20 : decode cX9_magnetAt 20 = .ok (.ifCond .ge 7, 3) := by decide +kernel
theorem dX9_magnetAt_23 : decode cX9_magnetAt 23 = .ok (.iconst 2, 1) := by decide +kernel
theorem dX9_magnetAt_24 : decode cX9_magnetAt 24 = .ok (.goto 4, 3) := by decide +kernel
theorem dX9_magnetAt_27 : decode cX9_magnetAt 27 = .ok (.iconst 0, 1) := by decide +kernel
theorem dX9_magnetAt_28 : decode cX9_magnetAt 28 = .ok (.invokevirtual 70, 3) := by decide +kernel
theorem dX9_magnetAt_31 : decode cX9_magnetAt 31 = .ok (.ifCond .eq 7, 3) := by decide +kernel
theorem dX9_magnetAt_34 : decode cX9_magnetAt 34 = .ok (.iconst 0, 1) := by decide +kernel
theorem dX9_magnetAt_35 : decode cX9_magnetAt 35 = .ok (.goto 8, 3) := by decide +kernel
theorem dX9_magnetAt_38 : decode cX9_magnetAt 38 = .ok (.aload_n 0, 1) := by decide +kernel
theorem dX9_magnetAt_39 : decode cX9_magnetAt 39 = .ok (.iload_n 1, 1) := by decide +kernel
theorem dX9_magnetAt_40 : decode cX9_magnetAt 40 = .ok (.invokevirtual 81, 3) := by decide +kernel
theorem dX9_magnetAt_43 : decode cX9_magnetAt 43 = .ok (.ireturn, 1) := by decide +kernel
theorem dX9_isAhead_0 : decode cX9_isAhead 0 = .ok (.aload_n 0, 1) := by decide +kernel
theorem dX9_isAhead_1 : decode cX9_isAhead 1 = .ok (.iload_n 1, 1) := by decide +kernel
theorem dX9_isAhead_2 : decode cX9_isAhead 2 = .ok (.iconst 1, 1) := by decide +kernel
theorem dX9_isAhead_3 : decode cX9_isAhead 3 = .ok (.invokevirtual 73, 3) := by decide +kernel
theorem dX9_isAhead_6 : decode cX9_isAhead 6 = .ok (.aload_n 0, 1) := by decide +kernel
theorem dX9_isAhead_7 : decode cX9_isAhead 7 = .ok (.iload_n 2, 1) := by decide +kernel
theorem dX9_isAhead_8 : decode cX9_isAhead 8 = .ok (.iconst 1, 1) := by decide +kernel
theorem dX9_isAhead_9 : decode cX9_isAhead 9 = .ok (.invokevirtual 73, 3) := by decide +kernel
theorem dX9_isAhead_12 : decode cX9_isAhead 12 = .ok (.if_icmp .eq 26, 3) := by decide +kernel
theorem dX9_isAhead_15 : decode cX9_isAhead 15 = .ok (.aload_n 0, 1) := by decide +kernel
theorem dX9_isAhead_16 : decode cX9_isAhead 16 = .ok (.iload_n 1, 1) := by decide +kernel
theorem dX9_isAhead_17 : decode cX9_isAhead 17 = .ok (.iconst 1, 1) := by decide +kernel
theorem dX9_isAhead_18 : decode cX9_isAhead 18 = .ok (.invokevirtual 73, 3) := by decide +kernel
theorem dX9_isAhead_21 : decode cX9_isAhead 21 = .ok (.aload_n 0, 1) := by decide +kernel
theorem dX9_isAhead_22 : decode cX9_isAhead 22 = .ok (.iload_n 2, 1) := by decide +kernel
theorem dX9_isAhead_23 : decode cX9_isAhead 23 = .ok (.iconst 1, 1) := by decide +kernel
theorem dX9_isAhead_24 : decode cX9_isAhead 24 = .ok (.invokevirtual 73, 3) := by decide +kernel
theorem dX9_isAhead_27 : decode cX9_isAhead 27 = .ok (.if_icmp .le 7, 3) := by decide +kernel
theorem dX9_isAhead_30 : decode cX9_isAhead 30 = .ok (.iconst 1, 1) := by decide +kernel
theorem dX9_isAhead_31 : decode cX9_isAhead 31 = .ok (.goto 27, 3) := by decide +kernel
theorem dX9_isAhead_34 : decode cX9_isAhead 34 = .ok (.iconst 0, 1) := by decide +kernel
theorem dX9_isAhead_35 : decode cX9_isAhead 35 = .ok (.goto 23, 3) := by decide +kernel
theorem dX9_isAhead_38 : decode cX9_isAhead 38 = .ok (.aload_n 0, 1) := by decide +kernel
theorem dX9_isAhead_39 : decode cX9_isAhead 39 = .ok (.iload_n 1, 1) := by decide +kernel
theorem dX9_isAhead_40 : decode cX9_isAhead 40 = .ok (.iconst 0, 1) := by decide +kernel
theorem dX9_isAhead_41 : decode cX9_isAhead 41 = .ok (.invokevirtual 73, 3) := by decide +kernel
theorem dX9_isAhead_44 : decode cX9_isAhead 44 = .ok (.aload_n 0, 1) := by decide +kernel
theorem dX9_isAhead_45 : decode cX9_isAhead 45 = .ok (.iload_n 2, 1) := by decide +kernel
theorem dX9_isAhead_46 : decode cX9_isAhead 46 = .ok (.iconst 0, 1) := by decide +kernel
theorem dX9_isAhead_47 : decode cX9_isAhead 47 = .ok (.invokevirtual 73, 3) := by decide +kernel
theorem dX9_isAhead_50 : decode cX9_isAhead 50 = .ok (.if_icmp .ge 7, 3) := by decide +kernel
theorem dX9_isAhead_53 : decode cX9_isAhead 53 = .ok (.iconst 1, 1) := by decide +kernel
theorem dX9_isAhead_54 : decode cX9_isAhead 54 = .ok (.goto 4, 3) := by decide +kernel
theorem dX9_isAhead_57 : decode cX9_isAhead 57 = .ok (.iconst 0, 1) := by decide +kernel
theorem dX9_isAhead_58 : decode cX9_isAhead 58 = .ok (.ireturn, 1) := by decide +kernel
theorem dX9_magnetByStrength_0 : decode cX9_magnetByStrength 0 = .ok (.iconst 0, 1) := by decide +kernel
theorem dX9_magnetByStrength_1 : decode cX9_magnetByStrength 1 = .ok (.istore_n 2, 1) := by decide +kernel
theorem dX9_magnetByStrength_2 : decode cX9_magnetByStrength 2 = .ok (.iload_n 2, 1) := by decide +kernel
theorem dX9_magnetByStrength_3 : decode cX9_magnetByStrength 3 = .ok (.aload_n 0, 1) := by decide +kernel
theorem dX9_magnetByStrength_4 : decode cX9_magnetByStrength 4 = .ok (.getfield 7, 3) := by decide +kernel
theorem dX9_magnetByStrength_7 : decode cX9_magnetByStrength 7 = .ok (.iconst 0, 1) := by decide +kernel
theorem dX9_magnetByStrength_8 : decode cX9_magnetByStrength 8 = .ok (.iaload, 1) := by decide +kernel
theorem dX9_magnetByStrength_9 : decode cX9_magnetByStrength 9 = .ok (.if_icmp .ge 70, 3) := by decide +kernel
theorem dX9_magnetByStrength_12 : decode cX9_magnetByStrength 12 = .ok (.iconst 0, 1) := by decide +kernel
theorem dX9_magnetByStrength_13 : decode cX9_magnetByStrength 13 = .ok (.istore_n 3, 1) := by decide +kernel
theorem dX9_magnetByStrength_14 : decode cX9_magnetByStrength 14 = .ok (.iconst 0, 1) := by decide +kernel
theorem dX9_magnetByStrength_15 : decode cX9_magnetByStrength 15 = .ok (.istore 4, 2) := by decide +kernel
theorem dX9_magnetByStrength_17 : decode cX9_magnetByStrength 17 = .ok (.iload 4, 2) := by decide +kernel
theorem dX9_magnetByStrength_19 : decode cX9_magnetByStrength 19 = .ok (.aload_n 0, 1) := by decide +kernel
theorem dX9_magnetByStrength_20 : decode cX9_magnetByStrength 20 = .ok (.getfield 7, 3) := by decide +kernel
theorem dX9_magnetByStrength_23 : decode cX9_magnetByStrength 23 = .ok (.iconst 0, 1) := by decide +kernel
theorem dX9_magnetByStrength_24 : decode cX9_magnetByStrength 24 = .ok (.iaload, 1) := by decide +kernel
theorem dX9_magnetByStrength_25 : decode cX9_magnetByStrength 25 = .ok (.if_icmp .ge 33, 3) := by decide +kernel
theorem dX9_magnetByStrength_28 : decode cX9_magnetByStrength 28 = .ok (.iload_n 3, 1) := by decide +kernel
theorem dX9_magnetByStrength_29 : decode cX9_magnetByStrength 29 = .ok (.iload 4, 2) := by decide +kernel
theorem dX9_magnetByStrength_31 : decode cX9_magnetByStrength 31 = .ok (.iload_n 2, 1) := by decide +kernel
theorem dX9_magnetByStrength_32 : decode cX9_magnetByStrength 32 = .ok (.if_icmp .eq 17, 3) := by decide +kernel
theorem dX9_magnetByStrength_35 : decode cX9_magnetByStrength 35 = .ok (.aload_n 0, 1) := by decide +kernel
theorem dX9_magnetByStrength_36 : decode cX9_magnetByStrength 36 = .ok (.iload 4, 2) := by decide +kernel
theorem dX9_magnetByStrength_38 : decode cX9_magnetByStrength 38 = .ok (.iload_n 2, 1) := by decide +kernel
theorem dX9_magnetByStrength_39 : decode cX9_magnetByStrength 39 = .ok (.invokevirtual 111, 3) := by decide +kernel
theorem dX9_magnetByStrength_42 : decode cX9_magnetByStrength 42 = .ok (.ifCond .eq 7, 3) := by decide +kernel
theorem dX9_magnetByStrength_45 : decode cX9_magnetByStrength 45 = .ok (.iconst 1, 1) := by decide +kernel
theorem dX9_magnetByStrength_46 : decode cX9_magnetByStrength 46 = .ok (.goto 4, 3) := by decide +kernel
theorem dX9_magnetByStrength_49 : decode cX9_magnetByStrength 49 = .ok (.iconst 0, 1) := by decide +kernel
theorem dX9_magnetByStrength_50 : decode cX9_magnetByStrength 50 = .ok (.iadd, 1) := by decide +kernel
theorem dX9_magnetByStrength_51 : decode cX9_magnetByStrength 51 = .ok (.istore_n 3, 1) := by decide +kernel
theorem dX9_magnetByStrength_52 : decode cX9_magnetByStrength 52 = .ok (.iinc 4 1, 3) := by decide +kernel
theorem dX9_magnetByStrength_55 : decode cX9_magnetByStrength 55 = .ok (.goto (-38), 3) := by decide +kernel
theorem dX9_magnetByStrength_58 : decode cX9_magnetByStrength 58 = .ok (.iload_n 3, 1) := by decide +kernel
theorem dX9_magnetByStrength_59 : decode cX9_magnetByStrength 59 = .ok (.iload_n 1, 1) := by decide +kernel
theorem dX9_magnetByStrength_60 : decode cX9_magnetByStrength 60 = .ok (.if_icmp .eq 6, 3) := by decide +kernel
theorem dX9_magnetByStrength_63 : decode cX9_magnetByStrength 63 = .ok (.goto 10, 3) := by decide +kernel
theorem dX9_magnetByStrength_66 : decode cX9_magnetByStrength 66 = .ok (.aload_n 0, 1) := by decide +kernel
theorem dX9_magnetByStrength_67 : decode cX9_magnetByStrength 67 = .ok (.iconst 0, 1) := by decide +kernel
theorem dX9_magnetByStrength_68 : decode cX9_magnetByStrength 68 = .ok (.putfield 36, 3) := by decide +kernel
theorem dX9_magnetByStrength_71 : decode cX9_magnetByStrength 71 = .ok (.iload_n 2, 1) := by decide +kernel
theorem dX9_magnetByStrength_72 : decode cX9_magnetByStrength 72 = .ok (.ireturn, 1) := by decide +kernel
theorem dX9_magnetByStrength_73 : decode cX9_magnetByStrength 73 = .ok (.iinc 2 1, 3) := by decide +kernel
theorem dX9_magnetByStrength_76 : decode cX9_magnetByStrength 76 = .ok (.goto (-74), 3) := by decide +kernel
theorem dX9_magnetByStrength_79 : decode cX9_magnetByStrength 79 = .ok (.aload_n 0, 1) := by decide +kernel
theorem dX9_magnetByStrength_80 : decode cX9_magnetByStrength 80 = .ok (.iconst 1, 1) := by decide +kernel
theorem dX9_magnetByStrength_81 : decode cX9_magnetByStrength 81 = .ok (.putfield 36, 3) := by decide +kernel
theorem dX9_magnetByStrength_84 : decode cX9_magnetByStrength 84 = .ok (.iconst 0, 1) := by decide +kernel
theorem dX9_magnetByStrength_85 : decode cX9_magnetByStrength 85 = .ok (.ireturn, 1) := by decide +kernel
theorem dX9_isTunnel_0 : decode cX9_isTunnel 0 = .ok (.iload_n 1, 1) := by decide +kernel
theorem dX9_isTunnel_1 : decode cX9_isTunnel 1 = .ok (.iconst 0, 1) := by decide +kernel
theorem dX9_isTunnel_2 : decode cX9_isTunnel 2 = .ok (.aload_n 0, 1) := by decide +kernel
theorem dX9_isTunnel_3 : decode cX9_isTunnel 3 = .ok (.getfield 7, 3) := by decide +kernel
theorem dX9_isTunnel_6 : decode cX9_isTunnel 6 = .ok (.iconst 1, 1) := by decide +kernel
theorem dX9_isTunnel_7 : decode cX9_isTunnel 7 = .ok (.iaload, 1) := by decide +kernel
theorem dX9_isTunnel_8 : decode cX9_isTunnel 8 = .ok (.iconst 1, 1) := by decide +kernel
theorem dX9_isTunnel_9 : decode cX9_isTunnel 9 = .ok (.isub, 1) := by decide +kernel
theorem dX9_isTunnel_10 : decode cX9_isTunnel 10 = .ok (.invokestatic 62, 3) := by decide +kernel
theorem dX9_isTunnel_13 : decode cX9_isTunnel 13 = .ok (.ireturn, 1) := by decide +kernel
theorem dX9_joins_0 : decode cX9_joins 0 = .ok (.aload_n 0, 1) := by decide +kernel
theorem dX9_joins_1 : decode cX9_joins 1 = .ok (.getfield 7, 3) := by decide +kernel
theorem dX9_joins_4 : decode cX9_joins 4 = .ok (.bipush 40, 2) := by decide +kernel
theorem dX9_joins_6 : decode cX9_joins 6 = .ok (.iconst 2, 1) := by decide +kernel
theorem dX9_joins_7 : decode cX9_joins 7 = .ok (.iload_n 1, 1) := by decide +kernel
theorem dX9_joins_8 : decode cX9_joins 8 = .ok (.imul, 1) := by decide +kernel
theorem dX9_joins_9 : decode cX9_joins 9 = .ok (.iadd, 1) := by decide +kernel
theorem dX9_joins_10 : decode cX9_joins 10 = .ok (.iload_n 2, 1) := by decide +kernel
theorem dX9_joins_11 : decode cX9_joins 11 = .ok (.iadd, 1) := by decide +kernel
theorem dX9_joins_12 : decode cX9_joins 12 = .ok (.iaload, 1) := by decide +kernel
theorem dX9_joins_13 : decode cX9_joins 13 = .ok (.ireturn, 1) := by decide +kernel
theorem dX9_between_0 : decode cX9_between 0 = .ok (.iconst 0, 1) := by decide +kernel
theorem dX9_between_1 : decode cX9_between 1 = .ok (.istore_n 3, 1) := by decide +kernel
theorem dX9_between_2 : decode cX9_between 2 = .ok (.iload_n 3, 1) := by decide +kernel
theorem dX9_between_3 : decode cX9_between 3 = .ok (.aload_n 0, 1) := by decide +kernel
theorem dX9_between_4 : decode cX9_between 4 = .ok (.getfield 7, 3) := by decide +kernel
theorem dX9_between_7 : decode cX9_between 7 = .ok (.iconst 1, 1) := by decide +kernel
theorem dX9_between_8 : decode cX9_between 8 = .ok (.iaload, 1) := by decide +kernel
theorem dX9_between_9 : decode cX9_between 9 = .ok (.if_icmp .ge 51, 3) := by decide +kernel
theorem dX9_between_12 : decode cX9_between 12 = .ok (.aload_n 0, 1) := by decide +kernel
theorem dX9_between_13 : decode cX9_between 13 = .ok (.iload_n 3, 1) := by decide +kernel
theorem dX9_between_14 : decode cX9_between 14 = .ok (.iconst 0, 1) := by decide +kernel
theorem dX9_between_15 : decode cX9_between 15 = .ok (.invokevirtual 115, 3) := by decide +kernel
theorem dX9_between_18 : decode cX9_between 18 = .ok (.iload_n 1, 1) := by decide +kernel
theorem dX9_between_19 : decode cX9_between 19 = .ok (.if_icmp .ne 13, 3) := by decide +kernel
theorem dX9_between_22 : decode cX9_between 22 = .ok (.aload_n 0, 1) := by decide +kernel
theorem dX9_between_23 : decode cX9_between 23 = .ok (.iload_n 3, 1) := by decide +kernel
theorem dX9_between_24 : decode cX9_between 24 = .ok (.iconst 1, 1) := by decide +kernel
theorem dX9_between_25 : decode cX9_between 25 = .ok (.invokevirtual 115, 3) := by decide +kernel
theorem dX9_between_28 : decode cX9_between 28 = .ok (.iload_n 2, 1) := by decide +kernel
theorem dX9_between_29 : decode cX9_between 29 = .ok (.if_icmp .eq 23, 3) := by decide +kernel
theorem dX9_between_32 : decode cX9_between 32 = .ok (.aload_n 0, 1) := by decide +kernel
theorem dX9_between_33 : decode cX9_between 33 = .ok (.iload_n 3, 1) := by decide +kernel
theorem dX9_between_34 : decode cX9_between 34 = .ok (.iconst 0, 1) := by decide +kernel
theorem dX9_between_35 : decode cX9_between 35 = .ok (.invokevirtual 115, 3) := by decide +kernel
theorem dX9_between_38 : decode cX9_between 38 = .ok (.iload_n 2, 1) := by decide +kernel
theorem dX9_between_39 : decode cX9_between 39 = .ok (.if_icmp .ne 15, 3) := by decide +kernel
theorem dX9_between_42 : decode cX9_between 42 = .ok (.aload_n 0, 1) := by decide +kernel
theorem dX9_between_43 : decode cX9_between 43 = .ok (.iload_n 3, 1) := by decide +kernel
theorem dX9_between_44 : decode cX9_between 44 = .ok (.iconst 1, 1) := by decide +kernel
theorem dX9_between_45 : decode cX9_between 45 = .ok (.invokevirtual 115, 3) := by decide +kernel
theorem dX9_between_48 : decode cX9_between 48 = .ok (.iload_n 1, 1) := by decide +kernel
theorem dX9_between_49 : decode cX9_between 49 = .ok (.if_icmp .ne 5, 3) := by decide +kernel
theorem dX9_between_52 : decode cX9_between 52 = .ok (.iload_n 3, 1) := by decide +kernel
theorem dX9_between_53 : decode cX9_between 53 = .ok (.ireturn, 1) := by decide +kernel
theorem dX9_between_54 : decode cX9_between 54 = .ok (.iinc 3 1, 3) := by decide +kernel
theorem dX9_between_57 : decode cX9_between 57 = .ok (.goto (-55), 3) := by decide +kernel
theorem dX9_between_60 : decode cX9_between 60 = .ok (.iconst (-1), 1) := by decide +kernel
theorem dX9_between_61 : decode cX9_between 61 = .ok (.ireturn, 1) := by decide +kernel
theorem dX9_isFree_0 : decode cX9_isFree 0 = .ok (.aload_n 0, 1) := by decide +kernel
theorem dX9_isFree_1 : decode cX9_isFree 1 = .ok (.iload_n 1, 1) := by decide +kernel
theorem dX9_isFree_2 : decode cX9_isFree 2 = .ok (.iconst 0, 1) := by decide +kernel
theorem dX9_isFree_3 : decode cX9_isFree 3 = .ok (.invokevirtual 115, 3) := by decide +kernel
theorem dX9_isFree_6 : decode cX9_isFree 6 = .ok (.istore_n 3, 1) := by decide +kernel
theorem dX9_isFree_7 : decode cX9_isFree 7 = .ok (.aload_n 0, 1) := by decide +kernel
theorem dX9_isFree_8 : decode cX9_isFree 8 = .ok (.iload_n 1, 1) := by decide +kernel
theorem dX9_isFree_9 : decode cX9_isFree 9 = .ok (.iconst 1, 1) := by decide +kernel
theorem dX9_isFree_10 : decode cX9_isFree 10 = .ok (.invokevirtual 115, 3) := by decide +kernel
theorem dX9_isFree_13 : decode cX9_isFree 13 = .ok (.istore 4, 2) := by decide +kernel
theorem dX9_isFree_15 : decode cX9_isFree 15 = .ok (.aload_n 0, 1) := by decide +kernel
theorem dX9_isFree_16 : decode cX9_isFree 16 = .ok (.iload_n 3, 1) := by decide +kernel
theorem dX9_isFree_17 : decode cX9_isFree 17 = .ok (.iconst 2, 1) := by decide +kernel
theorem dX9_isFree_18 : decode cX9_isFree 18 = .ok (.invokevirtual 73, 3) := by decide +kernel
theorem dX9_isFree_21 : decode cX9_isFree 21 = .ok (.iload_n 2, 1) := by decide +kernel
theorem dX9_isFree_22 : decode cX9_isFree 22 = .ok (.iload_n 3, 1) := by decide +kernel
theorem dX9_isFree_23 : decode cX9_isFree 23 = .ok (.ishr, 1) := by decide +kernel
theorem dX9_isFree_24 : decode cX9_isFree 24 = .ok (.iconst 1, 1) := by decide +kernel
theorem dX9_isFree_25 : decode cX9_isFree 25 = .ok (.iand, 1) := by decide +kernel
theorem dX9_isFree_26 : decode cX9_isFree 26 = .ok (.iadd, 1) := by decide +kernel
theorem dX9_isFree_27 : decode cX9_isFree 27 = .ok (.iconst 2, 1) := by decide +kernel
theorem dX9_isFree_28 : decode cX9_isFree 28 = .ok (.irem, 1) := by decide +kernel
theorem dX9_isFree_29 : decode cX9_isFree 29 = .ok (.aload_n 0, 1) := by decide +kernel
theorem dX9_isFree_30 : decode cX9_isFree 30 = .ok (.iload 4, 2) := by decide +kernel
theorem dX9_isFree_32 : decode cX9_isFree 32 = .ok (.iconst 2, 1) := by decide +kernel
theorem dX9_isFree_33 : decode cX9_isFree 33 = .ok (.invokevirtual 73, 3) := by decide +kernel
theorem dX9_isFree_36 : decode cX9_isFree 36 = .ok (.iload_n 2, 1) := by decide +kernel
theorem dX9_isFree_37 : decode cX9_isFree 37 = .ok (.iload 4, 2) := by decide +kernel
theorem dX9_isFree_39 : decode cX9_isFree 39 = .ok (.ishr, 1) := by decide +kernel
theorem dX9_isFree_40 : decode cX9_isFree 40 = .ok (.iconst 1, 1) := by decide +kernel
theorem dX9_isFree_41 : decode cX9_isFree 41 = .ok (.iand, 1) := by decide +kernel
theorem dX9_isFree_42 : decode cX9_isFree 42 = .ok (.iadd, 1) := by decide +kernel
theorem dX9_isFree_43 : decode cX9_isFree 43 = .ok (.iconst 2, 1) := by decide +kernel
theorem dX9_isFree_44 : decode cX9_isFree 44 = .ok (.irem, 1) := by decide +kernel
theorem dX9_isFree_45 : decode cX9_isFree 45 = .ok (.if_icmp .eq 7, 3) := by decide +kernel
theorem dX9_isFree_48 : decode cX9_isFree 48 = .ok (.iconst 1, 1) := by decide +kernel
theorem dX9_isFree_49 : decode cX9_isFree 49 = .ok (.goto 4, 3) := by decide +kernel
theorem dX9_isFree_52 : decode cX9_isFree 52 = .ok (.iconst 0, 1) := by decide +kernel
theorem dX9_isFree_53 : decode cX9_isFree 53 = .ok (.ireturn, 1) := by decide +kernel
theorem dX9_shut_0 : decode cX9_shut 0 = .ok (.iconst 0, 1) := by decide +kernel
theorem dX9_shut_1 : decode cX9_shut 1 = .ok (.istore_n 2, 1) := by decide +kernel
theorem dX9_shut_2 : decode cX9_shut 2 = .ok (.iconst 0, 1) := by decide +kernel
theorem dX9_shut_3 : decode cX9_shut 3 = .ok (.istore_n 3, 1) := by decide +kernel
theorem dX9_shut_4 : decode cX9_shut 4 = .ok (.iload_n 3, 1) := by decide +kernel
theorem dX9_shut_5 : decode cX9_shut 5 = .ok (.aload_n 0, 1) := by decide +kernel
theorem dX9_shut_6 : decode cX9_shut 6 = .ok (.getfield 7, 3) := by decide +kernel
theorem dX9_shut_9 : decode cX9_shut 9 = .ok (.iconst 1, 1) := by decide +kernel
theorem dX9_shut_10 : decode cX9_shut 10 = .ok (.iaload, 1) := by decide +kernel
theorem dX9_shut_11 : decode cX9_shut 11 = .ok (.if_icmp .ge 26, 3) := by decide +kernel
theorem dX9_shut_14 : decode cX9_shut 14 = .ok (.iload_n 2, 1) := by decide +kernel
theorem dX9_shut_15 : decode cX9_shut 15 = .ok (.aload_n 0, 1) := by decide +kernel
theorem dX9_shut_16 : decode cX9_shut 16 = .ok (.iload_n 3, 1) := by decide +kernel
theorem dX9_shut_17 : decode cX9_shut 17 = .ok (.iload_n 1, 1) := by decide +kernel
theorem dX9_shut_18 : decode cX9_shut 18 = .ok (.invokevirtual 118, 3) := by decide +kernel
theorem dX9_shut_21 : decode cX9_shut 21 = .ok (.ifCond .eq 7, 3) := by decide +kernel
theorem dX9_shut_24 : decode cX9_shut 24 = .ok (.iconst 0, 1) := by decide +kernel
theorem dX9_shut_25 : decode cX9_shut 25 = .ok (.goto 4, 3) := by decide +kernel
theorem dX9_shut_28 : decode cX9_shut 28 = .ok (.iconst 1, 1) := by decide +kernel
theorem dX9_shut_29 : decode cX9_shut 29 = .ok (.iadd, 1) := by decide +kernel
theorem dX9_shut_30 : decode cX9_shut 30 = .ok (.istore_n 2, 1) := by decide +kernel
theorem dX9_shut_31 : decode cX9_shut 31 = .ok (.iinc 3 1, 3) := by decide +kernel
theorem dX9_shut_34 : decode cX9_shut 34 = .ok (.goto (-30), 3) := by decide +kernel
theorem dX9_shut_37 : decode cX9_shut 37 = .ok (.iload_n 2, 1) := by decide +kernel
theorem dX9_shut_38 : decode cX9_shut 38 = .ok (.ireturn, 1) := by decide +kernel
theorem dX9_dig_0 : decode cX9_dig 0 = .ok (.aload_n 0, 1) := by decide +kernel
theorem dX9_dig_1 : decode cX9_dig 1 = .ok (.aload_n 0, 1) := by decide +kernel
theorem dX9_dig_2 : decode cX9_dig 2 = .ok (.iload_n 1, 1) := by decide +kernel
theorem dX9_dig_3 : decode cX9_dig 3 = .ok (.invokevirtual 66, 3) := by decide +kernel
theorem dX9_dig_6 : decode cX9_dig 6 = .ok (.ifCond .eq 11, 3) := by decide +kernel
theorem dX9_dig_9 : decode cX9_dig 9 = .ok (.aload_n 0, 1) := by decide +kernel
theorem dX9_dig_10 : decode cX9_dig 10 = .ok (.iload_n 2, 1) := by decide +kernel
theorem dX9_dig_11 : decode cX9_dig 11 = .ok (.invokevirtual 66, 3) := by decide +kernel
theorem dX9_dig_14 : decode cX9_dig 14 = .ok (.ifCond .ne 7, 3) := by decide +kernel
theorem dX9_dig_17 : decode cX9_dig 17 = .ok (.iconst 1, 1) := by decide +kernel
theorem dX9_dig_18 : decode cX9_dig 18 = .ok (.goto 13, 3) := by decide +kernel
theorem dX9_dig_21 : decode cX9_dig 21 = .ok (.iload_n 1, 1) := by decide +kernel
theorem dX9_dig_22 : decode cX9_dig 22 = .ok (.iload_n 2, 1) := by decide +kernel
theorem dX9_dig_23 : decode cX9_dig 23 = .ok (.if_icmp .ne 7, 3) := by decide +kernel
theorem dX9_dig_26 : decode cX9_dig 26 = .ok (.iconst 2, 1) := by decide +kernel
theorem dX9_dig_27 : decode cX9_dig 27 = .ok (.goto 4, 3) := by decide +kernel
theorem dX9_dig_30 : decode cX9_dig 30 = .ok (.iconst 0, 1) := by decide +kernel
theorem dX9_dig_31 : decode cX9_dig 31 = .ok (.invokevirtual 70, 3) := by decide +kernel
theorem dX9_dig_34 : decode cX9_dig 34 = .ok (.ifCond .eq 5, 3) := by decide +kernel
theorem dX9_dig_37 : decode cX9_dig 37 = .ok (.iconst 0, 1) := by decide +kernel
theorem dX9_dig_38 : decode cX9_dig 38 = .ok (.ireturn, 1) := by decide +kernel
theorem dX9_dig_39 : decode cX9_dig 39 = .ok (.aload_n 0, 1) := by decide +kernel
theorem dX9_dig_40 : decode cX9_dig 40 = .ok (.iload_n 1, 1) := by decide +kernel
theorem dX9_dig_41 : decode cX9_dig 41 = .ok (.iload_n 2, 1) := by decide +kernel
theorem dX9_dig_42 : decode cX9_dig 42 = .ok (.invokevirtual 121, 3) := by decide +kernel
theorem dX9_dig_45 : decode cX9_dig 45 = .ok (.ifCond .lt 16, 3) := by decide +kernel
theorem dX9_dig_48 : decode cX9_dig 48 = .ok (.aload_n 0, 1) := by decide +kernel
theorem dX9_dig_49 : decode cX9_dig 49 = .ok (.iconst 3, 1) := by decide +kernel
end
section
theorem dX9_dig_50 : decode cX9_dig 50 = .ok (.iconst 3, 1) := by decide +kernel
theorem dX9_dig_51 : decode cX9_dig 51 = .ok (.aload_n 0, 1) := by decide +kernel
theorem dX9_dig_52 : decode cX9_dig 52 = .ok (.iload_n 1, 1) := by decide +kernel
theorem dX9_dig_53 : decode cX9_dig 53 = .ok (.iload_n 2, 1) := by decide +kernel
theorem dX9_dig_54 : decode cX9_dig 54 = .ok (.invokevirtual 121, 3) := by decide +kernel
theorem dX9_dig_57 : decode cX9_dig 57 = .ok (.invokevirtual 77, 3) := by decide +kernel
theorem dX9_dig_60 : decode cX9_dig 60 = .ok (.ireturn, 1) := by decide +kernel
theorem dX9_dig_61 : decode cX9_dig 61 = .ok (.aload_n 0, 1) := by decide +kernel
theorem dX9_dig_62 : decode cX9_dig 62 = .ok (.getfield 7, 3) := by decide +kernel
theorem dX9_dig_65 : decode cX9_dig 65 = .ok (.iconst 1, 1) := by decide +kernel
theorem dX9_dig_66 : decode cX9_dig 66 = .ok (.iaload, 1) := by decide +kernel
theorem dX9_dig_67 : decode cX9_dig 67 = .ok (.bipush 16, 2) := by decide +kernel
theorem dX9_dig_69 : decode cX9_dig 69 = .ok (.if_icmp .ne 12, 3) := by decide +kernel
theorem dX9_dig_72 : decode cX9_dig 72 = .ok (.aload_n 0, 1) := by decide +kernel
theorem dX9_dig_73 : decode cX9_dig 73 = .ok (.iconst 3, 1) := by decide +kernel
theorem dX9_dig_74 : decode cX9_dig 74 = .ok (.iconst 1, 1) := by decide +kernel
theorem dX9_dig_75 : decode cX9_dig 75 = .ok (.bipush 16, 2) := by decide +kernel
theorem dX9_dig_77 : decode cX9_dig 77 = .ok (.invokevirtual 77, 3) := by decide +kernel
theorem dX9_dig_80 : decode cX9_dig 80 = .ok (.ireturn, 1) := by decide +kernel
theorem dX9_dig_81 : decode cX9_dig 81 = .ok (.aload_n 0, 1) := by decide +kernel
theorem dX9_dig_82 : decode cX9_dig 82 = .ok (.aload_n 0, 1) := by decide +kernel
theorem dX9_dig_83 : decode cX9_dig 83 = .ok (.getfield 7, 3) := by decide +kernel
theorem dX9_dig_86 : decode cX9_dig 86 = .ok (.invokevirtual 85, 3) := by decide +kernel
theorem dX9_dig_89 : decode cX9_dig 89 = .ok (.aload_n 0, 1) := by decide +kernel
theorem dX9_dig_90 : decode cX9_dig 90 = .ok (.getfield 7, 3) := by decide +kernel
theorem dX9_dig_93 : decode cX9_dig 93 = .ok (.bipush 40, 2) := by decide +kernel
theorem dX9_dig_95 : decode cX9_dig 95 = .ok (.iconst 2, 1) := by decide +kernel
theorem dX9_dig_96 : decode cX9_dig 96 = .ok (.aload_n 0, 1) := by decide +kernel
theorem dX9_dig_97 : decode cX9_dig 97 = .ok (.getfield 7, 3) := by decide +kernel
theorem dX9_dig_100 : decode cX9_dig 100 = .ok (.iconst 1, 1) := by decide +kernel
theorem dX9_dig_101 : decode cX9_dig 101 = .ok (.iaload, 1) := by decide +kernel
theorem dX9_dig_102 : decode cX9_dig 102 = .ok (.imul, 1) := by decide +kernel
theorem dX9_dig_103 : decode cX9_dig 103 = .ok (.iadd, 1) := by decide +kernel
theorem dX9_dig_104 : decode cX9_dig 104 = .ok (.iconst 0, 1) := by decide +kernel
theorem dX9_dig_105 : decode cX9_dig 105 = .ok (.iadd, 1) := by decide +kernel
theorem dX9_dig_106 : decode cX9_dig 106 = .ok (.iload_n 1, 1) := by decide +kernel
theorem dX9_dig_107 : decode cX9_dig 107 = .ok (.iastore, 1) := by decide +kernel
theorem dX9_dig_108 : decode cX9_dig 108 = .ok (.aload_n 0, 1) := by decide +kernel
theorem dX9_dig_109 : decode cX9_dig 109 = .ok (.getfield 7, 3) := by decide +kernel
theorem dX9_dig_112 : decode cX9_dig 112 = .ok (.bipush 40, 2) := by decide +kernel
theorem dX9_dig_114 : decode cX9_dig 114 = .ok (.iconst 2, 1) := by decide +kernel
theorem dX9_dig_115 : decode cX9_dig 115 = .ok (.aload_n 0, 1) := by decide +kernel
theorem dX9_dig_116 : decode cX9_dig 116 = .ok (.getfield 7, 3) := by decide +kernel
theorem dX9_dig_119 : decode cX9_dig 119 = .ok (.iconst 1, 1) := by decide +kernel
theorem dX9_dig_120 : decode cX9_dig 120 = .ok (.iaload, 1) := by decide +kernel
theorem dX9_dig_121 : decode cX9_dig 121 = .ok (.imul, 1) := by decide +kernel
theorem dX9_dig_122 : decode cX9_dig 122 = .ok (.iadd, 1) := by decide +kernel
theorem dX9_dig_123 : decode cX9_dig 123 = .ok (.iconst 1, 1) := by decide +kernel
theorem dX9_dig_124 : decode cX9_dig 124 = .ok (.iadd, 1) := by decide +kernel
theorem dX9_dig_125 : decode cX9_dig 125 = .ok (.iload_n 2, 1) := by decide +kernel
theorem dX9_dig_126 : decode cX9_dig 126 = .ok (.iastore, 1) := by decide +kernel
theorem dX9_dig_127 : decode cX9_dig 127 = .ok (.aload_n 0, 1) := by decide +kernel
theorem dX9_dig_128 : decode cX9_dig 128 = .ok (.getfield 7, 3) := by decide +kernel
theorem dX9_dig_131 : decode cX9_dig 131 = .ok (.iconst 1, 1) := by decide +kernel
theorem dX9_dig_132 : decode cX9_dig 132 = .ok (.dup2, 1) := by decide +kernel
theorem dX9_dig_133 : decode cX9_dig 133 = .ok (.iaload, 1) := by decide +kernel
theorem dX9_dig_134 : decode cX9_dig 134 = .ok (.iconst 1, 1) := by decide +kernel
theorem dX9_dig_135 : decode cX9_dig 135 = .ok (.iadd, 1) := by decide +kernel
theorem dX9_dig_136 : decode cX9_dig 136 = .ok (.iastore, 1) := by decide +kernel
theorem dX9_dig_137 : decode cX9_dig 137 = .ok (.aload_n 0, 1) := by decide +kernel
theorem dX9_dig_138 : decode cX9_dig 138 = .ok (.getfield 7, 3) := by decide +kernel
theorem dX9_dig_141 : decode cX9_dig 141 = .ok (.iconst 1, 1) := by decide +kernel
theorem dX9_dig_142 : decode cX9_dig 142 = .ok (.iaload, 1) := by decide +kernel
theorem dX9_dig_143 : decode cX9_dig 143 = .ok (.iconst 1, 1) := by decide +kernel
theorem dX9_dig_144 : decode cX9_dig 144 = .ok (.isub, 1) := by decide +kernel
theorem dX9_dig_145 : decode cX9_dig 145 = .ok (.ireturn, 1) := by decide +kernel
theorem dX9_fill_0 : decode cX9_fill 0 = .ok (.aload_n 0, 1) := by decide +kernel
theorem dX9_fill_1 : decode cX9_fill 1 = .ok (.aload_n 0, 1) := by decide +kernel
theorem dX9_fill_2 : decode cX9_fill 2 = .ok (.iload_n 1, 1) := by decide +kernel
theorem dX9_fill_3 : decode cX9_fill 3 = .ok (.invokevirtual 124, 3) := by decide +kernel
theorem dX9_fill_6 : decode cX9_fill 6 = .ok (.ifCond .eq 7, 3) := by decide +kernel
theorem dX9_fill_9 : decode cX9_fill 9 = .ok (.iconst 0, 1) := by decide +kernel
theorem dX9_fill_10 : decode cX9_fill 10 = .ok (.goto 4, 3) := by decide +kernel
theorem dX9_fill_13 : decode cX9_fill 13 = .ok (.iconst 1, 1) := by decide +kernel
theorem dX9_fill_14 : decode cX9_fill 14 = .ok (.invokevirtual 70, 3) := by decide +kernel
theorem dX9_fill_17 : decode cX9_fill 17 = .ok (.ifCond .eq 5, 3) := by decide +kernel
theorem dX9_fill_20 : decode cX9_fill 20 = .ok (.iconst 0, 1) := by decide +kernel
theorem dX9_fill_21 : decode cX9_fill 21 = .ok (.ireturn, 1) := by decide +kernel
theorem dX9_fill_22 : decode cX9_fill 22 = .ok (.aload_n 0, 1) := by decide +kernel
theorem dX9_fill_23 : decode cX9_fill 23 = .ok (.aload_n 0, 1) := by decide +kernel
theorem dX9_fill_24 : decode cX9_fill 24 = .ok (.getfield 7, 3) := by decide +kernel
theorem dX9_fill_27 : decode cX9_fill 27 = .ok (.invokevirtual 85, 3) := by decide +kernel
theorem dX9_fill_30 : decode cX9_fill 30 = .ok (.aload_n 0, 1) := by decide +kernel
theorem dX9_fill_31 : decode cX9_fill 31 = .ok (.getfield 7, 3) := by decide +kernel
theorem dX9_fill_34 : decode cX9_fill 34 = .ok (.iconst 1, 1) := by decide +kernel
theorem dX9_fill_35 : decode cX9_fill 35 = .ok (.dup2, 1) := by decide +kernel
theorem dX9_fill_36 : decode cX9_fill 36 = .ok (.iaload, 1) := by decide +kernel
theorem dX9_fill_37 : decode cX9_fill 37 = .ok (.iconst 1, 1) := by decide +kernel
theorem dX9_fill_38 : decode cX9_fill 38 = .ok (.isub, 1) := by decide +kernel
theorem dX9_fill_39 : decode cX9_fill 39 = .ok (.iastore, 1) := by decide +kernel
theorem dX9_fill_40 : decode cX9_fill 40 = .ok (.bipush 40, 2) := by decide +kernel
theorem dX9_fill_42 : decode cX9_fill 42 = .ok (.iconst 2, 1) := by decide +kernel
theorem dX9_fill_43 : decode cX9_fill 43 = .ok (.iload_n 1, 1) := by decide +kernel
theorem dX9_fill_44 : decode cX9_fill 44 = .ok (.imul, 1) := by decide +kernel
theorem dX9_fill_45 : decode cX9_fill 45 = .ok (.iadd, 1) := by decide +kernel
theorem dX9_fill_46 : decode cX9_fill 46 = .ok (.istore_n 2, 1) := by decide +kernel
theorem dX9_fill_47 : decode cX9_fill 47 = .ok (.iload_n 2, 1) := by decide +kernel
theorem dX9_fill_48 : decode cX9_fill 48 = .ok (.bipush 40, 2) := by decide +kernel
theorem dX9_fill_50 : decode cX9_fill 50 = .ok (.iconst 2, 1) := by decide +kernel
theorem dX9_fill_51 : decode cX9_fill 51 = .ok (.aload_n 0, 1) := by decide +kernel
theorem dX9_fill_52 : decode cX9_fill 52 = .ok (.getfield 7, 3) := by decide +kernel
theorem dX9_fill_55 : decode cX9_fill 55 = .ok (.iconst 1, 1) := by decide +kernel
theorem dX9_fill_56 : decode cX9_fill 56 = .ok (.iaload, 1) := by decide +kernel
theorem dX9_fill_57 : decode cX9_fill 57 = .ok (.imul, 1) := by decide +kernel
theorem dX9_fill_58 : decode cX9_fill 58 = .ok (.iadd, 1) := by decide +kernel
theorem dX9_fill_59 : decode cX9_fill 59 = .ok (.if_icmp .ge 23, 3) := by decide +kernel
theorem dX9_fill_62 : decode cX9_fill 62 = .ok (.aload_n 0, 1) := by decide +kernel
theorem dX9_fill_63 : decode cX9_fill 63 = .ok (.getfield 7, 3) := by decide +kernel
theorem dX9_fill_66 : decode cX9_fill 66 = .ok (.iload_n 2, 1) := by decide +kernel
theorem dX9_fill_67 : decode cX9_fill 67 = .ok (.aload_n 0, 1) := by decide +kernel
theorem dX9_fill_68 : decode cX9_fill 68 = .ok (.getfield 7, 3) := by decide +kernel
theorem dX9_fill_71 : decode cX9_fill 71 = .ok (.iload_n 2, 1) := by decide +kernel
theorem dX9_fill_72 : decode cX9_fill 72 = .ok (.iconst 2, 1) := by decide +kernel
theorem dX9_fill_73 : decode cX9_fill 73 = .ok (.iadd, 1) := by decide +kernel
theorem dX9_fill_74 : decode cX9_fill 74 = .ok (.iaload, 1) := by decide +kernel
theorem dX9_fill_75 : decode cX9_fill 75 = .ok (.iastore, 1) := by decide +kernel
theorem dX9_fill_76 : decode cX9_fill 76 = .ok (.iinc 2 1, 3) := by decide +kernel
theorem dX9_fill_79 : decode cX9_fill 79 = .ok (.goto (-32), 3) := by decide +kernel
theorem dX9_fill_82 : decode cX9_fill 82 = .ok (.aload_n 0, 1) := by decide +kernel
theorem dX9_fill_83 : decode cX9_fill 83 = .ok (.getfield 7, 3) := by decide +kernel
theorem dX9_fill_86 : decode cX9_fill 86 = .ok (.bipush 40, 2) := by decide +kernel
theorem dX9_fill_88 : decode cX9_fill 88 = .ok (.iconst 2, 1) := by decide +kernel
theorem dX9_fill_89 : decode cX9_fill 89 = .ok (.aload_n 0, 1) := by decide +kernel
theorem dX9_fill_90 : decode cX9_fill 90 = .ok (.getfield 7, 3) := by decide +kernel
theorem dX9_fill_93 : decode cX9_fill 93 = .ok (.iconst 1, 1) := by decide +kernel
theorem dX9_fill_94 : decode cX9_fill 94 = .ok (.iaload, 1) := by decide +kernel
theorem dX9_fill_95 : decode cX9_fill 95 = .ok (.imul, 1) := by decide +kernel
theorem dX9_fill_96 : decode cX9_fill 96 = .ok (.iadd, 1) := by decide +kernel
theorem dX9_fill_97 : decode cX9_fill 97 = .ok (.iconst 0, 1) := by decide +kernel
theorem dX9_fill_98 : decode cX9_fill 98 = .ok (.iastore, 1) := by decide +kernel
theorem dX9_fill_99 : decode cX9_fill 99 = .ok (.aload_n 0, 1) := by decide +kernel
theorem dX9_fill_100 : decode cX9_fill 100 = .ok (.getfield 7, 3) := by decide +kernel
theorem dX9_fill_103 : decode cX9_fill 103 = .ok (.bipush 40, 2) := by decide +kernel
theorem dX9_fill_105 : decode cX9_fill 105 = .ok (.iconst 2, 1) := by decide +kernel
theorem dX9_fill_106 : decode cX9_fill 106 = .ok (.aload_n 0, 1) := by decide +kernel
theorem dX9_fill_107 : decode cX9_fill 107 = .ok (.getfield 7, 3) := by decide +kernel
theorem dX9_fill_110 : decode cX9_fill 110 = .ok (.iconst 1, 1) := by decide +kernel
theorem dX9_fill_111 : decode cX9_fill 111 = .ok (.iaload, 1) := by decide +kernel
theorem dX9_fill_112 : decode cX9_fill 112 = .ok (.imul, 1) := by decide +kernel
theorem dX9_fill_113 : decode cX9_fill 113 = .ok (.iadd, 1) := by decide +kernel
theorem dX9_fill_114 : decode cX9_fill 114 = .ok (.iconst 1, 1) := by decide +kernel
theorem dX9_fill_115 : decode cX9_fill 115 = .ok (.iadd, 1) := by decide +kernel
theorem dX9_fill_116 : decode cX9_fill 116 = .ok (.iconst 0, 1) := by decide +kernel
theorem dX9_fill_117 : decode cX9_fill 117 = .ok (.iastore, 1) := by decide +kernel
theorem dX9_fill_118 : decode cX9_fill 118 = .ok (.aload_n 0, 1) := by decide +kernel
theorem dX9_fill_119 : decode cX9_fill 119 = .ok (.getfield 7, 3) := by decide +kernel
theorem dX9_fill_122 : decode cX9_fill 122 = .ok (.iconst 1, 1) := by decide +kernel
theorem dX9_fill_123 : decode cX9_fill 123 = .ok (.iaload, 1) := by decide +kernel
theorem dX9_fill_124 : decode cX9_fill 124 = .ok (.ireturn, 1) := by decide +kernel
theorem dX9_best_0 : decode cX9_best 0 = .ok (.iconst (-1), 1) := by decide +kernel
theorem dX9_best_1 : decode cX9_best 1 = .ok (.istore_n 1, 1) := by decide +kernel
theorem dX9_best_2 : decode cX9_best 2 = .ok (.iconst 0, 1) := by decide +kernel
theorem dX9_best_3 : decode cX9_best 3 = .ok (.istore_n 2, 1) := by decide +kernel
theorem dX9_best_4 : decode cX9_best 4 = .ok (.iload_n 2, 1) := by decide +kernel
theorem dX9_best_5 : decode cX9_best 5 = .ok (.iconst 1, 1) := by decide +kernel
theorem dX9_best_6 : decode cX9_best 6 = .ok (.aload_n 0, 1) := by decide +kernel
theorem dX9_best_7 : decode cX9_best 7 = .ok (.getfield 7, 3) := by decide +kernel
theorem dX9_best_10 : decode cX9_best 10 = .ok (.iconst 0, 1) := by decide +kernel
theorem dX9_best_11 : decode cX9_best 11 = .ok (.iaload, 1) := by decide +kernel
theorem dX9_best_12 : decode cX9_best 12 = .ok (.ishl, 1) := by decide +kernel
theorem dX9_best_13 : decode cX9_best 13 = .ok (.if_icmp .ge 61, 3) := by decide +kernel
theorem dX9_best_16 : decode cX9_best 16 = .ok (.aload_n 0, 1) := by decide +kernel
theorem dX9_best_17 : decode cX9_best 17 = .ok (.iload_n 2, 1) := by decide +kernel
theorem dX9_best_18 : decode cX9_best 18 = .ok (.invokevirtual 100, 3) := by decide +kernel
theorem dX9_best_21 : decode cX9_best 21 = .ok (.ifCond .le 6, 3) := by decide +kernel
theorem dX9_best_24 : decode cX9_best 24 = .ok (.goto 44, 3) := by decide +kernel
theorem dX9_best_27 : decode cX9_best 27 = .ok (.iload_n 2, 1) := by decide +kernel
theorem dX9_best_28 : decode cX9_best 28 = .ok (.iload_n 1, 1) := by decide +kernel
theorem dX9_best_29 : decode cX9_best 29 = .ok (.ixor, 1) := by decide +kernel
theorem dX9_best_30 : decode cX9_best 30 = .ok (.istore_n 3, 1) := by decide +kernel
theorem dX9_best_31 : decode cX9_best 31 = .ok (.iload_n 1, 1) := by decide +kernel
theorem dX9_best_32 : decode cX9_best 32 = .ok (.ifCond .lt 34, 3) := by decide +kernel
theorem dX9_best_35 : decode cX9_best 35 = .ok (.iload_n 2, 1) := by decide +kernel
theorem dX9_best_36 : decode cX9_best 36 = .ok (.invokestatic 127, 3) := by decide +kernel
theorem dX9_best_39 : decode cX9_best 39 = .ok (.iload_n 1, 1) := by decide +kernel
theorem dX9_best_40 : decode cX9_best 40 = .ok (.invokestatic 127, 3) := by decide +kernel
theorem dX9_best_43 : decode cX9_best 43 = .ok (.if_icmp .lt 23, 3) := by decide +kernel
theorem dX9_best_46 : decode cX9_best 46 = .ok (.iload_n 2, 1) := by decide +kernel
theorem dX9_best_47 : decode cX9_best 47 = .ok (.invokestatic 127, 3) := by decide +kernel
theorem dX9_best_50 : decode cX9_best 50 = .ok (.iload_n 1, 1) := by decide +kernel
theorem dX9_best_51 : decode cX9_best 51 = .ok (.invokestatic 127, 3) := by decide +kernel
theorem dX9_best_54 : decode cX9_best 54 = .ok (.if_icmp .ne 14, 3) := by decide +kernel
theorem dX9_best_57 : decode cX9_best 57 = .ok (.iload_n 2, 1) := by decide +kernel
theorem dX9_best_58 : decode cX9_best 58 = .ok (.iload_n 3, 1) := by decide +kernel
theorem dX9_best_59 : decode cX9_best 59 = .ok (.iand, 1) := by decide +kernel
theorem dX9_best_60 : decode cX9_best 60 = .ok (.iload_n 3, 1) := by decide +kernel
theorem dX9_best_61 : decode cX9_best 61 = .ok (.ineg, 1) := by decide +kernel
theorem dX9_best_62 : decode cX9_best 62 = .ok (.iand, 1) := by decide +kernel
theorem dX9_best_63 : decode cX9_best 63 = .ok (.ifCond .eq 5, 3) := by decide +kernel
theorem dX9_best_66 : decode cX9_best 66 = .ok (.iload_n 2, 1) := by decide +kernel
theorem dX9_best_67 : decode cX9_best 67 = .ok (.istore_n 1, 1) := by decide +kernel
theorem dX9_best_68 : decode cX9_best 68 = .ok (.iinc 2 1, 3) := by decide +kernel
theorem dX9_best_71 : decode cX9_best 71 = .ok (.goto (-67), 3) := by decide +kernel
theorem dX9_best_74 : decode cX9_best 74 = .ok (.iload_n 1, 1) := by decide +kernel
theorem dX9_best_75 : decode cX9_best 75 = .ok (.ireturn, 1) := by decide +kernel
theorem dX9_settle_0 : decode cX9_settle 0 = .ok (.aload_n 0, 1) := by decide +kernel
theorem dX9_settle_1 : decode cX9_settle 1 = .ok (.iconst 0, 1) := by decide +kernel
theorem dX9_settle_2 : decode cX9_settle 2 = .ok (.invokevirtual 100, 3) := by decide +kernel
theorem dX9_settle_5 : decode cX9_settle 5 = .ok (.istore_n 1, 1) := by decide +kernel
theorem dX9_settle_6 : decode cX9_settle 6 = .ok (.iload_n 1, 1) := by decide +kernel
theorem dX9_settle_7 : decode cX9_settle 7 = .ok (.ifCond .ne 16, 3) := by decide +kernel
theorem dX9_settle_10 : decode cX9_settle 10 = .ok (.aload_n 0, 1) := by decide +kernel
theorem dX9_settle_11 : decode cX9_settle 11 = .ok (.iconst 1, 1) := by decide +kernel
theorem dX9_settle_12 : decode cX9_settle 12 = .ok (.iconst 5, 1) := by decide +kernel
theorem dX9_settle_13 : decode cX9_settle 13 = .ok (.aload_n 0, 1) := by decide +kernel
theorem dX9_settle_14 : decode cX9_settle 14 = .ok (.getfield 7, 3) := by decide +kernel
theorem dX9_settle_17 : decode cX9_settle 17 = .ok (.iconst 1, 1) := by decide +kernel
theorem dX9_settle_18 : decode cX9_settle 18 = .ok (.iaload, 1) := by decide +kernel
theorem dX9_settle_19 : decode cX9_settle 19 = .ok (.invokevirtual 77, 3) := by decide +kernel
theorem dX9_settle_22 : decode cX9_settle 22 = .ok (.ireturn, 1) := by decide +kernel
theorem dX9_settle_23 : decode cX9_settle 23 = .ok (.aload_n 0, 1) := by decide +kernel
theorem dX9_settle_24 : decode cX9_settle 24 = .ok (.invokevirtual 130, 3) := by decide +kernel
theorem dX9_settle_27 : decode cX9_settle 27 = .ok (.istore_n 2, 1) := by decide +kernel
theorem dX9_settle_28 : decode cX9_settle 28 = .ok (.iload_n 2, 1) := by decide +kernel
theorem dX9_settle_29 : decode cX9_settle 29 = .ok (.ifCond .ge 11, 3) := by decide +kernel
theorem dX9_settle_32 : decode cX9_settle 32 = .ok (.aload_n 0, 1) := by decide +kernel
theorem dX9_settle_33 : decode cX9_settle 33 = .ok (.iconst 1, 1) := by decide +kernel
theorem dX9_settle_34 : decode cX9_settle 34 = .ok (.iconst 4, 1) := by decide +kernel
theorem dX9_settle_35 : decode cX9_settle 35 = .ok (.iload_n 1, 1) := by decide +kernel
theorem dX9_settle_36 : decode cX9_settle 36 = .ok (.invokevirtual 77, 3) := by decide +kernel
theorem dX9_settle_39 : decode cX9_settle 39 = .ok (.ireturn, 1) := by decide +kernel
theorem dX9_settle_40 : decode cX9_settle 40 = .ok (.aload_n 0, 1) := by decide +kernel
theorem dX9_settle_41 : decode cX9_settle 41 = .ok (.aload_n 0, 1) := by decide +kernel
theorem dX9_settle_42 : decode cX9_settle 42 = .ok (.getfield 7, 3) := by decide +kernel
theorem dX9_settle_45 : decode cX9_settle 45 = .ok (.invokevirtual 85, 3) := by decide +kernel
theorem dX9_settle_48 : decode cX9_settle 48 = .ok (.iconst 0, 1) := by decide +kernel
theorem dX9_settle_49 : decode cX9_settle 49 = .ok (.istore_n 3, 1) := by decide +kernel
theorem dX9_settle_50 : decode cX9_settle 50 = .ok (.iload_n 3, 1) := by decide +kernel
theorem dX9_settle_51 : decode cX9_settle 51 = .ok (.aload_n 0, 1) := by decide +kernel
theorem dX9_settle_52 : decode cX9_settle 52 = .ok (.getfield 7, 3) := by decide +kernel
theorem dX9_settle_55 : decode cX9_settle 55 = .ok (.iconst 0, 1) := by decide +kernel
theorem dX9_settle_56 : decode cX9_settle 56 = .ok (.iaload, 1) := by decide +kernel
theorem dX9_settle_57 : decode cX9_settle 57 = .ok (.if_icmp .ge 23, 3) := by decide +kernel
theorem dX9_settle_60 : decode cX9_settle 60 = .ok (.iload_n 2, 1) := by decide +kernel
theorem dX9_settle_61 : decode cX9_settle 61 = .ok (.iload_n 3, 1) := by decide +kernel
theorem dX9_settle_62 : decode cX9_settle 62 = .ok (.ishr, 1) := by decide +kernel
theorem dX9_settle_63 : decode cX9_settle 63 = .ok (.iconst 1, 1) := by decide +kernel
theorem dX9_settle_64 : decode cX9_settle 64 = .ok (.iand, 1) := by decide +kernel
theorem dX9_settle_65 : decode cX9_settle 65 = .ok (.iconst 1, 1) := by decide +kernel
theorem dX9_settle_66 : decode cX9_settle 66 = .ok (.if_icmp .ne 8, 3) := by decide +kernel
theorem dX9_settle_69 : decode cX9_settle 69 = .ok (.aload_n 0, 1) := by decide +kernel
theorem dX9_settle_70 : decode cX9_settle 70 = .ok (.iload_n 3, 1) := by decide +kernel
theorem dX9_settle_71 : decode cX9_settle 71 = .ok (.invokevirtual 96, 3) := by decide +kernel
theorem dX9_settle_74 : decode cX9_settle 74 = .ok (.iinc 3 1, 3) := by decide +kernel
theorem dX9_settle_77 : decode cX9_settle 77 = .ok (.goto (-27), 3) := by decide +kernel
theorem dX9_settle_80 : decode cX9_settle 80 = .ok (.iload_n 2, 1) := by decide +kernel
theorem dX9_settle_81 : decode cX9_settle 81 = .ok (.invokestatic 127, 3) := by decide +kernel
theorem dX9_settle_84 : decode cX9_settle 84 = .ok (.ireturn, 1) := by decide +kernel
theorem dX9_tunnelCount_0 : decode cX9_tunnelCount 0 = .ok (.aload_n 0, 1) := by decide +kernel
theorem dX9_tunnelCount_1 : decode cX9_tunnelCount 1 = .ok (.iconst 0, 1) := by decide +kernel
theorem dX9_tunnelCount_2 : decode cX9_tunnelCount 2 = .ok (.putfield 36, 3) := by decide +kernel
theorem dX9_tunnelCount_5 : decode cX9_tunnelCount 5 = .ok (.aload_n 0, 1) := by decide +kernel
theorem dX9_tunnelCount_6 : decode cX9_tunnelCount 6 = .ok (.getfield 7, 3) := by decide +kernel
theorem dX9_tunnelCount_9 : decode cX9_tunnelCount 9 = .ok (.iconst 1, 1) := by decide +kernel
theorem dX9_tunnelCount_10 : decode cX9_tunnelCount 10 = .ok (.iaload, 1) := by decide +kernel
theorem dX9_tunnelCount_11 : decode cX9_tunnelCount 11 = .ok (.ireturn, 1) := by decide +kernel
theorem dX9_isOpen_0 : decode cX9_isOpen 0 = .ok (.aload_n 0, 1) := by decide +kernel
theorem dX9_isOpen_1 : decode cX9_isOpen 1 = .ok (.aload_n 0, 1) := by decide +kernel
theorem dX9_isOpen_2 : decode cX9_isOpen 2 = .ok (.iload_n 1, 1) := by decide +kernel
theorem dX9_isOpen_3 : decode cX9_isOpen 3 = .ok (.invokevirtual 124, 3) := by decide +kernel
theorem dX9_isOpen_6 : decode cX9_isOpen 6 = .ok (.ifCond .eq 7, 3) := by decide +kernel
theorem dX9_isOpen_9 : decode cX9_isOpen 9 = .ok (.iconst 0, 1) := by decide +kernel
theorem dX9_isOpen_10 : decode cX9_isOpen 10 = .ok (.goto 4, 3) := by decide +kernel
theorem dX9_isOpen_13 : decode cX9_isOpen 13 = .ok (.iconst 1, 1) := by decide +kernel
theorem dX9_isOpen_14 : decode cX9_isOpen 14 = .ok (.invokevirtual 70, 3) := by decide +kernel
theorem dX9_isOpen_17 : decode cX9_isOpen 17 = .ok (.ifCond .ne 16, 3) := by decide +kernel
theorem dX9_isOpen_20 : decode cX9_isOpen 20 = .ok (.aload_n 0, 1) := by decide +kernel
theorem dX9_isOpen_21 : decode cX9_isOpen 21 = .ok (.iload_n 1, 1) := by decide +kernel
theorem dX9_isOpen_22 : decode cX9_isOpen 22 = .ok (.iconst 0, 1) := by decide +kernel
theorem dX9_isOpen_23 : decode cX9_isOpen 23 = .ok (.invokevirtual 118, 3) := by decide +kernel
theorem dX9_isOpen_26 : decode cX9_isOpen 26 = .ok (.ifCond .eq 7, 3) := by decide +kernel
theorem dX9_isOpen_29 : decode cX9_isOpen 29 = .ok (.iconst 1, 1) := by decide +kernel
theorem dX9_isOpen_30 : decode cX9_isOpen 30 = .ok (.goto 4, 3) := by decide +kernel
theorem dX9_isOpen_33 : decode cX9_isOpen 33 = .ok (.iconst 0, 1) := by decide +kernel
theorem dX9_isOpen_34 : decode cX9_isOpen 34 = .ok (.ireturn, 1) := by decide +kernel
theorem dX9_blocked_0 : decode cX9_blocked 0 = .ok (.aload_n 0, 1) := by decide +kernel
theorem dX9_blocked_1 : decode cX9_blocked 1 = .ok (.iconst 0, 1) := by decide +kernel
theorem dX9_blocked_2 : decode cX9_blocked 2 = .ok (.putfield 36, 3) := by decide +kernel
theorem dX9_blocked_5 : decode cX9_blocked 5 = .ok (.aload_n 0, 1) := by decide +kernel
theorem dX9_blocked_6 : decode cX9_blocked 6 = .ok (.iconst 0, 1) := by decide +kernel
theorem dX9_blocked_7 : decode cX9_blocked 7 = .ok (.invokevirtual 100, 3) := by decide +kernel
theorem dX9_blocked_10 : decode cX9_blocked 10 = .ok (.ireturn, 1) := by decide +kernel
theorem dX9_part_0 : decode cX9_part 0 = .ok (.iconst 1, 1) := by decide +kernel
theorem dX9_part_1 : decode cX9_part 1 = .ok (.iload_n 1, 1) := by decide +kernel
theorem dX9_part_2 : decode cX9_part 2 = .ok (.ishl, 1) := by decide +kernel
theorem dX9_part_3 : decode cX9_part 3 = .ok (.istore_n 3, 1) := by decide +kernel
theorem dX9_part_4 : decode cX9_part 4 = .ok (.iconst 0, 1) := by decide +kernel
theorem dX9_part_5 : decode cX9_part 5 = .ok (.istore 4, 2) := by decide +kernel
theorem dX9_part_7 : decode cX9_part 7 = .ok (.iload_n 3, 1) := by decide +kernel
theorem dX9_part_8 : decode cX9_part 8 = .ok (.iload 4, 2) := by decide +kernel
theorem dX9_part_10 : decode cX9_part 10 = .ok (.if_icmp .eq 69, 3) := by decide +kernel
theorem dX9_part_13 : decode cX9_part 13 = .ok (.iload_n 3, 1) := by decide +kernel
theorem dX9_part_14 : decode cX9_part 14 = .ok (.istore 4, 2) := by decide +kernel
theorem dX9_part_16 : decode cX9_part 16 = .ok (.iconst 0, 1) := by decide +kernel
theorem dX9_part_17 : decode cX9_part 17 = .ok (.istore 5, 2) := by decide +kernel
theorem dX9_part_19 : decode cX9_part 19 = .ok (.iload 5, 2) := by decide +kernel
theorem dX9_part_21 : decode cX9_part 21 = .ok (.aload_n 0, 1) := by decide +kernel
theorem dX9_part_22 : decode cX9_part 22 = .ok (.getfield 7, 3) := by decide +kernel
theorem dX9_part_25 : decode cX9_part 25 = .ok (.iconst 1, 1) := by decide +kernel
theorem dX9_part_26 : decode cX9_part 26 = .ok (.iaload, 1) := by decide +kernel
theorem dX9_part_27 : decode cX9_part 27 = .ok (.if_icmp .ge 49, 3) := by decide +kernel
theorem dX9_part_30 : decode cX9_part 30 = .ok (.iconst 1, 1) := by decide +kernel
theorem dX9_part_31 : decode cX9_part 31 = .ok (.aload_n 0, 1) := by decide +kernel
theorem dX9_part_32 : decode cX9_part 32 = .ok (.iload 5, 2) := by decide +kernel
theorem dX9_part_34 : decode cX9_part 34 = .ok (.iconst 0, 1) := by decide +kernel
theorem dX9_part_35 : decode cX9_part 35 = .ok (.invokevirtual 115, 3) := by decide +kernel
theorem dX9_part_38 : decode cX9_part 38 = .ok (.ishl, 1) := by decide +kernel
theorem dX9_part_39 : decode cX9_part 39 = .ok (.iconst 1, 1) := by decide +kernel
theorem dX9_part_40 : decode cX9_part 40 = .ok (.aload_n 0, 1) := by decide +kernel
theorem dX9_part_41 : decode cX9_part 41 = .ok (.iload 5, 2) := by decide +kernel
theorem dX9_part_43 : decode cX9_part 43 = .ok (.iconst 1, 1) := by decide +kernel
theorem dX9_part_44 : decode cX9_part 44 = .ok (.invokevirtual 115, 3) := by decide +kernel
theorem dX9_part_47 : decode cX9_part 47 = .ok (.ishl, 1) := by decide +kernel
theorem dX9_part_48 : decode cX9_part 48 = .ok (.ior, 1) := by decide +kernel
theorem dX9_part_49 : decode cX9_part 49 = .ok (.istore 6, 2) := by decide +kernel
theorem dX9_part_51 : decode cX9_part 51 = .ok (.iload 5, 2) := by decide +kernel
theorem dX9_part_53 : decode cX9_part 53 = .ok (.iload_n 2, 1) := by decide +kernel
theorem dX9_part_54 : decode cX9_part 54 = .ok (.if_icmp .eq 16, 3) := by decide +kernel
theorem dX9_part_57 : decode cX9_part 57 = .ok (.iload 4, 2) := by decide +kernel
theorem dX9_part_59 : decode cX9_part 59 = .ok (.iload 6, 2) := by decide +kernel
theorem dX9_part_61 : decode cX9_part 61 = .ok (.iand, 1) := by decide +kernel
theorem dX9_part_62 : decode cX9_part 62 = .ok (.ifCond .eq 8, 3) := by decide +kernel
theorem dX9_part_65 : decode cX9_part 65 = .ok (.iload_n 3, 1) := by decide +kernel
theorem dX9_part_66 : decode cX9_part 66 = .ok (.iload 6, 2) := by decide +kernel
theorem dX9_part_68 : decode cX9_part 68 = .ok (.ior, 1) := by decide +kernel
theorem dX9_part_69 : decode cX9_part 69 = .ok (.istore_n 3, 1) := by decide +kernel
theorem dX9_part_70 : decode cX9_part 70 = .ok (.iinc 5 1, 3) := by decide +kernel
theorem dX9_part_73 : decode cX9_part 73 = .ok (.goto (-54), 3) := by decide +kernel
theorem dX9_part_76 : decode cX9_part 76 = .ok (.goto (-69), 3) := by decide +kernel
theorem dX9_part_79 : decode cX9_part 79 = .ok (.iload_n 3, 1) := by decide +kernel
theorem dX9_part_80 : decode cX9_part 80 = .ok (.ireturn, 1) := by decide +kernel
theorem dX9_partsWithout_0 : decode cX9_partsWithout 0 = .ok (.iconst 0, 1) := by decide +kernel
theorem dX9_partsWithout_1 : decode cX9_partsWithout 1 = .ok (.istore_n 2, 1) := by decide +kernel
theorem dX9_partsWithout_2 : decode cX9_partsWithout 2 = .ok (.iconst 0, 1) := by decide +kernel
theorem dX9_partsWithout_3 : decode cX9_partsWithout 3 = .ok (.istore_n 3, 1) := by decide +kernel
theorem dX9_partsWithout_4 : decode cX9_partsWithout 4 = .ok (.iload_n 3, 1) := by decide +kernel
theorem dX9_partsWithout_5 : decode cX9_partsWithout 5 = .ok (.aload_n 0, 1) := by decide +kernel
theorem dX9_partsWithout_6 : decode cX9_partsWithout 6 = .ok (.getfield 7, 3) := by decide +kernel
theorem dX9_partsWithout_9 : decode cX9_partsWithout 9 = .ok (.iconst 0, 1) := by decide +kernel
theorem dX9_partsWithout_10 : decode cX9_partsWithout 10 = .ok (.iaload, 1) := by decide +kernel
theorem dX9_partsWithout_11 : decode cX9_partsWithout 11 = .ok (.if_icmp .ge 32, 3) := by decide +kernel
theorem dX9_partsWithout_14 : decode cX9_partsWithout 14 = .ok (.iload_n 2, 1) := by decide +kernel
theorem dX9_partsWithout_15 : decode cX9_partsWithout 15 = .ok (.aload_n 0, 1) := by decide +kernel
theorem dX9_partsWithout_16 : decode cX9_partsWithout 16 = .ok (.iload_n 3, 1) := by decide +kernel
theorem dX9_partsWithout_17 : decode cX9_partsWithout 17 = .ok (.iload_n 1, 1) := by decide +kernel
theorem dX9_partsWithout_18 : decode cX9_partsWithout 18 = .ok (.invokevirtual 134, 3) := by decide +kernel
theorem dX9_partsWithout_21 : decode cX9_partsWithout 21 = .ok (.iconst 1, 1) := by decide +kernel
theorem dX9_partsWithout_22 : decode cX9_partsWithout 22 = .ok (.iload_n 3, 1) := by decide +kernel
theorem dX9_partsWithout_23 : decode cX9_partsWithout 23 = .ok (.ishl, 1) := by decide +kernel
theorem dX9_partsWithout_24 : decode cX9_partsWithout 24 = .ok (.iconst 1, 1) := by decide +kernel
theorem dX9_partsWithout_25 : decode cX9_partsWithout 25 = .ok (.isub, 1) := by decide +kernel
theorem dX9_partsWithout_26 : decode cX9_partsWithout 26 = .ok (.iand, 1) := by decide +kernel
theorem dX9_partsWithout_27 : decode cX9_partsWithout 27 = .ok (.ifCond .ne 7, 3) := by decide +kernel
theorem dX9_partsWithout_30 : decode cX9_partsWithout 30 = .ok (.iconst 1, 1) := by decide +kernel
theorem dX9_partsWithout_31 : decode cX9_partsWithout 31 = .ok (.goto 4, 3) := by decide +kernel
theorem dX9_partsWithout_34 : decode cX9_partsWithout 34 = .ok (.iconst 0, 1) := by decide +kernel
theorem dX9_partsWithout_35 : decode cX9_partsWithout 35 = .ok (.iadd, 1) := by decide +kernel
theorem dX9_partsWithout_36 : decode cX9_partsWithout 36 = .ok (.istore_n 2, 1) := by decide +kernel
theorem dX9_partsWithout_37 : decode cX9_partsWithout 37 = .ok (.iinc 3 1, 3) := by decide +kernel
theorem dX9_partsWithout_40 : decode cX9_partsWithout 40 = .ok (.goto (-36), 3) := by decide +kernel
theorem dX9_partsWithout_43 : decode cX9_partsWithout 43 = .ok (.iload_n 2, 1) := by decide +kernel
theorem dX9_partsWithout_44 : decode cX9_partsWithout 44 = .ok (.ireturn, 1) := by decide +kernel
theorem dX9_parts_0 : decode cX9_parts 0 = .ok (.aload_n 0, 1) := by decide +kernel
theorem dX9_parts_1 : decode cX9_parts 1 = .ok (.iconst 0, 1) := by decide +kernel
theorem dX9_parts_2 : decode cX9_parts 2 = .ok (.putfield 36, 3) := by decide +kernel
theorem dX9_parts_5 : decode cX9_parts 5 = .ok (.aload_n 0, 1) := by decide +kernel
theorem dX9_parts_6 : decode cX9_parts 6 = .ok (.iconst (-1), 1) := by decide +kernel
theorem dX9_parts_7 : decode cX9_parts 7 = .ok (.invokevirtual 137, 3) := by decide +kernel
theorem dX9_parts_10 : decode cX9_parts 10 = .ok (.ireturn, 1) := by decide +kernel
theorem dX9_walk_0 : decode cX9_walk 0 = .ok (.aload_n 0, 1) := by decide +kernel
theorem dX9_walk_1 : decode cX9_walk 1 = .ok (.aload_n 0, 1) := by decide +kernel
theorem dX9_walk_2 : decode cX9_walk 2 = .ok (.iload_n 1, 1) := by decide +kernel
theorem dX9_walk_3 : decode cX9_walk 3 = .ok (.invokevirtual 66, 3) := by decide +kernel
theorem dX9_walk_6 : decode cX9_walk 6 = .ok (.ifCond .eq 15, 3) := by decide +kernel
theorem dX9_walk_9 : decode cX9_walk 9 = .ok (.aload_n 0, 1) := by decide +kernel
theorem dX9_walk_10 : decode cX9_walk 10 = .ok (.iload_n 2, 1) := by decide +kernel
theorem dX9_walk_11 : decode cX9_walk 11 = .ok (.invokevirtual 66, 3) := by decide +kernel
theorem dX9_walk_14 : decode cX9_walk 14 = .ok (.ifCond .eq 7, 3) := by decide +kernel
theorem dX9_walk_17 : decode cX9_walk 17 = .ok (.iconst 0, 1) := by decide +kernel
theorem dX9_walk_18 : decode cX9_walk 18 = .ok (.goto 4, 3) := by decide +kernel
theorem dX9_walk_21 : decode cX9_walk 21 = .ok (.iconst 1, 1) := by decide +kernel
theorem dX9_walk_22 : decode cX9_walk 22 = .ok (.invokevirtual 70, 3) := by decide +kernel
theorem dX9_walk_25 : decode cX9_walk 25 = .ok (.ifCond .eq 5, 3) := by decide +kernel
theorem dX9_walk_28 : decode cX9_walk 28 = .ok (.iconst 0, 1) := by decide +kernel
theorem dX9_walk_29 : decode cX9_walk 29 = .ok (.ireturn, 1) := by decide +kernel
theorem dX9_walk_30 : decode cX9_walk 30 = .ok (.iconst 1, 1) := by decide +kernel
theorem dX9_walk_31 : decode cX9_walk 31 = .ok (.iload_n 1, 1) := by decide +kernel
theorem dX9_walk_32 : decode cX9_walk 32 = .ok (.ishl, 1) := by decide +kernel
theorem dX9_walk_33 : decode cX9_walk 33 = .ok (.istore_n 3, 1) := by decide +kernel
theorem dX9_walk_34 : decode cX9_walk 34 = .ok (.iconst 0, 1) := by decide +kernel
theorem dX9_walk_35 : decode cX9_walk 35 = .ok (.istore 4, 2) := by decide +kernel
theorem dX9_walk_37 : decode cX9_walk 37 = .ok (.iconst 0, 1) := by decide +kernel
theorem dX9_walk_38 : decode cX9_walk 38 = .ok (.istore 5, 2) := by decide +kernel
theorem dX9_walk_40 : decode cX9_walk 40 = .ok (.iload_n 3, 1) := by decide +kernel
theorem dX9_walk_41 : decode cX9_walk 41 = .ok (.iload 4, 2) := by decide +kernel
theorem dX9_walk_43 : decode cX9_walk 43 = .ok (.if_icmp .eq 84, 3) := by decide +kernel
theorem dX9_walk_46 : decode cX9_walk 46 = .ok (.iload_n 3, 1) := by decide +kernel
theorem dX9_walk_47 : decode cX9_walk 47 = .ok (.iload_n 2, 1) := by decide +kernel
theorem dX9_walk_48 : decode cX9_walk 48 = .ok (.ishr, 1) := by decide +kernel
theorem dX9_walk_49 : decode cX9_walk 49 = .ok (.iconst 1, 1) := by decide +kernel
theorem dX9_walk_50 : decode cX9_walk 50 = .ok (.iand, 1) := by decide +kernel
theorem dX9_walk_51 : decode cX9_walk 51 = .ok (.ifCond .ne 76, 3) := by decide +kernel
theorem dX9_walk_54 : decode cX9_walk 54 = .ok (.iload_n 3, 1) := by decide +kernel
theorem dX9_walk_55 : decode cX9_walk 55 = .ok (.istore 4, 2) := by decide +kernel
theorem dX9_walk_57 : decode cX9_walk 57 = .ok (.iinc 5 1, 3) := by decide +kernel
theorem dX9_walk_60 : decode cX9_walk 60 = .ok (.iconst 0, 1) := by decide +kernel
theorem dX9_walk_61 : decode cX9_walk 61 = .ok (.istore 6, 2) := by decide +kernel
theorem dX9_walk_63 : decode cX9_walk 63 = .ok (.iload 6, 2) := by decide +kernel
theorem dX9_walk_65 : decode cX9_walk 65 = .ok (.aload_n 0, 1) := by decide +kernel
theorem dX9_walk_66 : decode cX9_walk 66 = .ok (.getfield 7, 3) := by decide +kernel
theorem dX9_walk_69 : decode cX9_walk 69 = .ok (.iconst 1, 1) := by decide +kernel
theorem dX9_walk_70 : decode cX9_walk 70 = .ok (.iaload, 1) := by decide +kernel
theorem dX9_walk_71 : decode cX9_walk 71 = .ok (.if_icmp .ge 53, 3) := by decide +kernel
theorem dX9_walk_74 : decode cX9_walk 74 = .ok (.iconst 1, 1) := by decide +kernel
theorem dX9_walk_75 : decode cX9_walk 75 = .ok (.aload_n 0, 1) := by decide +kernel
theorem dX9_walk_76 : decode cX9_walk 76 = .ok (.iload 6, 2) := by decide +kernel
theorem dX9_walk_78 : decode cX9_walk 78 = .ok (.iconst 0, 1) := by decide +kernel
theorem dX9_walk_79 : decode cX9_walk 79 = .ok (.invokevirtual 115, 3) := by decide +kernel
theorem dX9_walk_82 : decode cX9_walk 82 = .ok (.ishl, 1) := by decide +kernel
theorem dX9_walk_83 : decode cX9_walk 83 = .ok (.iconst 1, 1) := by decide +kernel
theorem dX9_walk_84 : decode cX9_walk 84 = .ok (.aload_n 0, 1) := by decide +kernel
theorem dX9_walk_85 : decode cX9_walk 85 = .ok (.iload 6, 2) := by decide +kernel
theorem dX9_walk_87 : decode cX9_walk 87 = .ok (.iconst 1, 1) := by decide +kernel
theorem dX9_walk_88 : decode cX9_walk 88 = .ok (.invokevirtual 115, 3) := by decide +kernel
theorem dX9_walk_91 : decode cX9_walk 91 = .ok (.ishl, 1) := by decide +kernel
theorem dX9_walk_92 : decode cX9_walk 92 = .ok (.ior, 1) := by decide +kernel
theorem dX9_walk_93 : decode cX9_walk 93 = .ok (.istore 7, 2) := by decide +kernel
theorem dX9_walk_95 : decode cX9_walk 95 = .ok (.aload_n 0, 1) := by decide +kernel
theorem dX9_walk_96 : decode cX9_walk 96 = .ok (.iload 6, 2) := by decide +kernel
theorem dX9_walk_98 : decode cX9_walk 98 = .ok (.iconst 0, 1) := by decide +kernel
theorem dX9_walk_99 : decode cX9_walk 99 = .ok (.invokevirtual 118, 3) := by decide +kernel
theorem dX9_walk_102 : decode cX9_walk 102 = .ok (.ifCond .eq 16, 3) := by decide +kernel
theorem dX9_walk_105 : decode cX9_walk 105 = .ok (.iload 4, 2) := by decide +kernel
theorem dX9_walk_107 : decode cX9_walk 107 = .ok (.iload 7, 2) := by decide +kernel
theorem dX9_walk_109 : decode cX9_walk 109 = .ok (.iand, 1) := by decide +kernel
theorem dX9_walk_110 : decode cX9_walk 110 = .ok (.ifCond .eq 8, 3) := by decide +kernel
theorem dX9_walk_113 : decode cX9_walk 113 = .ok (.iload_n 3, 1) := by decide +kernel
theorem dX9_walk_114 : decode cX9_walk 114 = .ok (.iload 7, 2) := by decide +kernel
theorem dX9_walk_116 : decode cX9_walk 116 = .ok (.ior, 1) := by decide +kernel
theorem dX9_walk_117 : decode cX9_walk 117 = .ok (.istore_n 3, 1) := by decide +kernel
theorem dX9_walk_118 : decode cX9_walk 118 = .ok (.iinc 6 1, 3) := by decide +kernel
theorem dX9_walk_121 : decode cX9_walk 121 = .ok (.goto (-58), 3) := by decide +kernel
theorem dX9_walk_124 : decode cX9_walk 124 = .ok (.goto (-84), 3) := by decide +kernel
theorem dX9_walk_127 : decode cX9_walk 127 = .ok (.aload_n 0, 1) := by decide +kernel
theorem dX9_walk_128 : decode cX9_walk 128 = .ok (.iload_n 3, 1) := by decide +kernel
theorem dX9_walk_129 : decode cX9_walk 129 = .ok (.iload_n 2, 1) := by decide +kernel
theorem dX9_walk_130 : decode cX9_walk 130 = .ok (.ishr, 1) := by decide +kernel
theorem dX9_walk_131 : decode cX9_walk 131 = .ok (.iconst 1, 1) := by decide +kernel
theorem dX9_walk_132 : decode cX9_walk 132 = .ok (.iand, 1) := by decide +kernel
theorem dX9_walk_133 : decode cX9_walk 133 = .ok (.ifCond .ne 7, 3) := by decide +kernel
theorem dX9_walk_136 : decode cX9_walk 136 = .ok (.iconst 2, 1) := by decide +kernel
theorem dX9_walk_137 : decode cX9_walk 137 = .ok (.goto 4, 3) := by decide +kernel
theorem dX9_walk_140 : decode cX9_walk 140 = .ok (.iconst 0, 1) := by decide +kernel
theorem dX9_walk_141 : decode cX9_walk 141 = .ok (.invokevirtual 70, 3) := by decide +kernel
theorem dX9_walk_144 : decode cX9_walk 144 = .ok (.ifCond .eq 7, 3) := by decide +kernel
theorem dX9_walk_147 : decode cX9_walk 147 = .ok (.iconst 0, 1) := by decide +kernel
theorem dX9_walk_148 : decode cX9_walk 148 = .ok (.goto 5, 3) := by decide +kernel
theorem dX9_walk_151 : decode cX9_walk 151 = .ok (.iload 5, 2) := by decide +kernel
theorem dX9_walk_153 : decode cX9_walk 153 = .ok (.ireturn, 1) := by decide +kernel
theorem dX9_spans_0 : decode cX9_spans 0 = .ok (.iconst 0, 1) := by decide +kernel
theorem dX9_spans_1 : decode cX9_spans 1 = .ok (.istore_n 1, 1) := by decide +kernel
theorem dX9_spans_2 : decode cX9_spans 2 = .ok (.aload_n 0, 1) := by decide +kernel
theorem dX9_spans_3 : decode cX9_spans 3 = .ok (.iconst (-1), 1) := by decide +kernel
theorem dX9_spans_4 : decode cX9_spans 4 = .ok (.invokevirtual 137, 3) := by decide +kernel
theorem dX9_spans_7 : decode cX9_spans 7 = .ok (.istore_n 2, 1) := by decide +kernel
theorem dX9_spans_8 : decode cX9_spans 8 = .ok (.iconst 0, 1) := by decide +kernel
theorem dX9_spans_9 : decode cX9_spans 9 = .ok (.istore_n 3, 1) := by decide +kernel
theorem dX9_spans_10 : decode cX9_spans 10 = .ok (.iload_n 3, 1) := by decide +kernel
theorem dX9_spans_11 : decode cX9_spans 11 = .ok (.aload_n 0, 1) := by decide +kernel
theorem dX9_spans_12 : decode cX9_spans 12 = .ok (.getfield 7, 3) := by decide +kernel
theorem dX9_spans_15 : decode cX9_spans 15 = .ok (.iconst 1, 1) := by decide +kernel
theorem dX9_spans_16 : decode cX9_spans 16 = .ok (.iaload, 1) := by decide +kernel
theorem dX9_spans_17 : decode cX9_spans 17 = .ok (.if_icmp .ge 26, 3) := by decide +kernel
theorem dX9_spans_20 : decode cX9_spans 20 = .ok (.iload_n 1, 1) := by decide +kernel
theorem dX9_spans_21 : decode cX9_spans 21 = .ok (.aload_n 0, 1) := by decide +kernel
theorem dX9_spans_22 : decode cX9_spans 22 = .ok (.iload_n 3, 1) := by decide +kernel
theorem dX9_spans_23 : decode cX9_spans 23 = .ok (.invokevirtual 137, 3) := by decide +kernel
theorem dX9_spans_26 : decode cX9_spans 26 = .ok (.iload_n 2, 1) := by decide +kernel
theorem dX9_spans_27 : decode cX9_spans 27 = .ok (.if_icmp .le 7, 3) := by decide +kernel
theorem dX9_spans_30 : decode cX9_spans 30 = .ok (.iconst 1, 1) := by decide +kernel
theorem dX9_spans_31 : decode cX9_spans 31 = .ok (.goto 4, 3) := by decide +kernel
theorem dX9_spans_34 : decode cX9_spans 34 = .ok (.iconst 0, 1) := by decide +kernel
theorem dX9_spans_35 : decode cX9_spans 35 = .ok (.iadd, 1) := by decide +kernel
theorem dX9_spans_36 : decode cX9_spans 36 = .ok (.istore_n 1, 1) := by decide +kernel
theorem dX9_spans_37 : decode cX9_spans 37 = .ok (.iinc 3 1, 3) := by decide +kernel
theorem dX9_spans_40 : decode cX9_spans 40 = .ok (.goto (-30), 3) := by decide +kernel
theorem dX9_spans_43 : decode cX9_spans 43 = .ok (.iload_n 1, 1) := by decide +kernel
theorem dX9_spans_44 : decode cX9_spans 44 = .ok (.ireturn, 1) := by decide +kernel
theorem dX9_bridges_0 : decode cX9_bridges 0 = .ok (.aload_n 0, 1) := by decide +kernel
theorem dX9_bridges_1 : decode cX9_bridges 1 = .ok (.iconst 0, 1) := by decide +kernel
theorem dX9_bridges_2 : decode cX9_bridges 2 = .ok (.putfield 36, 3) := by decide +kernel
theorem dX9_bridges_5 : decode cX9_bridges 5 = .ok (.aload_n 0, 1) := by decide +kernel
theorem dX9_bridges_6 : decode cX9_bridges 6 = .ok (.invokevirtual 140, 3) := by decide +kernel
theorem dX9_bridges_9 : decode cX9_bridges 9 = .ok (.ireturn, 1) := by decide +kernel
theorem dX9_bridgesByFilling_0 : decode cX9_bridgesByFilling 0 = .ok (.aload_n 0, 1) := by decide +kernel
theorem dX9_bridgesByFilling_1 : decode cX9_bridgesByFilling 1 = .ok (.iconst 0, 1) := by decide +kernel
theorem dX9_bridgesByFilling_2 : decode cX9_bridgesByFilling 2 = .ok (.putfield 36, 3) := by decide +kernel
theorem dX9_bridgesByFilling_5 : decode cX9_bridgesByFilling 5 = .ok (.aload_n 0, 1) := by decide +kernel
theorem dX9_bridgesByFilling_6 : decode cX9_bridgesByFilling 6 = .ok (.invokevirtual 140, 3) := by decide +kernel
theorem dX9_bridgesByFilling_9 : decode cX9_bridgesByFilling 9 = .ok (.ireturn, 1) := by decide +kernel
theorem dX9_canSettle_0 : decode cX9_canSettle 0 = .ok (.aload_n 0, 1) := by decide +kernel
theorem dX9_canSettle_1 : decode cX9_canSettle 1 = .ok (.iconst 0, 1) := by decide +kernel
theorem dX9_canSettle_2 : decode cX9_canSettle 2 = .ok (.putfield 36, 3) := by decide +kernel
theorem dX9_canSettle_5 : decode cX9_canSettle 5 = .ok (.aload_n 0, 1) := by decide +kernel
theorem dX9_canSettle_6 : decode cX9_canSettle 6 = .ok (.invokevirtual 130, 3) := by decide +kernel
theorem dX9_canSettle_9 : decode cX9_canSettle 9 = .ok (.ifCond .lt 7, 3) := by decide +kernel
theorem dX9_canSettle_12 : decode cX9_canSettle 12 = .ok (.iconst 1, 1) := by decide +kernel
theorem dX9_canSettle_13 : decode cX9_canSettle 13 = .ok (.goto 4, 3) := by decide +kernel
theorem dX9_canSettle_16 : decode cX9_canSettle 16 = .ok (.iconst 0, 1) := by decide +kernel
theorem dX9_canSettle_17 : decode cX9_canSettle 17 = .ok (.ireturn, 1) := by decide +kernel
theorem dX9_canSettleByUnions_0 : decode cX9_canSettleByUnions 0 = .ok (.aload_n 0, 1) := by decide +kernel
theorem dX9_canSettleByUnions_1 : decode cX9_canSettleByUnions 1 = .ok (.iconst 0, 1) := by decide +kernel
theorem dX9_canSettleByUnions_2 : decode cX9_canSettleByUnions 2 = .ok (.putfield 36, 3) := by decide +kernel
theorem dX9_canSettleByUnions_5 : decode cX9_canSettleByUnions 5 = .ok (.aload_n 0, 1) := by decide +kernel
theorem dX9_canSettleByUnions_6 : decode cX9_canSettleByUnions 6 = .ok (.invokevirtual 130, 3) := by decide +kernel
theorem dX9_canSettleByUnions_9 : decode cX9_canSettleByUnions 9 = .ok (.ifCond .lt 7, 3) := by decide +kernel
theorem dX9_canSettleByUnions_12 : decode cX9_canSettleByUnions 12 = .ok (.iconst 1, 1) := by decide +kernel
theorem dX9_canSettleByUnions_13 : decode cX9_canSettleByUnions 13 = .ok (.goto 4, 3) := by decide +kernel
theorem dX9_canSettleByUnions_16 : decode cX9_canSettleByUnions 16 = .ok (.iconst 0, 1) := by decide +kernel
theorem dX9_canSettleByUnions_17 : decode cX9_canSettleByUnions 17 = .ok (.ireturn, 1) := by decide +kernel
theorem dX9_fewest_0 : decode cX9_fewest 0 = .ok (.aload_n 0, 1) := by decide +kernel
theorem dX9_fewest_1 : decode cX9_fewest 1 = .ok (.invokevirtual 130, 3) := by decide +kernel
theorem dX9_fewest_4 : decode cX9_fewest 4 = .ok (.istore_n 1, 1) := by decide +kernel
theorem dX9_fewest_5 : decode cX9_fewest 5 = .ok (.aload_n 0, 1) := by decide +kernel
theorem dX9_fewest_6 : decode cX9_fewest 6 = .ok (.iload_n 1, 1) := by decide +kernel
theorem dX9_fewest_7 : decode cX9_fewest 7 = .ok (.ifCond .ge 7, 3) := by decide +kernel
theorem dX9_fewest_10 : decode cX9_fewest 10 = .ok (.iconst 1, 1) := by decide +kernel
theorem dX9_fewest_11 : decode cX9_fewest 11 = .ok (.goto 4, 3) := by decide +kernel
theorem dX9_fewest_14 : decode cX9_fewest 14 = .ok (.iconst 0, 1) := by decide +kernel
theorem dX9_fewest_15 : decode cX9_fewest 15 = .ok (.invokevirtual 70, 3) := by decide +kernel
theorem dX9_fewest_18 : decode cX9_fewest 18 = .ok (.ifCond .eq 7, 3) := by decide +kernel
theorem dX9_fewest_21 : decode cX9_fewest 21 = .ok (.iconst 0, 1) := by decide +kernel
theorem dX9_fewest_22 : decode cX9_fewest 22 = .ok (.goto 7, 3) := by decide +kernel
theorem dX9_fewest_25 : decode cX9_fewest 25 = .ok (.iload_n 1, 1) := by decide +kernel
theorem dX9_fewest_26 : decode cX9_fewest 26 = .ok (.invokestatic 127, 3) := by decide +kernel
theorem dX9_fewest_29 : decode cX9_fewest 29 = .ok (.ireturn, 1) := by decide +kernel
theorem dX9_fewestTurns_0 : decode cX9_fewestTurns 0 = .ok (.aload_n 0, 1) := by decide +kernel
theorem dX9_fewestTurns_1 : decode cX9_fewestTurns 1 = .ok (.invokevirtual 143, 3) := by decide +kernel
theorem dX9_fewestTurns_4 : decode cX9_fewestTurns 4 = .ok (.ireturn, 1) := by decide +kernel
theorem dX9_fewestTurnsBySets_0 : decode cX9_fewestTurnsBySets 0 = .ok (.aload_n 0, 1) := by decide +kernel
theorem dX9_fewestTurnsBySets_1 : decode cX9_fewestTurnsBySets 1 = .ok (.invokevirtual 143, 3) := by decide +kernel
theorem dX9_fewestTurnsBySets_4 : decode cX9_fewestTurnsBySets 4 = .ok (.ireturn, 1) := by decide +kernel
theorem dX9_leastShut_0 : decode cX9_leastShut 0 = .ok (.bipush 16, 2) := by decide +kernel
theorem dX9_leastShut_2 : decode cX9_leastShut 2 = .ok (.istore_n 1, 1) := by decide +kernel
theorem dX9_leastShut_3 : decode cX9_leastShut 3 = .ok (.iconst 0, 1) := by decide +kernel
theorem dX9_leastShut_4 : decode cX9_leastShut 4 = .ok (.istore_n 2, 1) := by decide +kernel
theorem dX9_leastShut_5 : decode cX9_leastShut 5 = .ok (.iload_n 2, 1) := by decide +kernel
theorem dX9_leastShut_6 : decode cX9_leastShut 6 = .ok (.iconst 1, 1) := by decide +kernel
theorem dX9_leastShut_7 : decode cX9_leastShut 7 = .ok (.aload_n 0, 1) := by decide +kernel
theorem dX9_leastShut_8 : decode cX9_leastShut 8 = .ok (.getfield 7, 3) := by decide +kernel
theorem dX9_leastShut_11 : decode cX9_leastShut 11 = .ok (.iconst 0, 1) := by decide +kernel
theorem dX9_leastShut_12 : decode cX9_leastShut 12 = .ok (.iaload, 1) := by decide +kernel
theorem dX9_leastShut_13 : decode cX9_leastShut 13 = .ok (.ishl, 1) := by decide +kernel
theorem dX9_leastShut_14 : decode cX9_leastShut 14 = .ok (.if_icmp .ge 24, 3) := by decide +kernel
theorem dX9_leastShut_17 : decode cX9_leastShut 17 = .ok (.aload_n 0, 1) := by decide +kernel
theorem dX9_leastShut_18 : decode cX9_leastShut 18 = .ok (.iload_n 2, 1) := by decide +kernel
theorem dX9_leastShut_19 : decode cX9_leastShut 19 = .ok (.invokevirtual 100, 3) := by decide +kernel
theorem dX9_leastShut_22 : decode cX9_leastShut 22 = .ok (.iload_n 1, 1) := by decide +kernel
theorem dX9_leastShut_23 : decode cX9_leastShut 23 = .ok (.if_icmp .ge 9, 3) := by decide +kernel
theorem dX9_leastShut_26 : decode cX9_leastShut 26 = .ok (.aload_n 0, 1) := by decide +kernel
theorem dX9_leastShut_27 : decode cX9_leastShut 27 = .ok (.iload_n 2, 1) := by decide +kernel
theorem dX9_leastShut_28 : decode cX9_leastShut 28 = .ok (.invokevirtual 100, 3) := by decide +kernel
theorem dX9_leastShut_31 : decode cX9_leastShut 31 = .ok (.istore_n 1, 1) := by decide +kernel
theorem dX9_leastShut_32 : decode cX9_leastShut 32 = .ok (.iinc 2 1, 3) := by decide +kernel
theorem dX9_leastShut_35 : decode cX9_leastShut 35 = .ok (.goto (-30), 3) := by decide +kernel
theorem dX9_leastShut_38 : decode cX9_leastShut 38 = .ok (.iload_n 1, 1) := by decide +kernel
theorem dX9_leastShut_39 : decode cX9_leastShut 39 = .ok (.ireturn, 1) := by decide +kernel
theorem dX9_leastBlocked_0 : decode cX9_leastBlocked 0 = .ok (.aload_n 0, 1) := by decide +kernel
theorem dX9_leastBlocked_1 : decode cX9_leastBlocked 1 = .ok (.iconst 0, 1) := by decide +kernel
theorem dX9_leastBlocked_2 : decode cX9_leastBlocked 2 = .ok (.putfield 36, 3) := by decide +kernel
theorem dX9_leastBlocked_5 : decode cX9_leastBlocked 5 = .ok (.aload_n 0, 1) := by decide +kernel
theorem dX9_leastBlocked_6 : decode cX9_leastBlocked 6 = .ok (.invokevirtual 146, 3) := by decide +kernel
theorem dX9_leastBlocked_9 : decode cX9_leastBlocked 9 = .ok (.ireturn, 1) := by decide +kernel
theorem dX9_leastBlockedByBounds_0 : decode cX9_leastBlockedByBounds 0 = .ok (.aload_n 0, 1) := by decide +kernel
theorem dX9_leastBlockedByBounds_1 : decode cX9_leastBlockedByBounds 1 = .ok (.iconst 0, 1) := by decide +kernel
theorem dX9_leastBlockedByBounds_2 : decode cX9_leastBlockedByBounds 2 = .ok (.putfield 36, 3) := by decide +kernel
theorem dX9_leastBlockedByBounds_5 : decode cX9_leastBlockedByBounds 5 = .ok (.aload_n 0, 1) := by decide +kernel
theorem dX9_leastBlockedByBounds_6 : decode cX9_leastBlockedByBounds 6 = .ok (.invokevirtual 146, 3) := by decide +kernel
theorem dX9_leastBlockedByBounds_9 : decode cX9_leastBlockedByBounds 9 = .ok (.ireturn, 1) := by decide +kernel
theorem dX9_force_0 : decode cX9_force 0 = .ok (.aload_n 0, 1) := by decide +kernel
theorem dX9_force_1 : decode cX9_force 1 = .ok (.iload_n 1, 1) := by decide +kernel
theorem dX9_force_2 : decode cX9_force 2 = .ok (.invokevirtual 93, 3) := by decide +kernel
theorem dX9_force_5 : decode cX9_force 5 = .ok (.ifCond .eq 7, 3) := by decide +kernel
theorem dX9_force_8 : decode cX9_force 8 = .ok (.fconst 0, 1) := by decide +kernel
theorem dX9_force_9 : decode cX9_force 9 = .ok (.goto 8, 3) := by decide +kernel
theorem dX9_force_12 : decode cX9_force 12 = .ok (.aload_n 0, 1) := by decide +kernel
theorem dX9_force_13 : decode cX9_force 13 = .ok (.iload_n 1, 1) := by decide +kernel
theorem dX9_force_14 : decode cX9_force 14 = .ok (.invokevirtual 103, 3) := by decide +kernel
theorem dX9_force_17 : decode cX9_force 17 = .ok (.freturn, 1) := by decide +kernel
theorem dX9_wholeForce_0 : decode cX9_wholeForce 0 = .ok (.aload_n 0, 1) := by decide +kernel
theorem dX9_wholeForce_1 : decode cX9_wholeForce 1 = .ok (.iload_n 1, 1) := by decide +kernel
theorem dX9_wholeForce_2 : decode cX9_wholeForce 2 = .ok (.invokevirtual 93, 3) := by decide +kernel
theorem dX9_wholeForce_5 : decode cX9_wholeForce 5 = .ok (.ifCond .eq 7, 3) := by decide +kernel
theorem dX9_wholeForce_8 : decode cX9_wholeForce 8 = .ok (.iconst 0, 1) := by decide +kernel
theorem dX9_wholeForce_9 : decode cX9_wholeForce 9 = .ok (.goto 9, 3) := by decide +kernel
theorem dX9_wholeForce_12 : decode cX9_wholeForce 12 = .ok (.aload_n 0, 1) := by decide +kernel
theorem dX9_wholeForce_13 : decode cX9_wholeForce 13 = .ok (.iload_n 1, 1) := by decide +kernel
theorem dX9_wholeForce_14 : decode cX9_wholeForce 14 = .ok (.invokevirtual 103, 3) := by decide +kernel
theorem dX9_wholeForce_17 : decode cX9_wholeForce 17 = .ok (.f2i, 1) := by decide +kernel
theorem dX9_wholeForce_18 : decode cX9_wholeForce 18 = .ok (.ireturn, 1) := by decide +kernel
theorem dX9_fieldAt_0 : decode cX9_fieldAt 0 = .ok (.dconst 0, 1) := by decide +kernel
theorem dX9_fieldAt_1 : decode cX9_fieldAt 1 = .ok (.dstore_n 2, 1) := by decide +kernel
theorem dX9_fieldAt_2 : decode cX9_fieldAt 2 = .ok (.iconst 0, 1) := by decide +kernel
theorem dX9_fieldAt_3 : decode cX9_fieldAt 3 = .ok (.istore 4, 2) := by decide +kernel
theorem dX9_fieldAt_5 : decode cX9_fieldAt 5 = .ok (.iload 4, 2) := by decide +kernel
theorem dX9_fieldAt_7 : decode cX9_fieldAt 7 = .ok (.aload_n 0, 1) := by decide +kernel
theorem dX9_fieldAt_8 : decode cX9_fieldAt 8 = .ok (.getfield 7, 3) := by decide +kernel
theorem dX9_fieldAt_11 : decode cX9_fieldAt 11 = .ok (.iconst 0, 1) := by decide +kernel
theorem dX9_fieldAt_12 : decode cX9_fieldAt 12 = .ok (.iaload, 1) := by decide +kernel
theorem dX9_fieldAt_13 : decode cX9_fieldAt 13 = .ok (.if_icmp .ge 59, 3) := by decide +kernel
theorem dX9_fieldAt_16 : decode cX9_fieldAt 16 = .ok (.aload_n 0, 1) := by decide +kernel
theorem dX9_fieldAt_17 : decode cX9_fieldAt 17 = .ok (.iload 4, 2) := by decide +kernel
theorem dX9_fieldAt_19 : decode cX9_fieldAt 19 = .ok (.iconst 1, 1) := by decide +kernel
theorem dX9_fieldAt_20 : decode cX9_fieldAt 20 = .ok (.invokevirtual 73, 3) := by decide +kernel
theorem dX9_fieldAt_23 : decode cX9_fieldAt 23 = .ok (.i2d, 1) := by decide +kernel
theorem dX9_fieldAt_24 : decode cX9_fieldAt 24 = .ok (.iconst 1, 1) := by decide +kernel
theorem dX9_fieldAt_25 : decode cX9_fieldAt 25 = .ok (.aload_n 0, 1) := by decide +kernel
theorem dX9_fieldAt_26 : decode cX9_fieldAt 26 = .ok (.iload 4, 2) := by decide +kernel
theorem dX9_fieldAt_28 : decode cX9_fieldAt 28 = .ok (.iconst 0, 1) := by decide +kernel
theorem dX9_fieldAt_29 : decode cX9_fieldAt 29 = .ok (.invokevirtual 73, 3) := by decide +kernel
theorem dX9_fieldAt_32 : decode cX9_fieldAt 32 = .ok (.iload_n 1, 1) := by decide +kernel
theorem dX9_fieldAt_33 : decode cX9_fieldAt 33 = .ok (.isub, 1) := by decide +kernel
theorem dX9_fieldAt_34 : decode cX9_fieldAt 34 = .ok (.invokestatic 149, 3) := by decide +kernel
theorem dX9_fieldAt_37 : decode cX9_fieldAt 37 = .ok (.iadd, 1) := by decide +kernel
theorem dX9_fieldAt_38 : decode cX9_fieldAt 38 = .ok (.i2d, 1) := by decide +kernel
theorem dX9_fieldAt_39 : decode cX9_fieldAt 39 = .ok (.ddiv, 1) := by decide +kernel
theorem dX9_fieldAt_40 : decode cX9_fieldAt 40 = .ok (.dstore 5, 2) := by decide +kernel
theorem dX9_fieldAt_42 : decode cX9_fieldAt 42 = .ok (.aload_n 0, 1) := by decide +kernel
theorem dX9_fieldAt_43 : decode cX9_fieldAt 43 = .ok (.iload 4, 2) := by decide +kernel
theorem dX9_fieldAt_45 : decode cX9_fieldAt 45 = .ok (.iconst 2, 1) := by decide +kernel
theorem dX9_fieldAt_46 : decode cX9_fieldAt 46 = .ok (.invokevirtual 73, 3) := by decide +kernel
theorem dX9_fieldAt_49 : decode cX9_fieldAt 49 = .ok (.iconst 1, 1) := by decide +kernel
theorem dX9_fieldAt_50 : decode cX9_fieldAt 50 = .ok (.if_icmp .ne 11, 3) := by decide +kernel
theorem dX9_fieldAt_53 : decode cX9_fieldAt 53 = .ok (.dload_n 2, 1) := by decide +kernel
theorem dX9_fieldAt_54 : decode cX9_fieldAt 54 = .ok (.dload 5, 2) := by decide +kernel
theorem dX9_fieldAt_56 : decode cX9_fieldAt 56 = .ok (.dadd, 1) := by decide +kernel
theorem dX9_fieldAt_57 : decode cX9_fieldAt 57 = .ok (.dstore_n 2, 1) := by decide +kernel
theorem dX9_fieldAt_58 : decode cX9_fieldAt 58 = .ok (.goto 8, 3) := by decide +kernel
theorem dX9_fieldAt_61 : decode cX9_fieldAt 61 = .ok (.dload_n 2, 1) := by decide +kernel
theorem dX9_fieldAt_62 : decode cX9_fieldAt 62 = .ok (.dload 5, 2) := by decide +kernel
theorem dX9_fieldAt_64 : decode cX9_fieldAt 64 = .ok (.dsub, 1) := by decide +kernel
theorem dX9_fieldAt_65 : decode cX9_fieldAt 65 = .ok (.dstore_n 2, 1) := by decide +kernel
theorem dX9_fieldAt_66 : decode cX9_fieldAt 66 = .ok (.iinc 4 1, 3) := by decide +kernel
theorem dX9_fieldAt_69 : decode cX9_fieldAt 69 = .ok (.goto (-64), 3) := by decide +kernel
theorem dX9_fieldAt_72 : decode cX9_fieldAt 72 = .ok (.dload_n 2, 1) := by decide +kernel
theorem dX9_fieldAt_73 : decode cX9_fieldAt 73 = .ok (.dreturn, 1) := by decide +kernel
theorem dX9_field_0 : decode cX9_field 0 = .ok (.aload_n 0, 1) := by decide +kernel
theorem dX9_field_1 : decode cX9_field 1 = .ok (.iload_n 1, 1) := by decide +kernel
theorem dX9_field_2 : decode cX9_field 2 = .ok (.iconst 0, 1) := by decide +kernel
theorem dX9_field_3 : decode cX9_field 3 = .ok (.bipush 99, 2) := by decide +kernel
theorem dX9_field_5 : decode cX9_field 5 = .ok (.invokestatic 62, 3) := by decide +kernel
theorem dX9_field_8 : decode cX9_field 8 = .ok (.ifCond .eq 7, 3) := by decide +kernel
theorem dX9_field_11 : decode cX9_field 11 = .ok (.iconst 0, 1) := by decide +kernel
theorem dX9_field_12 : decode cX9_field 12 = .ok (.goto 4, 3) := by decide +kernel
theorem dX9_field_15 : decode cX9_field 15 = .ok (.iconst 1, 1) := by decide +kernel
theorem dX9_field_16 : decode cX9_field 16 = .ok (.invokevirtual 70, 3) := by decide +kernel
theorem dX9_field_19 : decode cX9_field 19 = .ok (.ifCond .eq 7, 3) := by decide +kernel
theorem dX9_field_22 : decode cX9_field 22 = .ok (.dconst 0, 1) := by decide +kernel
theorem dX9_field_23 : decode cX9_field 23 = .ok (.goto 8, 3) := by decide +kernel
theorem dX9_field_26 : decode cX9_field 26 = .ok (.aload_n 0, 1) := by decide +kernel
theorem dX9_field_27 : decode cX9_field 27 = .ok (.iload_n 1, 1) := by decide +kernel
theorem dX9_field_28 : decode cX9_field 28 = .ok (.invokevirtual 152, 3) := by decide +kernel
theorem dX9_field_31 : decode cX9_field 31 = .ok (.dreturn, 1) := by decide +kernel
theorem dX9_strongestPosition_0 : decode cX9_strongestPosition 0 = .ok (.aload_n 0, 1) := by decide +kernel
theorem dX9_strongestPosition_1 : decode cX9_strongestPosition 1 = .ok (.aload_n 0, 1) := by decide +kernel
theorem dX9_strongestPosition_2 : decode cX9_strongestPosition 2 = .ok (.getfield 7, 3) := by decide +kernel
theorem dX9_strongestPosition_5 : decode cX9_strongestPosition 5 = .ok (.iconst 0, 1) := by decide +kernel
theorem dX9_strongestPosition_6 : decode cX9_strongestPosition 6 = .ok (.iaload, 1) := by decide +kernel
theorem dX9_strongestPosition_7 : decode cX9_strongestPosition 7 = .ok (.ifCond .ne 7, 3) := by decide +kernel
theorem dX9_strongestPosition_10 : decode cX9_strongestPosition 10 = .ok (.iconst 1, 1) := by decide +kernel
theorem dX9_strongestPosition_11 : decode cX9_strongestPosition 11 = .ok (.goto 4, 3) := by decide +kernel
theorem dX9_strongestPosition_14 : decode cX9_strongestPosition 14 = .ok (.iconst 0, 1) := by decide +kernel
theorem dX9_strongestPosition_15 : decode cX9_strongestPosition 15 = .ok (.invokevirtual 70, 3) := by decide +kernel
theorem dX9_strongestPosition_18 : decode cX9_strongestPosition 18 = .ok (.ifCond .eq 5, 3) := by decide +kernel
theorem dX9_strongestPosition_21 : decode cX9_strongestPosition 21 = .ok (.iconst 0, 1) := by decide +kernel
theorem dX9_strongestPosition_22 : decode cX9_strongestPosition 22 = .ok (.ireturn, 1) := by decide +kernel
theorem dX9_strongestPosition_23 : decode cX9_strongestPosition 23 = .ok (.iconst 0, 1) := by decide +kernel
theorem dX9_strongestPosition_24 : decode cX9_strongestPosition 24 = .ok (.istore_n 1, 1) := by decide +kernel
theorem dX9_strongestPosition_25 : decode cX9_strongestPosition 25 = .ok (.iconst 1, 1) := by decide +kernel
theorem dX9_strongestPosition_26 : decode cX9_strongestPosition 26 = .ok (.istore_n 2, 1) := by decide +kernel
theorem dX9_strongestPosition_27 : decode cX9_strongestPosition 27 = .ok (.iload_n 2, 1) := by decide +kernel
theorem dX9_strongestPosition_28 : decode cX9_strongestPosition 28 = .ok (.bipush 99, 2) := by decide +kernel
theorem dX9_strongestPosition_30 : decode cX9_strongestPosition 30 = .ok (.if_icmp .gt 31, 3) := by decide +kernel
theorem dX9_strongestPosition_33 : decode cX9_strongestPosition 33 = .ok (.aload_n 0, 1) := by decide +kernel
theorem dX9_strongestPosition_34 : decode cX9_strongestPosition 34 = .ok (.iload_n 2, 1) := by decide +kernel
theorem dX9_strongestPosition_35 : decode cX9_strongestPosition 35 = .ok (.invokevirtual 152, 3) := by decide +kernel
theorem dX9_strongestPosition_38 : decode cX9_strongestPosition 38 = .ok (.invokestatic 156, 3) := by decide +kernel
theorem dX9_strongestPosition_41 : decode cX9_strongestPosition 41 = .ok (.aload_n 0, 1) := by decide +kernel
theorem dX9_strongestPosition_42 : decode cX9_strongestPosition 42 = .ok (.iload_n 1, 1) := by decide +kernel
theorem dX9_strongestPosition_43 : decode cX9_strongestPosition 43 = .ok (.invokevirtual 152, 3) := by decide +kernel
theorem dX9_strongestPosition_46 : decode cX9_strongestPosition 46 = .ok (.invokestatic 156, 3) := by decide +kernel
theorem dX9_strongestPosition_49 : decode cX9_strongestPosition 49 = .ok (.dcmp .l, 1) := by decide +kernel
theorem dX9_strongestPosition_50 : decode cX9_strongestPosition 50 = .ok (.ifCond .le 5, 3) := by decide +kernel
theorem dX9_strongestPosition_53 : decode cX9_strongestPosition 53 = .ok (.iload_n 2, 1) := by decide +kernel
theorem dX9_strongestPosition_54 : decode cX9_strongestPosition 54 = .ok (.istore_n 1, 1) := by decide +kernel
theorem dX9_strongestPosition_55 : decode cX9_strongestPosition 55 = .ok (.iinc 2 1, 3) := by decide +kernel
theorem dX9_strongestPosition_58 : decode cX9_strongestPosition 58 = .ok (.goto (-31), 3) := by decide +kernel
theorem dX9_strongestPosition_61 : decode cX9_strongestPosition 61 = .ok (.iload_n 1, 1) := by decide +kernel
theorem dX9_strongestPosition_62 : decode cX9_strongestPosition 62 = .ok (.ireturn, 1) := by decide +kernel
theorem dX9_queen_0 : decode cX9_queen 0 = .ok (.aload_n 0, 1) := by decide +kernel
theorem dX9_queen_1 : decode cX9_queen 1 = .ok (.aload_n 0, 1) := by decide +kernel
theorem dX9_queen_2 : decode cX9_queen 2 = .ok (.getfield 7, 3) := by decide +kernel
theorem dX9_queen_5 : decode cX9_queen 5 = .ok (.iconst 0, 1) := by decide +kernel
theorem dX9_queen_6 : decode cX9_queen 6 = .ok (.iaload, 1) := by decide +kernel
theorem dX9_queen_7 : decode cX9_queen 7 = .ok (.ifCond .ne 7, 3) := by decide +kernel
theorem dX9_queen_10 : decode cX9_queen 10 = .ok (.iconst 1, 1) := by decide +kernel
theorem dX9_queen_11 : decode cX9_queen 11 = .ok (.goto 4, 3) := by decide +kernel
theorem dX9_queen_14 : decode cX9_queen 14 = .ok (.iconst 0, 1) := by decide +kernel
theorem dX9_queen_15 : decode cX9_queen 15 = .ok (.invokevirtual 70, 3) := by decide +kernel
theorem dX9_queen_18 : decode cX9_queen 18 = .ok (.ifCond .eq 5, 3) := by decide +kernel
theorem dX9_queen_21 : decode cX9_queen 21 = .ok (.iconst 0, 1) := by decide +kernel
theorem dX9_queen_22 : decode cX9_queen 22 = .ok (.ireturn, 1) := by decide +kernel
theorem dX9_queen_23 : decode cX9_queen 23 = .ok (.iconst 0, 1) := by decide +kernel
theorem dX9_queen_24 : decode cX9_queen 24 = .ok (.istore_n 1, 1) := by decide +kernel
theorem dX9_queen_25 : decode cX9_queen 25 = .ok (.iconst 1, 1) := by decide +kernel
theorem dX9_queen_26 : decode cX9_queen 26 = .ok (.istore_n 2, 1) := by decide +kernel
theorem dX9_queen_27 : decode cX9_queen 27 = .ok (.iload_n 2, 1) := by decide +kernel
theorem dX9_queen_28 : decode cX9_queen 28 = .ok (.aload_n 0, 1) := by decide +kernel
theorem dX9_queen_29 : decode cX9_queen 29 = .ok (.getfield 7, 3) := by decide +kernel
theorem dX9_queen_32 : decode cX9_queen 32 = .ok (.iconst 0, 1) := by decide +kernel
theorem dX9_queen_33 : decode cX9_queen 33 = .ok (.iaload, 1) := by decide +kernel
theorem dX9_queen_34 : decode cX9_queen 34 = .ok (.if_icmp .ge 41, 3) := by decide +kernel
theorem dX9_queen_37 : decode cX9_queen 37 = .ok (.aload_n 0, 1) := by decide +kernel
theorem dX9_queen_38 : decode cX9_queen 38 = .ok (.aload_n 0, 1) := by decide +kernel
theorem dX9_queen_39 : decode cX9_queen 39 = .ok (.iload_n 2, 1) := by decide +kernel
theorem dX9_queen_40 : decode cX9_queen 40 = .ok (.iconst 0, 1) := by decide +kernel
theorem dX9_queen_41 : decode cX9_queen 41 = .ok (.invokevirtual 73, 3) := by decide +kernel
theorem dX9_queen_44 : decode cX9_queen 44 = .ok (.invokevirtual 152, 3) := by decide +kernel
theorem dX9_queen_47 : decode cX9_queen 47 = .ok (.invokestatic 156, 3) := by decide +kernel
theorem dX9_queen_50 : decode cX9_queen 50 = .ok (.aload_n 0, 1) := by decide +kernel
theorem dX9_queen_51 : decode cX9_queen 51 = .ok (.aload_n 0, 1) := by decide +kernel
theorem dX9_queen_52 : decode cX9_queen 52 = .ok (.iload_n 1, 1) := by decide +kernel
theorem dX9_queen_53 : decode cX9_queen 53 = .ok (.iconst 0, 1) := by decide +kernel
theorem dX9_queen_54 : decode cX9_queen 54 = .ok (.invokevirtual 73, 3) := by decide +kernel
theorem dX9_queen_57 : decode cX9_queen 57 = .ok (.invokevirtual 152, 3) := by decide +kernel
theorem dX9_queen_60 : decode cX9_queen 60 = .ok (.invokestatic 156, 3) := by decide +kernel
theorem dX9_queen_63 : decode cX9_queen 63 = .ok (.dcmp .l, 1) := by decide +kernel
theorem dX9_queen_64 : decode cX9_queen 64 = .ok (.ifCond .le 5, 3) := by decide +kernel
theorem dX9_queen_67 : decode cX9_queen 67 = .ok (.iload_n 2, 1) := by decide +kernel
theorem dX9_queen_68 : decode cX9_queen 68 = .ok (.istore_n 1, 1) := by decide +kernel
theorem dX9_queen_69 : decode cX9_queen 69 = .ok (.iinc 2 1, 3) := by decide +kernel
theorem dX9_queen_72 : decode cX9_queen 72 = .ok (.goto (-45), 3) := by decide +kernel
theorem dX9_queen_75 : decode cX9_queen 75 = .ok (.iload_n 1, 1) := by decide +kernel
theorem dX9_queen_76 : decode cX9_queen 76 = .ok (.ireturn, 1) := by decide +kernel
theorem dX9_meanStrength_0 : decode cX9_meanStrength 0 = .ok (.aload_n 0, 1) := by decide +kernel
theorem dX9_meanStrength_1 : decode cX9_meanStrength 1 = .ok (.aload_n 0, 1) := by decide +kernel
theorem dX9_meanStrength_2 : decode cX9_meanStrength 2 = .ok (.getfield 7, 3) := by decide +kernel
theorem dX9_meanStrength_5 : decode cX9_meanStrength 5 = .ok (.iconst 0, 1) := by decide +kernel
theorem dX9_meanStrength_6 : decode cX9_meanStrength 6 = .ok (.iaload, 1) := by decide +kernel
theorem dX9_meanStrength_7 : decode cX9_meanStrength 7 = .ok (.ifCond .ne 7, 3) := by decide +kernel
theorem dX9_meanStrength_10 : decode cX9_meanStrength 10 = .ok (.iconst 1, 1) := by decide +kernel
theorem dX9_meanStrength_11 : decode cX9_meanStrength 11 = .ok (.goto 4, 3) := by decide +kernel
theorem dX9_meanStrength_14 : decode cX9_meanStrength 14 = .ok (.iconst 0, 1) := by decide +kernel
theorem dX9_meanStrength_15 : decode cX9_meanStrength 15 = .ok (.invokevirtual 70, 3) := by decide +kernel
theorem dX9_meanStrength_18 : decode cX9_meanStrength 18 = .ok (.ifCond .eq 5, 3) := by decide +kernel
theorem dX9_meanStrength_21 : decode cX9_meanStrength 21 = .ok (.dconst 0, 1) := by decide +kernel
theorem dX9_meanStrength_22 : decode cX9_meanStrength 22 = .ok (.dreturn, 1) := by decide +kernel
theorem dX9_meanStrength_23 : decode cX9_meanStrength 23 = .ok (.iconst 0, 1) := by decide +kernel
theorem dX9_meanStrength_24 : decode cX9_meanStrength 24 = .ok (.istore_n 1, 1) := by decide +kernel
theorem dX9_meanStrength_25 : decode cX9_meanStrength 25 = .ok (.iconst 0, 1) := by decide +kernel
theorem dX9_meanStrength_26 : decode cX9_meanStrength 26 = .ok (.istore_n 2, 1) := by decide +kernel
theorem dX9_meanStrength_27 : decode cX9_meanStrength 27 = .ok (.iload_n 2, 1) := by decide +kernel
theorem dX9_meanStrength_28 : decode cX9_meanStrength 28 = .ok (.aload_n 0, 1) := by decide +kernel
theorem dX9_meanStrength_29 : decode cX9_meanStrength 29 = .ok (.getfield 7, 3) := by decide +kernel
theorem dX9_meanStrength_32 : decode cX9_meanStrength 32 = .ok (.iconst 0, 1) := by decide +kernel
theorem dX9_meanStrength_33 : decode cX9_meanStrength 33 = .ok (.iaload, 1) := by decide +kernel
theorem dX9_meanStrength_34 : decode cX9_meanStrength 34 = .ok (.if_icmp .ge 18, 3) := by decide +kernel
theorem dX9_meanStrength_37 : decode cX9_meanStrength 37 = .ok (.iload_n 1, 1) := by decide +kernel
theorem dX9_meanStrength_38 : decode cX9_meanStrength 38 = .ok (.aload_n 0, 1) := by decide +kernel
theorem dX9_meanStrength_39 : decode cX9_meanStrength 39 = .ok (.iload_n 2, 1) := by decide +kernel
theorem dX9_meanStrength_40 : decode cX9_meanStrength 40 = .ok (.iconst 1, 1) := by decide +kernel
theorem dX9_meanStrength_41 : decode cX9_meanStrength 41 = .ok (.invokevirtual 73, 3) := by decide +kernel
theorem dX9_meanStrength_44 : decode cX9_meanStrength 44 = .ok (.iadd, 1) := by decide +kernel
theorem dX9_meanStrength_45 : decode cX9_meanStrength 45 = .ok (.istore_n 1, 1) := by decide +kernel
theorem dX9_meanStrength_46 : decode cX9_meanStrength 46 = .ok (.iinc 2 1, 3) := by decide +kernel
theorem dX9_meanStrength_49 : decode cX9_meanStrength 49 = .ok (.goto (-22), 3) := by decide +kernel
theorem dX9_meanStrength_52 : decode cX9_meanStrength 52 = .ok (.iload_n 1, 1) := by decide +kernel
theorem dX9_meanStrength_53 : decode cX9_meanStrength 53 = .ok (.i2d, 1) := by decide +kernel
theorem dX9_meanStrength_54 : decode cX9_meanStrength 54 = .ok (.aload_n 0, 1) := by decide +kernel
theorem dX9_meanStrength_55 : decode cX9_meanStrength 55 = .ok (.getfield 7, 3) := by decide +kernel
theorem dX9_meanStrength_58 : decode cX9_meanStrength 58 = .ok (.iconst 0, 1) := by decide +kernel
theorem dX9_meanStrength_59 : decode cX9_meanStrength 59 = .ok (.iaload, 1) := by decide +kernel
theorem dX9_meanStrength_60 : decode cX9_meanStrength 60 = .ok (.i2d, 1) := by decide +kernel
theorem dX9_meanStrength_61 : decode cX9_meanStrength 61 = .ok (.ddiv, 1) := by decide +kernel
theorem dX9_meanStrength_62 : decode cX9_meanStrength 62 = .ok (.dreturn, 1) := by decide +kernel
theorem dX9_openShare_0 : decode cX9_openShare 0 = .ok (.aload_n 0, 1) := by decide +kernel
theorem dX9_openShare_1 : decode cX9_openShare 1 = .ok (.aload_n 0, 1) := by decide +kernel
theorem dX9_openShare_2 : decode cX9_openShare 2 = .ok (.getfield 7, 3) := by decide +kernel
theorem dX9_openShare_5 : decode cX9_openShare 5 = .ok (.iconst 1, 1) := by decide +kernel
theorem dX9_openShare_6 : decode cX9_openShare 6 = .ok (.iaload, 1) := by decide +kernel
theorem dX9_openShare_7 : decode cX9_openShare 7 = .ok (.ifCond .ne 7, 3) := by decide +kernel
theorem dX9_openShare_10 : decode cX9_openShare 10 = .ok (.iconst 1, 1) := by decide +kernel
theorem dX9_openShare_11 : decode cX9_openShare 11 = .ok (.goto 4, 3) := by decide +kernel
theorem dX9_openShare_14 : decode cX9_openShare 14 = .ok (.iconst 0, 1) := by decide +kernel
theorem dX9_openShare_15 : decode cX9_openShare 15 = .ok (.invokevirtual 70, 3) := by decide +kernel
theorem dX9_openShare_18 : decode cX9_openShare 18 = .ok (.ifCond .eq 7, 3) := by decide +kernel
theorem dX9_openShare_21 : decode cX9_openShare 21 = .ok (.fconst 0, 1) := by decide +kernel
theorem dX9_openShare_22 : decode cX9_openShare 22 = .ok (.goto 24, 3) := by decide +kernel
theorem dX9_openShare_25 : decode cX9_openShare 25 = .ok (.aload_n 0, 1) := by decide +kernel
theorem dX9_openShare_26 : decode cX9_openShare 26 = .ok (.getfield 7, 3) := by decide +kernel
theorem dX9_openShare_29 : decode cX9_openShare 29 = .ok (.iconst 1, 1) := by decide +kernel
theorem dX9_openShare_30 : decode cX9_openShare 30 = .ok (.iaload, 1) := by decide +kernel
theorem dX9_openShare_31 : decode cX9_openShare 31 = .ok (.aload_n 0, 1) := by decide +kernel
theorem dX9_openShare_32 : decode cX9_openShare 32 = .ok (.iconst 0, 1) := by decide +kernel
theorem dX9_openShare_33 : decode cX9_openShare 33 = .ok (.invokevirtual 100, 3) := by decide +kernel
theorem dX9_openShare_36 : decode cX9_openShare 36 = .ok (.isub, 1) := by decide +kernel
theorem dX9_openShare_37 : decode cX9_openShare 37 = .ok (.i2f, 1) := by decide +kernel
theorem dX9_openShare_38 : decode cX9_openShare 38 = .ok (.aload_n 0, 1) := by decide +kernel
theorem dX9_openShare_39 : decode cX9_openShare 39 = .ok (.getfield 7, 3) := by decide +kernel
theorem dX9_openShare_42 : decode cX9_openShare 42 = .ok (.iconst 1, 1) := by decide +kernel
theorem dX9_openShare_43 : decode cX9_openShare 43 = .ok (.iaload, 1) := by decide +kernel
theorem dX9_openShare_44 : decode cX9_openShare 44 = .ok (.i2f, 1) := by decide +kernel
theorem dX9_openShare_45 : decode cX9_openShare 45 = .ok (.fdiv, 1) := by decide +kernel
theorem dX9_openShare_46 : decode cX9_openShare 46 = .ok (.freturn, 1) := by decide +kernel
theorem dX9_turnTotal_0 : decode cX9_turnTotal 0 = .ok (.aload_n 0, 1) := by decide +kernel
theorem dX9_turnTotal_1 : decode cX9_turnTotal 1 = .ok (.iconst 0, 1) := by decide +kernel
theorem dX9_turnTotal_2 : decode cX9_turnTotal 2 = .ok (.putfield 36, 3) := by decide +kernel
theorem dX9_turnTotal_5 : decode cX9_turnTotal 5 = .ok (.aload_n 0, 1) := by decide +kernel
theorem dX9_turnTotal_6 : decode cX9_turnTotal 6 = .ok (.getfield 7, 3) := by decide +kernel
theorem dX9_turnTotal_9 : decode cX9_turnTotal 9 = .ok (.iconst 2, 1) := by decide +kernel
theorem dX9_turnTotal_10 : decode cX9_turnTotal 10 = .ok (.iaload, 1) := by decide +kernel
theorem dX9_turnTotal_11 : decode cX9_turnTotal 11 = .ok (.ireturn, 1) := by decide +kernel
theorem dX9_turnsOf_0 : decode cX9_turnsOf 0 = .ok (.aload_n 0, 1) := by decide +kernel
theorem dX9_turnsOf_1 : decode cX9_turnsOf 1 = .ok (.iload_n 1, 1) := by decide +kernel
theorem dX9_turnsOf_2 : decode cX9_turnsOf 2 = .ok (.invokevirtual 93, 3) := by decide +kernel
theorem dX9_turnsOf_5 : decode cX9_turnsOf 5 = .ok (.ifCond .eq 7, 3) := by decide +kernel
theorem dX9_turnsOf_8 : decode cX9_turnsOf 8 = .ok (.iconst 0, 1) := by decide +kernel
theorem dX9_turnsOf_9 : decode cX9_turnsOf 9 = .ok (.goto 9, 3) := by decide +kernel
theorem dX9_turnsOf_12 : decode cX9_turnsOf 12 = .ok (.aload_n 0, 1) := by decide +kernel
theorem dX9_turnsOf_13 : decode cX9_turnsOf 13 = .ok (.iload_n 1, 1) := by decide +kernel
theorem dX9_turnsOf_14 : decode cX9_turnsOf 14 = .ok (.iconst 3, 1) := by decide +kernel
theorem dX9_turnsOf_15 : decode cX9_turnsOf 15 = .ok (.invokevirtual 73, 3) := by decide +kernel
theorem dX9_turnsOf_18 : decode cX9_turnsOf 18 = .ok (.ireturn, 1) := by decide +kernel
theorem dX9_moved_0 : decode cX9_moved 0 = .ok (.aload_n 0, 1) := by decide +kernel
theorem dX9_moved_1 : decode cX9_moved 1 = .ok (.iconst 0, 1) := by decide +kernel
theorem dX9_moved_2 : decode cX9_moved 2 = .ok (.putfield 36, 3) := by decide +kernel
theorem dX9_moved_5 : decode cX9_moved 5 = .ok (.aload_n 0, 1) := by decide +kernel
theorem dX9_moved_6 : decode cX9_moved 6 = .ok (.getfield 7, 3) := by decide +kernel
theorem dX9_moved_9 : decode cX9_moved 9 = .ok (.iconst 3, 1) := by decide +kernel
theorem dX9_moved_10 : decode cX9_moved 10 = .ok (.iaload, 1) := by decide +kernel
theorem dX9_moved_11 : decode cX9_moved 11 = .ok (.ireturn, 1) := by decide +kernel
theorem dX9_feed_0 : decode cX9_feed 0 = .ok (.aload_n 0, 1) := by decide +kernel
theorem dX9_feed_1 : decode cX9_feed 1 = .ok (.aload_n 0, 1) := by decide +kernel
theorem dX9_feed_2 : decode cX9_feed 2 = .ok (.getfield 160, 3) := by decide +kernel
theorem dX9_feed_5 : decode cX9_feed 5 = .ok (.bipush 60, 2) := by decide +kernel
theorem dX9_feed_7 : decode cX9_feed 7 = .ok (.if_icmp .ne 7, 3) := by decide +kernel
theorem dX9_feed_10 : decode cX9_feed 10 = .ok (.iconst 1, 1) := by decide +kernel
theorem dX9_feed_11 : decode cX9_feed 11 = .ok (.goto 4, 3) := by decide +kernel
theorem dX9_feed_14 : decode cX9_feed 14 = .ok (.iconst 0, 1) := by decide +kernel
theorem dX9_feed_15 : decode cX9_feed 15 = .ok (.invokevirtual 70, 3) := by decide +kernel
theorem dX9_feed_18 : decode cX9_feed 18 = .ok (.ifCond .eq 5, 3) := by decide +kernel
theorem dX9_feed_21 : decode cX9_feed 21 = .ok (.iconst 0, 1) := by decide +kernel
theorem dX9_feed_22 : decode cX9_feed 22 = .ok (.ireturn, 1) := by decide +kernel
theorem dX9_feed_23 : decode cX9_feed 23 = .ok (.aload_n 0, 1) := by decide +kernel
theorem dX9_feed_24 : decode cX9_feed 24 = .ok (.getfield 22, 3) := by decide +kernel
theorem dX9_feed_27 : decode cX9_feed 27 = .ok (.aload_n 0, 1) := by decide +kernel
theorem dX9_feed_28 : decode cX9_feed 28 = .ok (.getfield 160, 3) := by decide +kernel
theorem dX9_feed_31 : decode cX9_feed 31 = .ok (.iload_n 1, 1) := by decide +kernel
theorem dX9_feed_32 : decode cX9_feed 32 = .ok (.iastore, 1) := by decide +kernel
theorem dX9_feed_33 : decode cX9_feed 33 = .ok (.aload_n 0, 1) := by decide +kernel
theorem dX9_feed_34 : decode cX9_feed 34 = .ok (.dup, 1) := by decide +kernel
theorem dX9_feed_35 : decode cX9_feed 35 = .ok (.getfield 160, 3) := by decide +kernel
theorem dX9_feed_38 : decode cX9_feed 38 = .ok (.iconst 1, 1) := by decide +kernel
theorem dX9_feed_39 : decode cX9_feed 39 = .ok (.iadd, 1) := by decide +kernel
theorem dX9_feed_40 : decode cX9_feed 40 = .ok (.putfield 160, 3) := by decide +kernel
theorem dX9_feed_43 : decode cX9_feed 43 = .ok (.aload_n 0, 1) := by decide +kernel
theorem dX9_feed_44 : decode cX9_feed 44 = .ok (.getfield 160, 3) := by decide +kernel
theorem dX9_feed_47 : decode cX9_feed 47 = .ok (.ireturn, 1) := by decide +kernel
theorem dX9_here_0 : decode cX9_here 0 = .ok (.aload_n 0, 1) := by decide +kernel
theorem dX9_here_1 : decode cX9_here 1 = .ok (.getfield 163, 3) := by decide +kernel
theorem dX9_here_4 : decode cX9_here 4 = .ok (.aload_n 0, 1) := by decide +kernel
theorem dX9_here_5 : decode cX9_here 5 = .ok (.getfield 160, 3) := by decide +kernel
theorem dX9_here_8 : decode cX9_here 8 = .ok (.if_icmp .ge 15, 3) := by decide +kernel
theorem dX9_here_11 : decode cX9_here 11 = .ok (.aload_n 0, 1) := by decide +kernel
theorem dX9_here_12 : decode cX9_here 12 = .ok (.getfield 22, 3) := by decide +kernel
theorem dX9_here_15 : decode cX9_here 15 = .ok (.aload_n 0, 1) := by decide +kernel
theorem dX9_here_16 : decode cX9_here 16 = .ok (.getfield 163, 3) := by decide +kernel
theorem dX9_here_19 : decode cX9_here 19 = .ok (.iaload, 1) := by decide +kernel
theorem dX9_here_20 : decode cX9_here 20 = .ok (.goto 4, 3) := by decide +kernel
theorem dX9_here_23 : decode cX9_here 23 = .ok (.iconst (-1), 1) := by decide +kernel
theorem dX9_here_24 : decode cX9_here 24 = .ok (.ireturn, 1) := by decide +kernel
theorem dX9_skips_0 : decode cX9_skips 0 = .ok (.aload_n 0, 1) := by decide +kernel
theorem dX9_skips_1 : decode cX9_skips 1 = .ok (.invokevirtual 166, 3) := by decide +kernel
theorem dX9_skips_4 : decode cX9_skips 4 = .ok (.iload_n 1, 1) := by decide +kernel
theorem dX9_skips_5 : decode cX9_skips 5 = .ok (.if_icmp .eq 5, 3) := by decide +kernel
theorem dX9_skips_8 : decode cX9_skips 8 = .ok (.iconst 0, 1) := by decide +kernel
theorem dX9_skips_9 : decode cX9_skips 9 = .ok (.ireturn, 1) := by decide +kernel
theorem dX9_skips_10 : decode cX9_skips 10 = .ok (.aload_n 0, 1) := by decide +kernel
theorem dX9_skips_11 : decode cX9_skips 11 = .ok (.dup, 1) := by decide +kernel
theorem dX9_skips_12 : decode cX9_skips 12 = .ok (.getfield 163, 3) := by decide +kernel
theorem dX9_skips_15 : decode cX9_skips 15 = .ok (.iconst 1, 1) := by decide +kernel
theorem dX9_skips_16 : decode cX9_skips 16 = .ok (.iadd, 1) := by decide +kernel
theorem dX9_skips_17 : decode cX9_skips 17 = .ok (.putfield 163, 3) := by decide +kernel
theorem dX9_skips_20 : decode cX9_skips 20 = .ok (.iconst 1, 1) := by decide +kernel
theorem dX9_skips_21 : decode cX9_skips 21 = .ok (.ireturn, 1) := by decide +kernel
theorem dX9_isWord_0 : decode cX9_isWord 0 = .ok (.aload_n 0, 1) := by decide +kernel
theorem dX9_isWord_1 : decode cX9_isWord 1 = .ok (.getfield 33, 3) := by decide +kernel
theorem dX9_isWord_4 : decode cX9_isWord 4 = .ok (.iconst 4, 1) := by decide +kernel
theorem dX9_isWord_5 : decode cX9_isWord 5 = .ok (.aload_n 0, 1) := by decide +kernel
theorem dX9_isWord_6 : decode cX9_isWord 6 = .ok (.getfield 169, 3) := by decide +kernel
end
section
theorem dX9_isWord_9 : decode cX9_isWord 9 = .ok (.imul, 1) := by decide +kernel
theorem dX9_isWord_10 : decode cX9_isWord 10 = .ok (.iload_n 1, 1) := by decide +kernel
theorem dX9_isWord_11 : decode cX9_isWord 11 = .ok (.iastore, 1) := by decide +kernel
theorem dX9_isWord_12 : decode cX9_isWord 12 = .ok (.iconst 0, 1) := by decide +kernel
theorem dX9_isWord_13 : decode cX9_isWord 13 = .ok (.istore_n 3, 1) := by decide +kernel
theorem dX9_isWord_14 : decode cX9_isWord 14 = .ok (.iload_n 3, 1) := by decide +kernel
theorem dX9_isWord_15 : decode cX9_isWord 15 = .ok (.aload_n 2, 1) := by decide +kernel
theorem dX9_isWord_16 : decode cX9_isWord 16 = .ok (.invokevirtual 172, 3) := by decide +kernel
theorem dX9_isWord_19 : decode cX9_isWord 19 = .ok (.if_icmp .ge 23, 3) := by decide +kernel
theorem dX9_isWord_22 : decode cX9_isWord 22 = .ok (.aload_n 0, 1) := by decide +kernel
theorem dX9_isWord_23 : decode cX9_isWord 23 = .ok (.aload_n 2, 1) := by decide +kernel
theorem dX9_isWord_24 : decode cX9_isWord 24 = .ok (.iload_n 3, 1) := by decide +kernel
theorem dX9_isWord_25 : decode cX9_isWord 25 = .ok (.invokevirtual 176, 3) := by decide +kernel
theorem dX9_isWord_28 : decode cX9_isWord 28 = .ok (.invokevirtual 179, 3) := by decide +kernel
theorem dX9_isWord_31 : decode cX9_isWord 31 = .ok (.ifCond .ne 5, 3) := by decide +kernel
theorem dX9_isWord_34 : decode cX9_isWord 34 = .ok (.iconst 0, 1) := by decide +kernel
theorem dX9_isWord_35 : decode cX9_isWord 35 = .ok (.ireturn, 1) := by decide +kernel
theorem dX9_isWord_36 : decode cX9_isWord 36 = .ok (.iinc 3 1, 3) := by decide +kernel
theorem dX9_isWord_39 : decode cX9_isWord 39 = .ok (.goto (-25), 3) := by decide +kernel
theorem dX9_isWord_42 : decode cX9_isWord 42 = .ok (.iconst 1, 1) := by decide +kernel
theorem dX9_isWord_43 : decode cX9_isWord 43 = .ok (.ireturn, 1) := by decide +kernel
theorem dX9_figures_0 : decode cX9_figures 0 = .ok (.aload_n 0, 1) := by decide +kernel
theorem dX9_figures_1 : decode cX9_figures 1 = .ok (.iload_n 1, 1) := by decide +kernel
theorem dX9_figures_2 : decode cX9_figures 2 = .ok (.invokevirtual 179, 3) := by decide +kernel
theorem dX9_figures_5 : decode cX9_figures 5 = .ok (.ifCond .eq 17, 3) := by decide +kernel
theorem dX9_figures_8 : decode cX9_figures 8 = .ok (.aload_n 0, 1) := by decide +kernel
theorem dX9_figures_9 : decode cX9_figures 9 = .ok (.invokevirtual 166, 3) := by decide +kernel
theorem dX9_figures_12 : decode cX9_figures 12 = .ok (.bipush 48, 2) := by decide +kernel
theorem dX9_figures_14 : decode cX9_figures 14 = .ok (.bipush 57, 2) := by decide +kernel
theorem dX9_figures_16 : decode cX9_figures 16 = .ok (.invokestatic 62, 3) := by decide +kernel
theorem dX9_figures_19 : decode cX9_figures 19 = .ok (.ifCond .ne 5, 3) := by decide +kernel
theorem dX9_figures_22 : decode cX9_figures 22 = .ok (.iconst 0, 1) := by decide +kernel
theorem dX9_figures_23 : decode cX9_figures 23 = .ok (.ireturn, 1) := by decide +kernel
theorem dX9_figures_24 : decode cX9_figures 24 = .ok (.aload_n 0, 1) := by decide +kernel
theorem dX9_figures_25 : decode cX9_figures 25 = .ok (.getfield 33, 3) := by decide +kernel
theorem dX9_figures_28 : decode cX9_figures 28 = .ok (.iload_n 2, 1) := by decide +kernel
theorem dX9_figures_29 : decode cX9_figures 29 = .ok (.iconst 0, 1) := by decide +kernel
theorem dX9_figures_30 : decode cX9_figures 30 = .ok (.iastore, 1) := by decide +kernel
theorem dX9_figures_31 : decode cX9_figures 31 = .ok (.iconst 0, 1) := by decide +kernel
theorem dX9_figures_32 : decode cX9_figures 32 = .ok (.istore 4, 2) := by decide +kernel
theorem dX9_figures_34 : decode cX9_figures 34 = .ok (.iload 4, 2) := by decide +kernel
theorem dX9_figures_36 : decode cX9_figures 36 = .ok (.iload_n 3, 1) := by decide +kernel
theorem dX9_figures_37 : decode cX9_figures 37 = .ok (.if_icmp .ge 56, 3) := by decide +kernel
theorem dX9_figures_40 : decode cX9_figures 40 = .ok (.aload_n 0, 1) := by decide +kernel
theorem dX9_figures_41 : decode cX9_figures 41 = .ok (.invokevirtual 166, 3) := by decide +kernel
theorem dX9_figures_44 : decode cX9_figures 44 = .ok (.bipush 48, 2) := by decide +kernel
theorem dX9_figures_46 : decode cX9_figures 46 = .ok (.bipush 57, 2) := by decide +kernel
theorem dX9_figures_48 : decode cX9_figures 48 = .ok (.invokestatic 62, 3) := by decide +kernel
theorem dX9_figures_51 : decode cX9_figures 51 = .ok (.ifCond .eq 42, 3) := by decide +kernel
theorem dX9_figures_54 : decode cX9_figures 54 = .ok (.aload_n 0, 1) := by decide +kernel
theorem dX9_figures_55 : decode cX9_figures 55 = .ok (.getfield 33, 3) := by decide +kernel
theorem dX9_figures_58 : decode cX9_figures 58 = .ok (.iload_n 2, 1) := by decide +kernel
theorem dX9_figures_59 : decode cX9_figures 59 = .ok (.bipush 10, 2) := by decide +kernel
theorem dX9_figures_61 : decode cX9_figures 61 = .ok (.aload_n 0, 1) := by decide +kernel
theorem dX9_figures_62 : decode cX9_figures 62 = .ok (.getfield 33, 3) := by decide +kernel
theorem dX9_figures_65 : decode cX9_figures 65 = .ok (.iload_n 2, 1) := by decide +kernel
theorem dX9_figures_66 : decode cX9_figures 66 = .ok (.iaload, 1) := by decide +kernel
theorem dX9_figures_67 : decode cX9_figures 67 = .ok (.imul, 1) := by decide +kernel
theorem dX9_figures_68 : decode cX9_figures 68 = .ok (.aload_n 0, 1) := by decide +kernel
theorem dX9_figures_69 : decode cX9_figures 69 = .ok (.invokevirtual 166, 3) := by decide +kernel
theorem dX9_figures_72 : decode cX9_figures 72 = .ok (.iadd, 1) := by decide +kernel
theorem dX9_figures_73 : decode cX9_figures 73 = .ok (.bipush 48, 2) := by decide +kernel
theorem dX9_figures_75 : decode cX9_figures 75 = .ok (.isub, 1) := by decide +kernel
theorem dX9_figures_76 : decode cX9_figures 76 = .ok (.iastore, 1) := by decide +kernel
theorem dX9_figures_77 : decode cX9_figures 77 = .ok (.aload_n 0, 1) := by decide +kernel
theorem dX9_figures_78 : decode cX9_figures 78 = .ok (.dup, 1) := by decide +kernel
theorem dX9_figures_79 : decode cX9_figures 79 = .ok (.getfield 163, 3) := by decide +kernel
theorem dX9_figures_82 : decode cX9_figures 82 = .ok (.iconst 1, 1) := by decide +kernel
theorem dX9_figures_83 : decode cX9_figures 83 = .ok (.iadd, 1) := by decide +kernel
theorem dX9_figures_84 : decode cX9_figures 84 = .ok (.putfield 163, 3) := by decide +kernel
theorem dX9_figures_87 : decode cX9_figures 87 = .ok (.iinc 4 1, 3) := by decide +kernel
theorem dX9_figures_90 : decode cX9_figures 90 = .ok (.goto (-56), 3) := by decide +kernel
theorem dX9_figures_93 : decode cX9_figures 93 = .ok (.iconst 1, 1) := by decide +kernel
theorem dX9_figures_94 : decode cX9_figures 94 = .ok (.ireturn, 1) := by decide +kernel
theorem dX9_poleHere_0 : decode cX9_poleHere 0 = .ok (.aload_n 0, 1) := by decide +kernel
theorem dX9_poleHere_1 : decode cX9_poleHere 1 = .ok (.getfield 33, 3) := by decide +kernel
theorem dX9_poleHere_4 : decode cX9_poleHere 4 = .ok (.iload_n 1, 1) := by decide +kernel
theorem dX9_poleHere_5 : decode cX9_poleHere 5 = .ok (.aload_n 0, 1) := by decide +kernel
theorem dX9_poleHere_6 : decode cX9_poleHere 6 = .ok (.invokevirtual 166, 3) := by decide +kernel
theorem dX9_poleHere_9 : decode cX9_poleHere 9 = .ok (.bipush 110, 2) := by decide +kernel
theorem dX9_poleHere_11 : decode cX9_poleHere 11 = .ok (.if_icmp .ne 7, 3) := by decide +kernel
theorem dX9_poleHere_14 : decode cX9_poleHere 14 = .ok (.iconst 1, 1) := by decide +kernel
theorem dX9_poleHere_15 : decode cX9_poleHere 15 = .ok (.goto 4, 3) := by decide +kernel
theorem dX9_poleHere_18 : decode cX9_poleHere 18 = .ok (.iconst 0, 1) := by decide +kernel
theorem dX9_poleHere_19 : decode cX9_poleHere 19 = .ok (.iastore, 1) := by decide +kernel
theorem dX9_poleHere_20 : decode cX9_poleHere 20 = .ok (.aload_n 0, 1) := by decide +kernel
theorem dX9_poleHere_21 : decode cX9_poleHere 21 = .ok (.bipush 110, 2) := by decide +kernel
theorem dX9_poleHere_23 : decode cX9_poleHere 23 = .ok (.invokevirtual 179, 3) := by decide +kernel
theorem dX9_poleHere_26 : decode cX9_poleHere 26 = .ok (.ifCond .ne 12, 3) := by decide +kernel
theorem dX9_poleHere_29 : decode cX9_poleHere 29 = .ok (.aload_n 0, 1) := by decide +kernel
theorem dX9_poleHere_30 : decode cX9_poleHere 30 = .ok (.bipush 115, 2) := by decide +kernel
theorem dX9_poleHere_32 : decode cX9_poleHere 32 = .ok (.invokevirtual 179, 3) := by decide +kernel
theorem dX9_poleHere_35 : decode cX9_poleHere 35 = .ok (.ifCond .eq 7, 3) := by decide +kernel
theorem dX9_poleHere_38 : decode cX9_poleHere 38 = .ok (.iconst 1, 1) := by decide +kernel
theorem dX9_poleHere_39 : decode cX9_poleHere 39 = .ok (.goto 4, 3) := by decide +kernel
theorem dX9_poleHere_42 : decode cX9_poleHere 42 = .ok (.iconst 0, 1) := by decide +kernel
theorem dX9_poleHere_43 : decode cX9_poleHere 43 = .ok (.ireturn, 1) := by decide +kernel
theorem dX9_commandHere_0 : decode cX9_commandHere 0 = .ok (.iconst 4, 1) := by decide +kernel
theorem dX9_commandHere_1 : decode cX9_commandHere 1 = .ok (.aload_n 0, 1) := by decide +kernel
theorem dX9_commandHere_2 : decode cX9_commandHere 2 = .ok (.getfield 169, 3) := by decide +kernel
theorem dX9_commandHere_5 : decode cX9_commandHere 5 = .ok (.imul, 1) := by decide +kernel
theorem dX9_commandHere_6 : decode cX9_commandHere 6 = .ok (.iconst 1, 1) := by decide +kernel
theorem dX9_commandHere_7 : decode cX9_commandHere 7 = .ok (.iadd, 1) := by decide +kernel
theorem dX9_commandHere_8 : decode cX9_commandHere 8 = .ok (.istore_n 1, 1) := by decide +kernel
theorem dX9_commandHere_9 : decode cX9_commandHere 9 = .ok (.aload_n 0, 1) := by decide +kernel
theorem dX9_commandHere_10 : decode cX9_commandHere 10 = .ok (.bipush 116, 2) := by decide +kernel
theorem dX9_commandHere_12 : decode cX9_commandHere 12 = .ok (.invokevirtual 179, 3) := by decide +kernel
theorem dX9_commandHere_15 : decode cX9_commandHere 15 = .ok (.ifCond .eq 30, 3) := by decide +kernel
theorem dX9_commandHere_18 : decode cX9_commandHere 18 = .ok (.aload_n 0, 1) := by decide +kernel
theorem dX9_commandHere_19 : decode cX9_commandHere 19 = .ok (.iconst 1, 1) := by decide +kernel
theorem dX9_commandHere_20 : decode cX9_commandHere 20 = .ok (.ldc 182, 2) := by decide +kernel
theorem dX9_commandHere_22 : decode cX9_commandHere 22 = .ok (.invokevirtual 184, 3) := by decide +kernel
theorem dX9_commandHere_25 : decode cX9_commandHere 25 = .ok (.ifCond .eq 18, 3) := by decide +kernel
theorem dX9_commandHere_28 : decode cX9_commandHere 28 = .ok (.aload_n 0, 1) := by decide +kernel
theorem dX9_commandHere_29 : decode cX9_commandHere 29 = .ok (.bipush 32, 2) := by decide +kernel
theorem dX9_commandHere_31 : decode cX9_commandHere 31 = .ok (.iload_n 1, 1) := by decide +kernel
theorem dX9_commandHere_32 : decode cX9_commandHere 32 = .ok (.iconst 1, 1) := by decide +kernel
theorem dX9_commandHere_33 : decode cX9_commandHere 33 = .ok (.invokevirtual 188, 3) := by decide +kernel
theorem dX9_commandHere_36 : decode cX9_commandHere 36 = .ok (.ifCond .eq 7, 3) := by decide +kernel
theorem dX9_commandHere_39 : decode cX9_commandHere 39 = .ok (.iconst 1, 1) := by decide +kernel
theorem dX9_commandHere_40 : decode cX9_commandHere 40 = .ok (.goto 4, 3) := by decide +kernel
theorem dX9_commandHere_43 : decode cX9_commandHere 43 = .ok (.iconst 0, 1) := by decide +kernel
theorem dX9_commandHere_44 : decode cX9_commandHere 44 = .ok (.ireturn, 1) := by decide +kernel
theorem dX9_commandHere_45 : decode cX9_commandHere 45 = .ok (.aload_n 0, 1) := by decide +kernel
theorem dX9_commandHere_46 : decode cX9_commandHere 46 = .ok (.bipush 100, 2) := by decide +kernel
theorem dX9_commandHere_48 : decode cX9_commandHere 48 = .ok (.invokevirtual 179, 3) := by decide +kernel
theorem dX9_commandHere_51 : decode cX9_commandHere 51 = .ok (.ifCond .eq 43, 3) := by decide +kernel
theorem dX9_commandHere_54 : decode cX9_commandHere 54 = .ok (.aload_n 0, 1) := by decide +kernel
theorem dX9_commandHere_55 : decode cX9_commandHere 55 = .ok (.iconst 2, 1) := by decide +kernel
theorem dX9_commandHere_56 : decode cX9_commandHere 56 = .ok (.ldc 191, 2) := by decide +kernel
theorem dX9_commandHere_58 : decode cX9_commandHere 58 = .ok (.invokevirtual 184, 3) := by decide +kernel
theorem dX9_commandHere_61 : decode cX9_commandHere 61 = .ok (.ifCond .eq 31, 3) := by decide +kernel
theorem dX9_commandHere_64 : decode cX9_commandHere 64 = .ok (.aload_n 0, 1) := by decide +kernel
theorem dX9_commandHere_65 : decode cX9_commandHere 65 = .ok (.bipush 32, 2) := by decide +kernel
theorem dX9_commandHere_67 : decode cX9_commandHere 67 = .ok (.iload_n 1, 1) := by decide +kernel
theorem dX9_commandHere_68 : decode cX9_commandHere 68 = .ok (.iconst 1, 1) := by decide +kernel
theorem dX9_commandHere_69 : decode cX9_commandHere 69 = .ok (.invokevirtual 188, 3) := by decide +kernel
theorem dX9_commandHere_72 : decode cX9_commandHere 72 = .ok (.ifCond .eq 20, 3) := by decide +kernel
theorem dX9_commandHere_75 : decode cX9_commandHere 75 = .ok (.aload_n 0, 1) := by decide +kernel
theorem dX9_commandHere_76 : decode cX9_commandHere 76 = .ok (.bipush 45, 2) := by decide +kernel
theorem dX9_commandHere_78 : decode cX9_commandHere 78 = .ok (.iload_n 1, 1) := by decide +kernel
theorem dX9_commandHere_79 : decode cX9_commandHere 79 = .ok (.iconst 1, 1) := by decide +kernel
theorem dX9_commandHere_80 : decode cX9_commandHere 80 = .ok (.iadd, 1) := by decide +kernel
theorem dX9_commandHere_81 : decode cX9_commandHere 81 = .ok (.iconst 1, 1) := by decide +kernel
theorem dX9_commandHere_82 : decode cX9_commandHere 82 = .ok (.invokevirtual 188, 3) := by decide +kernel
theorem dX9_commandHere_85 : decode cX9_commandHere 85 = .ok (.ifCond .eq 7, 3) := by decide +kernel
theorem dX9_commandHere_88 : decode cX9_commandHere 88 = .ok (.iconst 1, 1) := by decide +kernel
theorem dX9_commandHere_89 : decode cX9_commandHere 89 = .ok (.goto 4, 3) := by decide +kernel
theorem dX9_commandHere_92 : decode cX9_commandHere 92 = .ok (.iconst 0, 1) := by decide +kernel
theorem dX9_commandHere_93 : decode cX9_commandHere 93 = .ok (.ireturn, 1) := by decide +kernel
theorem dX9_commandHere_94 : decode cX9_commandHere 94 = .ok (.aload_n 0, 1) := by decide +kernel
theorem dX9_commandHere_95 : decode cX9_commandHere 95 = .ok (.bipush 102, 2) := by decide +kernel
theorem dX9_commandHere_97 : decode cX9_commandHere 97 = .ok (.invokevirtual 179, 3) := by decide +kernel
theorem dX9_commandHere_100 : decode cX9_commandHere 100 = .ok (.ifCond .eq 30, 3) := by decide +kernel
theorem dX9_commandHere_103 : decode cX9_commandHere 103 = .ok (.aload_n 0, 1) := by decide +kernel
theorem dX9_commandHere_104 : decode cX9_commandHere 104 = .ok (.iconst 3, 1) := by decide +kernel
theorem dX9_commandHere_105 : decode cX9_commandHere 105 = .ok (.ldc 193, 2) := by decide +kernel
theorem dX9_commandHere_107 : decode cX9_commandHere 107 = .ok (.invokevirtual 184, 3) := by decide +kernel
theorem dX9_commandHere_110 : decode cX9_commandHere 110 = .ok (.ifCond .eq 18, 3) := by decide +kernel
theorem dX9_commandHere_113 : decode cX9_commandHere 113 = .ok (.aload_n 0, 1) := by decide +kernel
theorem dX9_commandHere_114 : decode cX9_commandHere 114 = .ok (.bipush 32, 2) := by decide +kernel
theorem dX9_commandHere_116 : decode cX9_commandHere 116 = .ok (.iload_n 1, 1) := by decide +kernel
theorem dX9_commandHere_117 : decode cX9_commandHere 117 = .ok (.iconst 2, 1) := by decide +kernel
theorem dX9_commandHere_118 : decode cX9_commandHere 118 = .ok (.invokevirtual 188, 3) := by decide +kernel
theorem dX9_commandHere_121 : decode cX9_commandHere 121 = .ok (.ifCond .eq 7, 3) := by decide +kernel
theorem dX9_commandHere_124 : decode cX9_commandHere 124 = .ok (.iconst 1, 1) := by decide +kernel
theorem dX9_commandHere_125 : decode cX9_commandHere 125 = .ok (.goto 4, 3) := by decide +kernel
theorem dX9_commandHere_128 : decode cX9_commandHere 128 = .ok (.iconst 0, 1) := by decide +kernel
theorem dX9_commandHere_129 : decode cX9_commandHere 129 = .ok (.ireturn, 1) := by decide +kernel
theorem dX9_commandHere_130 : decode cX9_commandHere 130 = .ok (.aload_n 0, 1) := by decide +kernel
theorem dX9_commandHere_131 : decode cX9_commandHere 131 = .ok (.bipush 109, 2) := by decide +kernel
theorem dX9_commandHere_133 : decode cX9_commandHere 133 = .ok (.invokevirtual 179, 3) := by decide +kernel
theorem dX9_commandHere_136 : decode cX9_commandHere 136 = .ok (.ifCond .eq 73, 3) := by decide +kernel
theorem dX9_commandHere_139 : decode cX9_commandHere 139 = .ok (.aload_n 0, 1) := by decide +kernel
theorem dX9_commandHere_140 : decode cX9_commandHere 140 = .ok (.bipush 111, 2) := by decide +kernel
theorem dX9_commandHere_142 : decode cX9_commandHere 142 = .ok (.invokevirtual 179, 3) := by decide +kernel
theorem dX9_commandHere_145 : decode cX9_commandHere 145 = .ok (.ifCond .eq 14, 3) := by decide +kernel
theorem dX9_commandHere_148 : decode cX9_commandHere 148 = .ok (.aload_n 0, 1) := by decide +kernel
theorem dX9_commandHere_149 : decode cX9_commandHere 149 = .ok (.bipush 6, 2) := by decide +kernel
theorem dX9_commandHere_151 : decode cX9_commandHere 151 = .ok (.ldc 195, 2) := by decide +kernel
theorem dX9_commandHere_153 : decode cX9_commandHere 153 = .ok (.invokevirtual 184, 3) := by decide +kernel
theorem dX9_commandHere_156 : decode cX9_commandHere 156 = .ok (.goto 52, 3) := by decide +kernel
theorem dX9_commandHere_159 : decode cX9_commandHere 159 = .ok (.aload_n 0, 1) := by decide +kernel
theorem dX9_commandHere_160 : decode cX9_commandHere 160 = .ok (.iconst 0, 1) := by decide +kernel
theorem dX9_commandHere_161 : decode cX9_commandHere 161 = .ok (.ldc 197, 2) := by decide +kernel
theorem dX9_commandHere_163 : decode cX9_commandHere 163 = .ok (.invokevirtual 184, 3) := by decide +kernel
theorem dX9_commandHere_166 : decode cX9_commandHere 166 = .ok (.ifCond .eq 41, 3) := by decide +kernel
theorem dX9_commandHere_169 : decode cX9_commandHere 169 = .ok (.aload_n 0, 1) := by decide +kernel
theorem dX9_commandHere_170 : decode cX9_commandHere 170 = .ok (.bipush 32, 2) := by decide +kernel
theorem dX9_commandHere_172 : decode cX9_commandHere 172 = .ok (.iload_n 1, 1) := by decide +kernel
theorem dX9_commandHere_173 : decode cX9_commandHere 173 = .ok (.iconst 2, 1) := by decide +kernel
theorem dX9_commandHere_174 : decode cX9_commandHere 174 = .ok (.invokevirtual 188, 3) := by decide +kernel
theorem dX9_commandHere_177 : decode cX9_commandHere 177 = .ok (.ifCond .eq 30, 3) := by decide +kernel
theorem dX9_commandHere_180 : decode cX9_commandHere 180 = .ok (.aload_n 0, 1) := by decide +kernel
theorem dX9_commandHere_181 : decode cX9_commandHere 181 = .ok (.bipush 32, 2) := by decide +kernel
theorem dX9_commandHere_183 : decode cX9_commandHere 183 = .ok (.iload_n 1, 1) := by decide +kernel
theorem dX9_commandHere_184 : decode cX9_commandHere 184 = .ok (.iconst 1, 1) := by decide +kernel
theorem dX9_commandHere_185 : decode cX9_commandHere 185 = .ok (.iadd, 1) := by decide +kernel
theorem dX9_commandHere_186 : decode cX9_commandHere 186 = .ok (.iconst 2, 1) := by decide +kernel
theorem dX9_commandHere_187 : decode cX9_commandHere 187 = .ok (.invokevirtual 188, 3) := by decide +kernel
theorem dX9_commandHere_190 : decode cX9_commandHere 190 = .ok (.ifCond .eq 17, 3) := by decide +kernel
theorem dX9_commandHere_193 : decode cX9_commandHere 193 = .ok (.aload_n 0, 1) := by decide +kernel
theorem dX9_commandHere_194 : decode cX9_commandHere 194 = .ok (.iload_n 1, 1) := by decide +kernel
theorem dX9_commandHere_195 : decode cX9_commandHere 195 = .ok (.iconst 2, 1) := by decide +kernel
theorem dX9_commandHere_196 : decode cX9_commandHere 196 = .ok (.iadd, 1) := by decide +kernel
theorem dX9_commandHere_197 : decode cX9_commandHere 197 = .ok (.invokevirtual 199, 3) := by decide +kernel
theorem dX9_commandHere_200 : decode cX9_commandHere 200 = .ok (.ifCond .eq 7, 3) := by decide +kernel
theorem dX9_commandHere_203 : decode cX9_commandHere 203 = .ok (.iconst 1, 1) := by decide +kernel
theorem dX9_commandHere_204 : decode cX9_commandHere 204 = .ok (.goto 4, 3) := by decide +kernel
theorem dX9_commandHere_207 : decode cX9_commandHere 207 = .ok (.iconst 0, 1) := by decide +kernel
theorem dX9_commandHere_208 : decode cX9_commandHere 208 = .ok (.ireturn, 1) := by decide +kernel
theorem dX9_commandHere_209 : decode cX9_commandHere 209 = .ok (.aload_n 0, 1) := by decide +kernel
theorem dX9_commandHere_210 : decode cX9_commandHere 210 = .ok (.bipush 115, 2) := by decide +kernel
theorem dX9_commandHere_212 : decode cX9_commandHere 212 = .ok (.invokevirtual 179, 3) := by decide +kernel
theorem dX9_commandHere_215 : decode cX9_commandHere 215 = .ok (.ifCond .ne 5, 3) := by decide +kernel
theorem dX9_commandHere_218 : decode cX9_commandHere 218 = .ok (.iconst 0, 1) := by decide +kernel
theorem dX9_commandHere_219 : decode cX9_commandHere 219 = .ok (.ireturn, 1) := by decide +kernel
theorem dX9_commandHere_220 : decode cX9_commandHere 220 = .ok (.aload_n 0, 1) := by decide +kernel
theorem dX9_commandHere_221 : decode cX9_commandHere 221 = .ok (.bipush 101, 2) := by decide +kernel
theorem dX9_commandHere_223 : decode cX9_commandHere 223 = .ok (.invokevirtual 179, 3) := by decide +kernel
theorem dX9_commandHere_226 : decode cX9_commandHere 226 = .ok (.ifCond .eq 11, 3) := by decide +kernel
theorem dX9_commandHere_229 : decode cX9_commandHere 229 = .ok (.aload_n 0, 1) := by decide +kernel
theorem dX9_commandHere_230 : decode cX9_commandHere 230 = .ok (.iconst 4, 1) := by decide +kernel
theorem dX9_commandHere_231 : decode cX9_commandHere 231 = .ok (.ldc 202, 2) := by decide +kernel
theorem dX9_commandHere_233 : decode cX9_commandHere 233 = .ok (.invokevirtual 184, 3) := by decide +kernel
theorem dX9_commandHere_236 : decode cX9_commandHere 236 = .ok (.ireturn, 1) := by decide +kernel
theorem dX9_commandHere_237 : decode cX9_commandHere 237 = .ok (.aload_n 0, 1) := by decide +kernel
theorem dX9_commandHere_238 : decode cX9_commandHere 238 = .ok (.bipush 104, 2) := by decide +kernel
theorem dX9_commandHere_240 : decode cX9_commandHere 240 = .ok (.invokevirtual 179, 3) := by decide +kernel
theorem dX9_commandHere_243 : decode cX9_commandHere 243 = .ok (.ifCond .eq 30, 3) := by decide +kernel
theorem dX9_commandHere_246 : decode cX9_commandHere 246 = .ok (.aload_n 0, 1) := by decide +kernel
theorem dX9_commandHere_247 : decode cX9_commandHere 247 = .ok (.iconst 5, 1) := by decide +kernel
theorem dX9_commandHere_248 : decode cX9_commandHere 248 = .ok (.ldc 204, 2) := by decide +kernel
theorem dX9_commandHere_250 : decode cX9_commandHere 250 = .ok (.invokevirtual 184, 3) := by decide +kernel
theorem dX9_commandHere_253 : decode cX9_commandHere 253 = .ok (.ifCond .eq 18, 3) := by decide +kernel
theorem dX9_commandHere_256 : decode cX9_commandHere 256 = .ok (.aload_n 0, 1) := by decide +kernel
theorem dX9_commandHere_257 : decode cX9_commandHere 257 = .ok (.bipush 32, 2) := by decide +kernel
theorem dX9_commandHere_259 : decode cX9_commandHere 259 = .ok (.iload_n 1, 1) := by decide +kernel
theorem dX9_commandHere_260 : decode cX9_commandHere 260 = .ok (.iconst 2, 1) := by decide +kernel
theorem dX9_commandHere_261 : decode cX9_commandHere 261 = .ok (.invokevirtual 188, 3) := by decide +kernel
theorem dX9_commandHere_264 : decode cX9_commandHere 264 = .ok (.ifCond .eq 7, 3) := by decide +kernel
theorem dX9_commandHere_267 : decode cX9_commandHere 267 = .ok (.iconst 1, 1) := by decide +kernel
theorem dX9_commandHere_268 : decode cX9_commandHere 268 = .ok (.goto 4, 3) := by decide +kernel
theorem dX9_commandHere_271 : decode cX9_commandHere 271 = .ok (.iconst 0, 1) := by decide +kernel
theorem dX9_commandHere_272 : decode cX9_commandHere 272 = .ok (.ireturn, 1) := by decide +kernel
theorem dX9_commandHere_273 : decode cX9_commandHere 273 = .ok (.aload_n 0, 1) := by decide +kernel
theorem dX9_commandHere_274 : decode cX9_commandHere 274 = .ok (.bipush 7, 2) := by decide +kernel
theorem dX9_commandHere_276 : decode cX9_commandHere 276 = .ok (.ldc 206, 2) := by decide +kernel
theorem dX9_commandHere_278 : decode cX9_commandHere 278 = .ok (.invokevirtual 184, 3) := by decide +kernel
theorem dX9_commandHere_281 : decode cX9_commandHere 281 = .ok (.ifCond .eq 31, 3) := by decide +kernel
theorem dX9_commandHere_284 : decode cX9_commandHere 284 = .ok (.aload_n 0, 1) := by decide +kernel
theorem dX9_commandHere_285 : decode cX9_commandHere 285 = .ok (.bipush 32, 2) := by decide +kernel
theorem dX9_commandHere_287 : decode cX9_commandHere 287 = .ok (.iload_n 1, 1) := by decide +kernel
theorem dX9_commandHere_288 : decode cX9_commandHere 288 = .ok (.iconst 1, 1) := by decide +kernel
theorem dX9_commandHere_289 : decode cX9_commandHere 289 = .ok (.invokevirtual 188, 3) := by decide +kernel
theorem dX9_commandHere_292 : decode cX9_commandHere 292 = .ok (.ifCond .eq 20, 3) := by decide +kernel
theorem dX9_commandHere_295 : decode cX9_commandHere 295 = .ok (.aload_n 0, 1) := by decide +kernel
theorem dX9_commandHere_296 : decode cX9_commandHere 296 = .ok (.bipush 61, 2) := by decide +kernel
theorem dX9_commandHere_298 : decode cX9_commandHere 298 = .ok (.iload_n 1, 1) := by decide +kernel
theorem dX9_commandHere_299 : decode cX9_commandHere 299 = .ok (.iconst 1, 1) := by decide +kernel
theorem dX9_commandHere_300 : decode cX9_commandHere 300 = .ok (.iadd, 1) := by decide +kernel
theorem dX9_commandHere_301 : decode cX9_commandHere 301 = .ok (.iconst 2, 1) := by decide +kernel
theorem dX9_commandHere_302 : decode cX9_commandHere 302 = .ok (.invokevirtual 188, 3) := by decide +kernel
theorem dX9_commandHere_305 : decode cX9_commandHere 305 = .ok (.ifCond .eq 7, 3) := by decide +kernel
theorem dX9_commandHere_308 : decode cX9_commandHere 308 = .ok (.iconst 1, 1) := by decide +kernel
theorem dX9_commandHere_309 : decode cX9_commandHere 309 = .ok (.goto 4, 3) := by decide +kernel
theorem dX9_commandHere_312 : decode cX9_commandHere 312 = .ok (.iconst 0, 1) := by decide +kernel
theorem dX9_commandHere_313 : decode cX9_commandHere 313 = .ok (.ireturn, 1) := by decide +kernel
theorem dX9_isText_0 : decode cX9_isText 0 = .ok (.aload_n 0, 1) := by decide +kernel
theorem dX9_isText_1 : decode cX9_isText 1 = .ok (.iconst 0, 1) := by decide +kernel
theorem dX9_isText_2 : decode cX9_isText 2 = .ok (.putfield 163, 3) := by decide +kernel
theorem dX9_isText_5 : decode cX9_isText 5 = .ok (.aload_n 0, 1) := by decide +kernel
theorem dX9_isText_6 : decode cX9_isText 6 = .ok (.iconst 0, 1) := by decide +kernel
theorem dX9_isText_7 : decode cX9_isText 7 = .ok (.putfield 169, 3) := by decide +kernel
theorem dX9_isText_10 : decode cX9_isText 10 = .ok (.aload_n 0, 1) := by decide +kernel
theorem dX9_isText_11 : decode cX9_isText 11 = .ok (.invokevirtual 208, 3) := by decide +kernel
theorem dX9_isText_14 : decode cX9_isText 14 = .ok (.ifCond .ne 5, 3) := by decide +kernel
theorem dX9_isText_17 : decode cX9_isText 17 = .ok (.iconst 0, 1) := by decide +kernel
theorem dX9_isText_18 : decode cX9_isText 18 = .ok (.ireturn, 1) := by decide +kernel
theorem dX9_isText_19 : decode cX9_isText 19 = .ok (.aload_n 0, 1) := by decide +kernel
theorem dX9_isText_20 : decode cX9_isText 20 = .ok (.dup, 1) := by decide +kernel
theorem dX9_isText_21 : decode cX9_isText 21 = .ok (.getfield 169, 3) := by decide +kernel
theorem dX9_isText_24 : decode cX9_isText 24 = .ok (.iconst 1, 1) := by decide +kernel
theorem dX9_isText_25 : decode cX9_isText 25 = .ok (.iadd, 1) := by decide +kernel
theorem dX9_isText_26 : decode cX9_isText 26 = .ok (.putfield 169, 3) := by decide +kernel
theorem dX9_isText_29 : decode cX9_isText 29 = .ok (.aload_n 0, 1) := by decide +kernel
theorem dX9_isText_30 : decode cX9_isText 30 = .ok (.bipush 59, 2) := by decide +kernel
theorem dX9_isText_32 : decode cX9_isText 32 = .ok (.invokevirtual 179, 3) := by decide +kernel
theorem dX9_isText_35 : decode cX9_isText 35 = .ok (.ifCond .ne (-25), 3) := by decide +kernel
theorem dX9_isText_38 : decode cX9_isText 38 = .ok (.aload_n 0, 1) := by decide +kernel
theorem dX9_isText_39 : decode cX9_isText 39 = .ok (.getfield 163, 3) := by decide +kernel
theorem dX9_isText_42 : decode cX9_isText 42 = .ok (.aload_n 0, 1) := by decide +kernel
theorem dX9_isText_43 : decode cX9_isText 43 = .ok (.getfield 160, 3) := by decide +kernel
theorem dX9_isText_46 : decode cX9_isText 46 = .ok (.if_icmp .ne 7, 3) := by decide +kernel
theorem dX9_isText_49 : decode cX9_isText 49 = .ok (.iconst 1, 1) := by decide +kernel
theorem dX9_isText_50 : decode cX9_isText 50 = .ok (.goto 4, 3) := by decide +kernel
theorem dX9_isText_53 : decode cX9_isText 53 = .ok (.iconst 0, 1) := by decide +kernel
theorem dX9_isText_54 : decode cX9_isText 54 = .ok (.ireturn, 1) := by decide +kernel
theorem dX9_carries_0 : decode cX9_carries 0 = .ok (.aload_n 0, 1) := by decide +kernel
theorem dX9_carries_1 : decode cX9_carries 1 = .ok (.getfield 33, 3) := by decide +kernel
theorem dX9_carries_4 : decode cX9_carries 4 = .ok (.iload_n 1, 1) := by decide +kernel
theorem dX9_carries_5 : decode cX9_carries 5 = .ok (.iconst 1, 1) := by decide +kernel
theorem dX9_carries_6 : decode cX9_carries 6 = .ok (.iadd, 1) := by decide +kernel
theorem dX9_carries_7 : decode cX9_carries 7 = .ok (.iaload, 1) := by decide +kernel
theorem dX9_carries_8 : decode cX9_carries 8 = .ok (.istore_n 2, 1) := by decide +kernel
theorem dX9_carries_9 : decode cX9_carries 9 = .ok (.aload_n 0, 1) := by decide +kernel
theorem dX9_carries_10 : decode cX9_carries 10 = .ok (.getfield 33, 3) := by decide +kernel
theorem dX9_carries_13 : decode cX9_carries 13 = .ok (.iload_n 1, 1) := by decide +kernel
theorem dX9_carries_14 : decode cX9_carries 14 = .ok (.iconst 2, 1) := by decide +kernel
theorem dX9_carries_15 : decode cX9_carries 15 = .ok (.iadd, 1) := by decide +kernel
theorem dX9_carries_16 : decode cX9_carries 16 = .ok (.iaload, 1) := by decide +kernel
theorem dX9_carries_17 : decode cX9_carries 17 = .ok (.istore_n 3, 1) := by decide +kernel
theorem dX9_carries_18 : decode cX9_carries 18 = .ok (.aload_n 0, 1) := by decide +kernel
theorem dX9_carries_19 : decode cX9_carries 19 = .ok (.getfield 33, 3) := by decide +kernel
theorem dX9_carries_22 : decode cX9_carries 22 = .ok (.iload_n 1, 1) := by decide +kernel
theorem dX9_carries_23 : decode cX9_carries 23 = .ok (.iaload, 1) := by decide +kernel
theorem dX9_carries_24 : decode cX9_carries 24 = .ok (.tableswitch 103 0 6 #[44, 68, 74, 81, 87, 92, 98], 44) := by decide +kernel
theorem dX9_carries_68 : decode cX9_carries 68 = .ok (.aload_n 0, 1) := by decide +kernel
theorem dX9_carries_69 : decode cX9_carries 69 = .ok (.iload_n 2, 1) := by decide +kernel
theorem dX9_carries_70 : decode cX9_carries 70 = .ok (.iload_n 3, 1) := by decide +kernel
theorem dX9_carries_71 : decode cX9_carries 71 = .ok (.aload_n 0, 1) := by decide +kernel
theorem dX9_carries_72 : decode cX9_carries 72 = .ok (.getfield 33, 3) := by decide +kernel
theorem dX9_carries_75 : decode cX9_carries 75 = .ok (.iload_n 1, 1) := by decide +kernel
theorem dX9_carries_76 : decode cX9_carries 76 = .ok (.iconst 3, 1) := by decide +kernel
theorem dX9_carries_77 : decode cX9_carries 77 = .ok (.iadd, 1) := by decide +kernel
theorem dX9_carries_78 : decode cX9_carries 78 = .ok (.iaload, 1) := by decide +kernel
theorem dX9_carries_79 : decode cX9_carries 79 = .ok (.iconst 1, 1) := by decide +kernel
theorem dX9_carries_80 : decode cX9_carries 80 = .ok (.if_icmp .ne 7, 3) := by decide +kernel
theorem dX9_carries_83 : decode cX9_carries 83 = .ok (.iconst 1, 1) := by decide +kernel
theorem dX9_carries_84 : decode cX9_carries 84 = .ok (.goto 4, 3) := by decide +kernel
theorem dX9_carries_87 : decode cX9_carries 87 = .ok (.iconst 0, 1) := by decide +kernel
theorem dX9_carries_88 : decode cX9_carries 88 = .ok (.invokevirtual 212, 3) := by decide +kernel
theorem dX9_carries_91 : decode cX9_carries 91 = .ok (.ireturn, 1) := by decide +kernel
theorem dX9_carries_92 : decode cX9_carries 92 = .ok (.aload_n 0, 1) := by decide +kernel
theorem dX9_carries_93 : decode cX9_carries 93 = .ok (.iload_n 2, 1) := by decide +kernel
theorem dX9_carries_94 : decode cX9_carries 94 = .ok (.invokevirtual 216, 3) := by decide +kernel
theorem dX9_carries_97 : decode cX9_carries 97 = .ok (.ireturn, 1) := by decide +kernel
theorem dX9_carries_98 : decode cX9_carries 98 = .ok (.aload_n 0, 1) := by decide +kernel
theorem dX9_carries_99 : decode cX9_carries 99 = .ok (.iload_n 2, 1) := by decide +kernel
theorem dX9_carries_100 : decode cX9_carries 100 = .ok (.iload_n 3, 1) := by decide +kernel
theorem dX9_carries_101 : decode cX9_carries 101 = .ok (.invokevirtual 219, 3) := by decide +kernel
theorem dX9_carries_104 : decode cX9_carries 104 = .ok (.ireturn, 1) := by decide +kernel
theorem dX9_carries_105 : decode cX9_carries 105 = .ok (.aload_n 0, 1) := by decide +kernel
theorem dX9_carries_106 : decode cX9_carries 106 = .ok (.iload_n 2, 1) := by decide +kernel
theorem dX9_carries_107 : decode cX9_carries 107 = .ok (.invokevirtual 222, 3) := by decide +kernel
theorem dX9_carries_110 : decode cX9_carries 110 = .ok (.ireturn, 1) := by decide +kernel
theorem dX9_carries_111 : decode cX9_carries 111 = .ok (.aload_n 0, 1) := by decide +kernel
theorem dX9_carries_112 : decode cX9_carries 112 = .ok (.invokevirtual 225, 3) := by decide +kernel
theorem dX9_carries_115 : decode cX9_carries 115 = .ok (.ireturn, 1) := by decide +kernel
theorem dX9_carries_116 : decode cX9_carries 116 = .ok (.aload_n 0, 1) := by decide +kernel
theorem dX9_carries_117 : decode cX9_carries 117 = .ok (.iload_n 2, 1) := by decide +kernel
theorem dX9_carries_118 : decode cX9_carries 118 = .ok (.invokevirtual 228, 3) := by decide +kernel
theorem dX9_carries_121 : decode cX9_carries 121 = .ok (.ireturn, 1) := by decide +kernel
theorem dX9_carries_122 : decode cX9_carries 122 = .ok (.aload_n 0, 1) := by decide +kernel
theorem dX9_carries_123 : decode cX9_carries 123 = .ok (.invokevirtual 231, 3) := by decide +kernel
theorem dX9_carries_126 : decode cX9_carries 126 = .ok (.ireturn, 1) := by decide +kernel
theorem dX9_carries_127 : decode cX9_carries 127 = .ok (.aload_n 0, 1) := by decide +kernel
theorem dX9_carries_128 : decode cX9_carries 128 = .ok (.iload_n 2, 1) := by decide +kernel
theorem dX9_carries_129 : decode cX9_carries 129 = .ok (.iload_n 3, 1) := by decide +kernel
theorem dX9_carries_130 : decode cX9_carries 130 = .ok (.invokevirtual 234, 3) := by decide +kernel
theorem dX9_carries_133 : decode cX9_carries 133 = .ok (.ireturn, 1) := by decide +kernel
theorem dX9_deniesText_0 : decode cX9_deniesText 0 = .ok (.aload_n 0, 1) := by decide +kernel
theorem dX9_deniesText_1 : decode cX9_deniesText 1 = .ok (.getfield 39, 3) := by decide +kernel
theorem dX9_deniesText_4 : decode cX9_deniesText 4 = .ok (.ifCond .eq 10, 3) := by decide +kernel
theorem dX9_deniesText_7 : decode cX9_deniesText 7 = .ok (.aload_n 0, 1) := by decide +kernel
theorem dX9_deniesText_8 : decode cX9_deniesText 8 = .ok (.getfield 43, 3) := by decide +kernel
theorem dX9_deniesText_11 : decode cX9_deniesText 11 = .ok (.goto 5, 3) := by decide +kernel
theorem dX9_deniesText_14 : decode cX9_deniesText 14 = .ok (.bipush 7, 2) := by decide +kernel
theorem dX9_deniesText_16 : decode cX9_deniesText 16 = .ok (.istore_n 2, 1) := by decide +kernel
theorem dX9_deniesText_17 : decode cX9_deniesText 17 = .ok (.aload_n 0, 1) := by decide +kernel
theorem dX9_deniesText_18 : decode cX9_deniesText 18 = .ok (.iconst 2, 1) := by decide +kernel
theorem dX9_deniesText_19 : decode cX9_deniesText 19 = .ok (.bipush 6, 2) := by decide +kernel
theorem dX9_deniesText_21 : decode cX9_deniesText 21 = .ok (.iload_n 1, 1) := by decide +kernel
theorem dX9_deniesText_22 : decode cX9_deniesText 22 = .ok (.invokevirtual 77, 3) := by decide +kernel
theorem dX9_deniesText_25 : decode cX9_deniesText 25 = .ok (.pop, 1) := by decide +kernel
theorem dX9_deniesText_26 : decode cX9_deniesText 26 = .ok (.aload_n 0, 1) := by decide +kernel
theorem dX9_deniesText_27 : decode cX9_deniesText 27 = .ok (.iload_n 2, 1) := by decide +kernel
theorem dX9_deniesText_28 : decode cX9_deniesText 28 = .ok (.putfield 49, 3) := by decide +kernel
theorem dX9_deniesText_31 : decode cX9_deniesText 31 = .ok (.iconst 0, 1) := by decide +kernel
theorem dX9_deniesText_32 : decode cX9_deniesText 32 = .ok (.ireturn, 1) := by decide +kernel
theorem dX9_execute_0 : decode cX9_execute 0 = .ok (.aload_n 0, 1) := by decide +kernel
theorem dX9_execute_1 : decode cX9_execute 1 = .ok (.invokevirtual 237, 3) := by decide +kernel
theorem dX9_execute_4 : decode cX9_execute 4 = .ok (.istore_n 1, 1) := by decide +kernel
theorem dX9_execute_5 : decode cX9_execute 5 = .ok (.iload_n 1, 1) := by decide +kernel
theorem dX9_execute_6 : decode cX9_execute 6 = .ok (.ifCond .ne 11, 3) := by decide +kernel
theorem dX9_execute_9 : decode cX9_execute 9 = .ok (.aload_n 0, 1) := by decide +kernel
theorem dX9_execute_10 : decode cX9_execute 10 = .ok (.aload_n 0, 1) := by decide +kernel
theorem dX9_execute_11 : decode cX9_execute 11 = .ok (.getfield 163, 3) := by decide +kernel
theorem dX9_execute_14 : decode cX9_execute 14 = .ok (.putfield 25, 3) := by decide +kernel
theorem dX9_execute_17 : decode cX9_execute 17 = .ok (.aload_n 0, 1) := by decide +kernel
theorem dX9_execute_18 : decode cX9_execute 18 = .ok (.iconst 0, 1) := by decide +kernel
theorem dX9_execute_19 : decode cX9_execute 19 = .ok (.putfield 160, 3) := by decide +kernel
theorem dX9_execute_22 : decode cX9_execute 22 = .ok (.aload_n 0, 1) := by decide +kernel
theorem dX9_execute_23 : decode cX9_execute 23 = .ok (.iload_n 1, 1) := by decide +kernel
theorem dX9_execute_24 : decode cX9_execute 24 = .ok (.ifCond .eq 7, 3) := by decide +kernel
theorem dX9_execute_27 : decode cX9_execute 27 = .ok (.iconst 0, 1) := by decide +kernel
theorem dX9_execute_28 : decode cX9_execute 28 = .ok (.goto 4, 3) := by decide +kernel
theorem dX9_execute_31 : decode cX9_execute 31 = .ok (.iconst 1, 1) := by decide +kernel
theorem dX9_execute_32 : decode cX9_execute 32 = .ok (.invokevirtual 70, 3) := by decide +kernel
theorem dX9_execute_35 : decode cX9_execute 35 = .ok (.ifCond .eq 5, 3) := by decide +kernel
theorem dX9_execute_38 : decode cX9_execute 38 = .ok (.iconst 0, 1) := by decide +kernel
theorem dX9_execute_39 : decode cX9_execute 39 = .ok (.ireturn, 1) := by decide +kernel
theorem dX9_execute_40 : decode cX9_execute 40 = .ok (.aload_n 0, 1) := by decide +kernel
theorem dX9_execute_41 : decode cX9_execute 41 = .ok (.getfield 7, 3) := by decide +kernel
theorem dX9_execute_44 : decode cX9_execute 44 = .ok (.iconst 0, 1) := by decide +kernel
theorem dX9_execute_45 : decode cX9_execute 45 = .ok (.aload_n 0, 1) := by decide +kernel
theorem dX9_execute_46 : decode cX9_execute 46 = .ok (.getfield 19, 3) := by decide +kernel
theorem dX9_execute_49 : decode cX9_execute 49 = .ok (.iconst 0, 1) := by decide +kernel
theorem dX9_execute_50 : decode cX9_execute 50 = .ok (.invokestatic 58, 3) := by decide +kernel
theorem dX9_execute_53 : decode cX9_execute 53 = .ok (.aload_n 0, 1) := by decide +kernel
theorem dX9_execute_54 : decode cX9_execute 54 = .ok (.iconst 1, 1) := by decide +kernel
theorem dX9_execute_55 : decode cX9_execute 55 = .ok (.putfield 52, 3) := by decide +kernel
theorem dX9_execute_58 : decode cX9_execute 58 = .ok (.iconst 0, 1) := by decide +kernel
theorem dX9_execute_59 : decode cX9_execute 59 = .ok (.istore_n 2, 1) := by decide +kernel
theorem dX9_execute_60 : decode cX9_execute 60 = .ok (.iconst 0, 1) := by decide +kernel
theorem dX9_execute_61 : decode cX9_execute 61 = .ok (.istore_n 3, 1) := by decide +kernel
theorem dX9_execute_62 : decode cX9_execute 62 = .ok (.iload_n 2, 1) := by decide +kernel
theorem dX9_execute_63 : decode cX9_execute 63 = .ok (.aload_n 0, 1) := by decide +kernel
theorem dX9_execute_64 : decode cX9_execute 64 = .ok (.getfield 169, 3) := by decide +kernel
theorem dX9_execute_67 : decode cX9_execute 67 = .ok (.if_icmp .ge 31, 3) := by decide +kernel
theorem dX9_execute_70 : decode cX9_execute 70 = .ok (.aload_n 0, 1) := by decide +kernel
theorem dX9_execute_71 : decode cX9_execute 71 = .ok (.getfield 36, 3) := by decide +kernel
theorem dX9_execute_74 : decode cX9_execute 74 = .ok (.ifCond .ne 24, 3) := by decide +kernel
theorem dX9_execute_77 : decode cX9_execute 77 = .ok (.aload_n 0, 1) := by decide +kernel
theorem dX9_execute_78 : decode cX9_execute 78 = .ok (.iconst 4, 1) := by decide +kernel
theorem dX9_execute_79 : decode cX9_execute 79 = .ok (.iload_n 2, 1) := by decide +kernel
theorem dX9_execute_80 : decode cX9_execute 80 = .ok (.imul, 1) := by decide +kernel
theorem dX9_execute_81 : decode cX9_execute 81 = .ok (.invokevirtual 240, 3) := by decide +kernel
theorem dX9_execute_84 : decode cX9_execute 84 = .ok (.istore_n 3, 1) := by decide +kernel
theorem dX9_execute_85 : decode cX9_execute 85 = .ok (.aload_n 0, 1) := by decide +kernel
theorem dX9_execute_86 : decode cX9_execute 86 = .ok (.getfield 36, 3) := by decide +kernel
theorem dX9_execute_89 : decode cX9_execute 89 = .ok (.ifCond .ne (-27), 3) := by decide +kernel
theorem dX9_execute_92 : decode cX9_execute 92 = .ok (.iinc 2 1, 3) := by decide +kernel
theorem dX9_execute_95 : decode cX9_execute 95 = .ok (.goto (-33), 3) := by decide +kernel
theorem dX9_execute_98 : decode cX9_execute 98 = .ok (.aload_n 0, 1) := by decide +kernel
theorem dX9_execute_99 : decode cX9_execute 99 = .ok (.iconst 0, 1) := by decide +kernel
theorem dX9_execute_100 : decode cX9_execute 100 = .ok (.putfield 52, 3) := by decide +kernel
theorem dX9_execute_103 : decode cX9_execute 103 = .ok (.aload_n 0, 1) := by decide +kernel
theorem dX9_execute_104 : decode cX9_execute 104 = .ok (.getfield 36, 3) := by decide +kernel
theorem dX9_execute_107 : decode cX9_execute 107 = .ok (.ifCond .le 32, 3) := by decide +kernel
theorem dX9_execute_110 : decode cX9_execute 110 = .ok (.aload_n 0, 1) := by decide +kernel
theorem dX9_execute_111 : decode cX9_execute 111 = .ok (.getfield 19, 3) := by decide +kernel
theorem dX9_execute_114 : decode cX9_execute 114 = .ok (.iconst 0, 1) := by decide +kernel
theorem dX9_execute_115 : decode cX9_execute 115 = .ok (.aload_n 0, 1) := by decide +kernel
theorem dX9_execute_116 : decode cX9_execute 116 = .ok (.getfield 7, 3) := by decide +kernel
theorem dX9_execute_119 : decode cX9_execute 119 = .ok (.iconst 0, 1) := by decide +kernel
theorem dX9_execute_120 : decode cX9_execute 120 = .ok (.invokestatic 58, 3) := by decide +kernel
theorem dX9_execute_123 : decode cX9_execute 123 = .ok (.aload_n 0, 1) := by decide +kernel
theorem dX9_execute_124 : decode cX9_execute 124 = .ok (.iload_n 2, 1) := by decide +kernel
theorem dX9_execute_125 : decode cX9_execute 125 = .ok (.invokevirtual 243, 3) := by decide +kernel
theorem dX9_execute_128 : decode cX9_execute 128 = .ok (.iload_n 3, 1) := by decide +kernel
theorem dX9_execute_129 : decode cX9_execute 129 = .ok (.ifCond .le 7, 3) := by decide +kernel
theorem dX9_execute_132 : decode cX9_execute 132 = .ok (.iconst 0, 1) := by decide +kernel
theorem dX9_execute_133 : decode cX9_execute 133 = .ok (.goto 4, 3) := by decide +kernel
theorem dX9_execute_136 : decode cX9_execute 136 = .ok (.iload_n 3, 1) := by decide +kernel
theorem dX9_execute_137 : decode cX9_execute 137 = .ok (.iadd, 1) := by decide +kernel
theorem dX9_execute_138 : decode cX9_execute 138 = .ok (.ireturn, 1) := by decide +kernel
theorem dX9_execute_139 : decode cX9_execute 139 = .ok (.aload_n 0, 1) := by decide +kernel
theorem dX9_execute_140 : decode cX9_execute 140 = .ok (.aload_n 0, 1) := by decide +kernel
theorem dX9_execute_141 : decode cX9_execute 141 = .ok (.getfield 19, 3) := by decide +kernel
theorem dX9_execute_144 : decode cX9_execute 144 = .ok (.invokevirtual 85, 3) := by decide +kernel
theorem dX9_execute_147 : decode cX9_execute 147 = .ok (.aload_n 0, 1) := by decide +kernel
theorem dX9_execute_148 : decode cX9_execute 148 = .ok (.getfield 169, 3) := by decide +kernel
theorem dX9_execute_151 : decode cX9_execute 151 = .ok (.ireturn, 1) := by decide +kernel
theorem dX9_faultPosition_0 : decode cX9_faultPosition 0 = .ok (.aload_n 0, 1) := by decide +kernel
theorem dX9_faultPosition_1 : decode cX9_faultPosition 1 = .ok (.aload_n 0, 1) := by decide +kernel
theorem dX9_faultPosition_2 : decode cX9_faultPosition 2 = .ok (.getfield 25, 3) := by decide +kernel
theorem dX9_faultPosition_5 : decode cX9_faultPosition 5 = .ok (.ifCond .ge 7, 3) := by decide +kernel
theorem dX9_faultPosition_8 : decode cX9_faultPosition 8 = .ok (.iconst 1, 1) := by decide +kernel
theorem dX9_faultPosition_9 : decode cX9_faultPosition 9 = .ok (.goto 4, 3) := by decide +kernel
theorem dX9_faultPosition_12 : decode cX9_faultPosition 12 = .ok (.iconst 0, 1) := by decide +kernel
theorem dX9_faultPosition_13 : decode cX9_faultPosition 13 = .ok (.invokevirtual 70, 3) := by decide +kernel
theorem dX9_faultPosition_16 : decode cX9_faultPosition 16 = .ok (.ifCond .eq 7, 3) := by decide +kernel
theorem dX9_faultPosition_19 : decode cX9_faultPosition 19 = .ok (.iconst 0, 1) := by decide +kernel
theorem dX9_faultPosition_20 : decode cX9_faultPosition 20 = .ok (.goto 7, 3) := by decide +kernel
theorem dX9_faultPosition_23 : decode cX9_faultPosition 23 = .ok (.aload_n 0, 1) := by decide +kernel
theorem dX9_faultPosition_24 : decode cX9_faultPosition 24 = .ok (.getfield 25, 3) := by decide +kernel
theorem dX9_faultPosition_27 : decode cX9_faultPosition 27 = .ok (.ireturn, 1) := by decide +kernel
theorem dX9_writes_0 : decode cX9_writes 0 = .ok (.aload_n 0, 1) := by decide +kernel
theorem dX9_writes_1 : decode cX9_writes 1 = .ok (.getfield 29, 3) := by decide +kernel
theorem dX9_writes_4 : decode cX9_writes 4 = .ok (.aload_n 0, 1) := by decide +kernel
theorem dX9_writes_5 : decode cX9_writes 5 = .ok (.getfield 246, 3) := by decide +kernel
theorem dX9_writes_8 : decode cX9_writes 8 = .ok (.iload_n 1, 1) := by decide +kernel
theorem dX9_writes_9 : decode cX9_writes 9 = .ok (.i2c, 1) := by decide +kernel
theorem dX9_writes_10 : decode cX9_writes 10 = .ok (.castore, 1) := by decide +kernel
theorem dX9_writes_11 : decode cX9_writes 11 = .ok (.aload_n 0, 1) := by decide +kernel
theorem dX9_writes_12 : decode cX9_writes 12 = .ok (.dup, 1) := by decide +kernel
theorem dX9_writes_13 : decode cX9_writes 13 = .ok (.getfield 246, 3) := by decide +kernel
theorem dX9_writes_16 : decode cX9_writes 16 = .ok (.iconst 1, 1) := by decide +kernel
theorem dX9_writes_17 : decode cX9_writes 17 = .ok (.iadd, 1) := by decide +kernel
theorem dX9_writes_18 : decode cX9_writes 18 = .ok (.putfield 246, 3) := by decide +kernel
theorem dX9_writes_21 : decode cX9_writes 21 = .ok (.return_, 1) := by decide +kernel
theorem dX9_writesNumber_0 : decode cX9_writesNumber 0 = .ok (.iload_n 1, 1) := by decide +kernel
theorem dX9_writesNumber_1 : decode cX9_writesNumber 1 = .ok (.bipush 9, 2) := by decide +kernel
theorem dX9_writesNumber_3 : decode cX9_writesNumber 3 = .ok (.if_icmp .le 11, 3) := by decide +kernel
theorem dX9_writesNumber_6 : decode cX9_writesNumber 6 = .ok (.aload_n 0, 1) := by decide +kernel
theorem dX9_writesNumber_7 : decode cX9_writesNumber 7 = .ok (.iload_n 1, 1) := by decide +kernel
theorem dX9_writesNumber_8 : decode cX9_writesNumber 8 = .ok (.bipush 10, 2) := by decide +kernel
theorem dX9_writesNumber_10 : decode cX9_writesNumber 10 = .ok (.idiv, 1) := by decide +kernel
theorem dX9_writesNumber_11 : decode cX9_writesNumber 11 = .ok (.invokevirtual 249, 3) := by decide +kernel
theorem dX9_writesNumber_14 : decode cX9_writesNumber 14 = .ok (.aload_n 0, 1) := by decide +kernel
theorem dX9_writesNumber_15 : decode cX9_writesNumber 15 = .ok (.bipush 48, 2) := by decide +kernel
theorem dX9_writesNumber_17 : decode cX9_writesNumber 17 = .ok (.iload_n 1, 1) := by decide +kernel
theorem dX9_writesNumber_18 : decode cX9_writesNumber 18 = .ok (.bipush 10, 2) := by decide +kernel
theorem dX9_writesNumber_20 : decode cX9_writesNumber 20 = .ok (.irem, 1) := by decide +kernel
theorem dX9_writesNumber_21 : decode cX9_writesNumber 21 = .ok (.iadd, 1) := by decide +kernel
theorem dX9_writesNumber_22 : decode cX9_writesNumber 22 = .ok (.invokevirtual 252, 3) := by decide +kernel
theorem dX9_writesNumber_25 : decode cX9_writesNumber 25 = .ok (.return_, 1) := by decide +kernel
theorem dX9_writesBehind_0 : decode cX9_writesBehind 0 = .ok (.aload_n 0, 1) := by decide +kernel
theorem dX9_writesBehind_1 : decode cX9_writesBehind 1 = .ok (.iload_n 1, 1) := by decide +kernel
theorem dX9_writesBehind_2 : decode cX9_writesBehind 2 = .ok (.invokevirtual 252, 3) := by decide +kernel
theorem dX9_writesBehind_5 : decode cX9_writesBehind 5 = .ok (.aload_n 0, 1) := by decide +kernel
theorem dX9_writesBehind_6 : decode cX9_writesBehind 6 = .ok (.iload_n 2, 1) := by decide +kernel
theorem dX9_writesBehind_7 : decode cX9_writesBehind 7 = .ok (.invokevirtual 249, 3) := by decide +kernel
theorem dX9_writesBehind_10 : decode cX9_writesBehind 10 = .ok (.return_, 1) := by decide +kernel
theorem dX9_writeMagnet_0 : decode cX9_writeMagnet 0 = .ok (.aload_n 0, 1) := by decide +kernel
theorem dX9_writeMagnet_1 : decode cX9_writeMagnet 1 = .ok (.iload_n 1, 1) := by decide +kernel
theorem dX9_writeMagnet_2 : decode cX9_writeMagnet 2 = .ok (.invokevirtual 93, 3) := by decide +kernel
theorem dX9_writeMagnet_5 : decode cX9_writeMagnet 5 = .ok (.ifCond .eq 5, 3) := by decide +kernel
theorem dX9_writeMagnet_8 : decode cX9_writeMagnet 8 = .ok (.iconst 0, 1) := by decide +kernel
theorem dX9_writeMagnet_9 : decode cX9_writeMagnet 9 = .ok (.ireturn, 1) := by decide +kernel
theorem dX9_writeMagnet_10 : decode cX9_writeMagnet 10 = .ok (.aload_n 0, 1) := by decide +kernel
theorem dX9_writeMagnet_11 : decode cX9_writeMagnet 11 = .ok (.iconst 0, 1) := by decide +kernel
theorem dX9_writeMagnet_12 : decode cX9_writeMagnet 12 = .ok (.putfield 246, 3) := by decide +kernel
theorem dX9_writeMagnet_15 : decode cX9_writeMagnet 15 = .ok (.aload_n 0, 1) := by decide +kernel
theorem dX9_writeMagnet_16 : decode cX9_writeMagnet 16 = .ok (.iload_n 1, 1) := by decide +kernel
theorem dX9_writeMagnet_17 : decode cX9_writeMagnet 17 = .ok (.invokevirtual 249, 3) := by decide +kernel
theorem dX9_writeMagnet_20 : decode cX9_writeMagnet 20 = .ok (.aload_n 0, 1) := by decide +kernel
theorem dX9_writeMagnet_21 : decode cX9_writeMagnet 21 = .ok (.bipush 64, 2) := by decide +kernel
theorem dX9_writeMagnet_23 : decode cX9_writeMagnet 23 = .ok (.aload_n 0, 1) := by decide +kernel
theorem dX9_writeMagnet_24 : decode cX9_writeMagnet 24 = .ok (.iload_n 1, 1) := by decide +kernel
theorem dX9_writeMagnet_25 : decode cX9_writeMagnet 25 = .ok (.iconst 0, 1) := by decide +kernel
theorem dX9_writeMagnet_26 : decode cX9_writeMagnet 26 = .ok (.invokevirtual 73, 3) := by decide +kernel
theorem dX9_writeMagnet_29 : decode cX9_writeMagnet 29 = .ok (.invokevirtual 255, 3) := by decide +kernel
theorem dX9_writeMagnet_32 : decode cX9_writeMagnet 32 = .ok (.aload_n 0, 1) := by decide +kernel
theorem dX9_writeMagnet_33 : decode cX9_writeMagnet 33 = .ok (.aload_n 0, 1) := by decide +kernel
theorem dX9_writeMagnet_34 : decode cX9_writeMagnet 34 = .ok (.iload_n 1, 1) := by decide +kernel
theorem dX9_writeMagnet_35 : decode cX9_writeMagnet 35 = .ok (.invokevirtual 107, 3) := by decide +kernel
theorem dX9_writeMagnet_38 : decode cX9_writeMagnet 38 = .ok (.aload_n 0, 1) := by decide +kernel
theorem dX9_writeMagnet_39 : decode cX9_writeMagnet 39 = .ok (.iload_n 1, 1) := by decide +kernel
theorem dX9_writeMagnet_40 : decode cX9_writeMagnet 40 = .ok (.iconst 1, 1) := by decide +kernel
theorem dX9_writeMagnet_41 : decode cX9_writeMagnet 41 = .ok (.invokevirtual 73, 3) := by decide +kernel
theorem dX9_writeMagnet_44 : decode cX9_writeMagnet 44 = .ok (.invokevirtual 255, 3) := by decide +kernel
theorem dX9_writeMagnet_47 : decode cX9_writeMagnet 47 = .ok (.iconst 0, 1) := by decide +kernel
theorem dX9_writeMagnet_48 : decode cX9_writeMagnet 48 = .ok (.istore_n 2, 1) := by decide +kernel
theorem dX9_writeMagnet_49 : decode cX9_writeMagnet 49 = .ok (.iload_n 2, 1) := by decide +kernel
theorem dX9_writeMagnet_50 : decode cX9_writeMagnet 50 = .ok (.aload_n 0, 1) := by decide +kernel
theorem dX9_writeMagnet_51 : decode cX9_writeMagnet 51 = .ok (.getfield 7, 3) := by decide +kernel
theorem dX9_writeMagnet_54 : decode cX9_writeMagnet 54 = .ok (.iconst 1, 1) := by decide +kernel
theorem dX9_writeMagnet_55 : decode cX9_writeMagnet 55 = .ok (.iaload, 1) := by decide +kernel
theorem dX9_writeMagnet_56 : decode cX9_writeMagnet 56 = .ok (.if_icmp .ge 66, 3) := by decide +kernel
theorem dX9_writeMagnet_59 : decode cX9_writeMagnet 59 = .ok (.aload_n 0, 1) := by decide +kernel
theorem dX9_writeMagnet_60 : decode cX9_writeMagnet 60 = .ok (.iload_n 2, 1) := by decide +kernel
theorem dX9_writeMagnet_61 : decode cX9_writeMagnet 61 = .ok (.iconst 0, 1) := by decide +kernel
theorem dX9_writeMagnet_62 : decode cX9_writeMagnet 62 = .ok (.invokevirtual 115, 3) := by decide +kernel
theorem dX9_writeMagnet_65 : decode cX9_writeMagnet 65 = .ok (.istore_n 3, 1) := by decide +kernel
theorem dX9_writeMagnet_66 : decode cX9_writeMagnet 66 = .ok (.aload_n 0, 1) := by decide +kernel
theorem dX9_writeMagnet_67 : decode cX9_writeMagnet 67 = .ok (.iload_n 2, 1) := by decide +kernel
theorem dX9_writeMagnet_68 : decode cX9_writeMagnet 68 = .ok (.iconst 1, 1) := by decide +kernel
theorem dX9_writeMagnet_69 : decode cX9_writeMagnet 69 = .ok (.invokevirtual 115, 3) := by decide +kernel
theorem dX9_writeMagnet_72 : decode cX9_writeMagnet 72 = .ok (.istore 4, 2) := by decide +kernel
theorem dX9_writeMagnet_74 : decode cX9_writeMagnet 74 = .ok (.iload_n 3, 1) := by decide +kernel
theorem dX9_writeMagnet_75 : decode cX9_writeMagnet 75 = .ok (.iload_n 1, 1) := by decide +kernel
theorem dX9_writeMagnet_76 : decode cX9_writeMagnet 76 = .ok (.if_icmp .eq 9, 3) := by decide +kernel
theorem dX9_writeMagnet_79 : decode cX9_writeMagnet 79 = .ok (.iload 4, 2) := by decide +kernel
theorem dX9_writeMagnet_81 : decode cX9_writeMagnet 81 = .ok (.iload_n 1, 1) := by decide +kernel
theorem dX9_writeMagnet_82 : decode cX9_writeMagnet 82 = .ok (.if_icmp .ne 34, 3) := by decide +kernel
theorem dX9_writeMagnet_85 : decode cX9_writeMagnet 85 = .ok (.aload_n 0, 1) := by decide +kernel
theorem dX9_writeMagnet_86 : decode cX9_writeMagnet 86 = .ok (.aload_n 0, 1) := by decide +kernel
theorem dX9_writeMagnet_87 : decode cX9_writeMagnet 87 = .ok (.iload_n 2, 1) := by decide +kernel
theorem dX9_writeMagnet_88 : decode cX9_writeMagnet 88 = .ok (.iconst 0, 1) := by decide +kernel
theorem dX9_writeMagnet_89 : decode cX9_writeMagnet 89 = .ok (.invokevirtual 118, 3) := by decide +kernel
theorem dX9_writeMagnet_92 : decode cX9_writeMagnet 92 = .ok (.ifCond .eq 8, 3) := by decide +kernel
theorem dX9_writeMagnet_95 : decode cX9_writeMagnet 95 = .ok (.bipush 61, 2) := by decide +kernel
theorem dX9_writeMagnet_97 : decode cX9_writeMagnet 97 = .ok (.goto 5, 3) := by decide +kernel
theorem dX9_writeMagnet_100 : decode cX9_writeMagnet 100 = .ok (.bipush 35, 2) := by decide +kernel
theorem dX9_writeMagnet_102 : decode cX9_writeMagnet 102 = .ok (.iload_n 3, 1) := by decide +kernel
theorem dX9_writeMagnet_103 : decode cX9_writeMagnet 103 = .ok (.iload_n 1, 1) := by decide +kernel
theorem dX9_writeMagnet_104 : decode cX9_writeMagnet 104 = .ok (.if_icmp .ne 8, 3) := by decide +kernel
theorem dX9_writeMagnet_107 : decode cX9_writeMagnet 107 = .ok (.iload 4, 2) := by decide +kernel
theorem dX9_writeMagnet_109 : decode cX9_writeMagnet 109 = .ok (.goto 4, 3) := by decide +kernel
theorem dX9_writeMagnet_112 : decode cX9_writeMagnet 112 = .ok (.iload_n 3, 1) := by decide +kernel
theorem dX9_writeMagnet_113 : decode cX9_writeMagnet 113 = .ok (.invokevirtual 255, 3) := by decide +kernel
theorem dX9_writeMagnet_116 : decode cX9_writeMagnet 116 = .ok (.iinc 2 1, 3) := by decide +kernel
theorem dX9_writeMagnet_119 : decode cX9_writeMagnet 119 = .ok (.goto (-70), 3) := by decide +kernel
theorem dX9_writeMagnet_122 : decode cX9_writeMagnet 122 = .ok (.aload_n 0, 1) := by decide +kernel
theorem dX9_writeMagnet_123 : decode cX9_writeMagnet 123 = .ok (.getfield 246, 3) := by decide +kernel
theorem dX9_writeMagnet_126 : decode cX9_writeMagnet 126 = .ok (.ireturn, 1) := by decide +kernel
theorem dX9_lineCharacter_0 : decode cX9_lineCharacter 0 = .ok (.aload_n 0, 1) := by decide +kernel
theorem dX9_lineCharacter_1 : decode cX9_lineCharacter 1 = .ok (.iload_n 1, 1) := by decide +kernel
theorem dX9_lineCharacter_2 : decode cX9_lineCharacter 2 = .ok (.iconst 0, 1) := by decide +kernel
theorem dX9_lineCharacter_3 : decode cX9_lineCharacter 3 = .ok (.aload_n 0, 1) := by decide +kernel
theorem dX9_lineCharacter_4 : decode cX9_lineCharacter 4 = .ok (.getfield 246, 3) := by decide +kernel
theorem dX9_lineCharacter_7 : decode cX9_lineCharacter 7 = .ok (.iconst 1, 1) := by decide +kernel
theorem dX9_lineCharacter_8 : decode cX9_lineCharacter 8 = .ok (.isub, 1) := by decide +kernel
theorem dX9_lineCharacter_9 : decode cX9_lineCharacter 9 = .ok (.invokestatic 62, 3) := by decide +kernel
theorem dX9_lineCharacter_12 : decode cX9_lineCharacter 12 = .ok (.ifCond .eq 7, 3) := by decide +kernel
theorem dX9_lineCharacter_15 : decode cX9_lineCharacter 15 = .ok (.iconst 0, 1) := by decide +kernel
theorem dX9_lineCharacter_16 : decode cX9_lineCharacter 16 = .ok (.goto 4, 3) := by decide +kernel
theorem dX9_lineCharacter_19 : decode cX9_lineCharacter 19 = .ok (.iconst 1, 1) := by decide +kernel
theorem dX9_lineCharacter_20 : decode cX9_lineCharacter 20 = .ok (.invokevirtual 70, 3) := by decide +kernel
theorem dX9_lineCharacter_23 : decode cX9_lineCharacter 23 = .ok (.ifCond .eq 8, 3) := by decide +kernel
theorem dX9_lineCharacter_26 : decode cX9_lineCharacter 26 = .ok (.bipush 32, 2) := by decide +kernel
theorem dX9_lineCharacter_28 : decode cX9_lineCharacter 28 = .ok (.goto 9, 3) := by decide +kernel
theorem dX9_lineCharacter_31 : decode cX9_lineCharacter 31 = .ok (.aload_n 0, 1) := by decide +kernel
theorem dX9_lineCharacter_32 : decode cX9_lineCharacter 32 = .ok (.getfield 29, 3) := by decide +kernel
theorem dX9_lineCharacter_35 : decode cX9_lineCharacter 35 = .ok (.iload_n 1, 1) := by decide +kernel
theorem dX9_lineCharacter_36 : decode cX9_lineCharacter 36 = .ok (.caload, 1) := by decide +kernel
theorem dX9_lineCharacter_37 : decode cX9_lineCharacter 37 = .ok (.ireturn, 1) := by decide +kernel
theorem dX9_denial_0 : decode cX9_denial 0 = .ok (.aload_n 0, 1) := by decide +kernel
theorem dX9_denial_1 : decode cX9_denial 1 = .ok (.aload_n 0, 1) := by decide +kernel
theorem dX9_denial_2 : decode cX9_denial 2 = .ok (.getfield 43, 3) := by decide +kernel
theorem dX9_denial_5 : decode cX9_denial 5 = .ok (.ifCond .ne 7, 3) := by decide +kernel
theorem dX9_denial_8 : decode cX9_denial 8 = .ok (.iconst 1, 1) := by decide +kernel
theorem dX9_denial_9 : decode cX9_denial 9 = .ok (.goto 4, 3) := by decide +kernel
theorem dX9_denial_12 : decode cX9_denial 12 = .ok (.iconst 0, 1) := by decide +kernel
theorem dX9_denial_13 : decode cX9_denial 13 = .ok (.invokevirtual 70, 3) := by decide +kernel
theorem dX9_denial_16 : decode cX9_denial 16 = .ok (.ifCond .eq 7, 3) := by decide +kernel
theorem dX9_denial_19 : decode cX9_denial 19 = .ok (.iconst 0, 1) := by decide +kernel
theorem dX9_denial_20 : decode cX9_denial 20 = .ok (.goto 7, 3) := by decide +kernel
theorem dX9_denial_23 : decode cX9_denial 23 = .ok (.aload_n 0, 1) := by decide +kernel
theorem dX9_denial_24 : decode cX9_denial 24 = .ok (.getfield 43, 3) := by decide +kernel
theorem dX9_denial_27 : decode cX9_denial 27 = .ok (.ireturn, 1) := by decide +kernel
theorem dX9_denialDetail_0 : decode cX9_denialDetail 0 = .ok (.aload_n 0, 1) := by decide +kernel
theorem dX9_denialDetail_1 : decode cX9_denialDetail 1 = .ok (.aload_n 0, 1) := by decide +kernel
theorem dX9_denialDetail_2 : decode cX9_denialDetail 2 = .ok (.getfield 43, 3) := by decide +kernel
theorem dX9_denialDetail_5 : decode cX9_denialDetail 5 = .ok (.ifCond .ne 7, 3) := by decide +kernel
theorem dX9_denialDetail_8 : decode cX9_denialDetail 8 = .ok (.iconst 1, 1) := by decide +kernel
theorem dX9_denialDetail_9 : decode cX9_denialDetail 9 = .ok (.goto 4, 3) := by decide +kernel
theorem dX9_denialDetail_12 : decode cX9_denialDetail 12 = .ok (.iconst 0, 1) := by decide +kernel
theorem dX9_denialDetail_13 : decode cX9_denialDetail 13 = .ok (.invokevirtual 70, 3) := by decide +kernel
theorem dX9_denialDetail_16 : decode cX9_denialDetail 16 = .ok (.ifCond .eq 7, 3) := by decide +kernel
theorem dX9_denialDetail_19 : decode cX9_denialDetail 19 = .ok (.iconst 0, 1) := by decide +kernel
theorem dX9_denialDetail_20 : decode cX9_denialDetail 20 = .ok (.goto 7, 3) := by decide +kernel
theorem dX9_denialDetail_23 : decode cX9_denialDetail 23 = .ok (.aload_n 0, 1) := by decide +kernel
theorem dX9_denialDetail_24 : decode cX9_denialDetail 24 = .ok (.getfield 46, 3) := by decide +kernel
theorem dX9_denialDetail_27 : decode cX9_denialDetail 27 = .ok (.ireturn, 1) := by decide +kernel
theorem dX9_denialCause_0 : decode cX9_denialCause 0 = .ok (.aload_n 0, 1) := by decide +kernel
theorem dX9_denialCause_1 : decode cX9_denialCause 1 = .ok (.aload_n 0, 1) := by decide +kernel
theorem dX9_denialCause_2 : decode cX9_denialCause 2 = .ok (.getfield 49, 3) := by decide +kernel
theorem dX9_denialCause_5 : decode cX9_denialCause 5 = .ok (.ifCond .ne 7, 3) := by decide +kernel
theorem dX9_denialCause_8 : decode cX9_denialCause 8 = .ok (.iconst 1, 1) := by decide +kernel
theorem dX9_denialCause_9 : decode cX9_denialCause 9 = .ok (.goto 4, 3) := by decide +kernel
theorem dX9_denialCause_12 : decode cX9_denialCause 12 = .ok (.iconst 0, 1) := by decide +kernel
theorem dX9_denialCause_13 : decode cX9_denialCause 13 = .ok (.invokevirtual 70, 3) := by decide +kernel
theorem dX9_denialCause_16 : decode cX9_denialCause 16 = .ok (.ifCond .eq 7, 3) := by decide +kernel
theorem dX9_denialCause_19 : decode cX9_denialCause 19 = .ok (.iconst 0, 1) := by decide +kernel
theorem dX9_denialCause_20 : decode cX9_denialCause 20 = .ok (.goto 7, 3) := by decide +kernel
theorem dX9_denialCause_23 : decode cX9_denialCause 23 = .ok (.aload_n 0, 1) := by decide +kernel
theorem dX9_denialCause_24 : decode cX9_denialCause 24 = .ok (.getfield 49, 3) := by decide +kernel
theorem dX9_denialCause_27 : decode cX9_denialCause 27 = .ok (.ireturn, 1) := by decide +kernel
theorem dX9_undo_0 : decode cX9_undo 0 = .ok (.aload_n 0, 1) := by decide +kernel
theorem dX9_undo_1 : decode cX9_undo 1 = .ok (.aload_n 0, 1) := by decide +kernel
theorem dX9_undo_2 : decode cX9_undo 2 = .ok (.getfield 55, 3) := by decide +kernel
theorem dX9_undo_5 : decode cX9_undo 5 = .ok (.ifCond .ne 7, 3) := by decide +kernel
theorem dX9_undo_8 : decode cX9_undo 8 = .ok (.iconst 1, 1) := by decide +kernel
theorem dX9_undo_9 : decode cX9_undo 9 = .ok (.goto 4, 3) := by decide +kernel
theorem dX9_undo_12 : decode cX9_undo 12 = .ok (.iconst 0, 1) := by decide +kernel
theorem dX9_undo_13 : decode cX9_undo 13 = .ok (.invokevirtual 70, 3) := by decide +kernel
theorem dX9_undo_16 : decode cX9_undo 16 = .ok (.ifCond .eq 5, 3) := by decide +kernel
theorem dX9_undo_19 : decode cX9_undo 19 = .ok (.iconst 0, 1) := by decide +kernel
theorem dX9_undo_20 : decode cX9_undo 20 = .ok (.ireturn, 1) := by decide +kernel
theorem dX9_undo_21 : decode cX9_undo 21 = .ok (.aload_n 0, 1) := by decide +kernel
theorem dX9_undo_22 : decode cX9_undo 22 = .ok (.dup, 1) := by decide +kernel
theorem dX9_undo_23 : decode cX9_undo 23 = .ok (.getfield 55, 3) := by decide +kernel
theorem dX9_undo_26 : decode cX9_undo 26 = .ok (.iconst 1, 1) := by decide +kernel
theorem dX9_undo_27 : decode cX9_undo 27 = .ok (.isub, 1) := by decide +kernel
theorem dX9_undo_28 : decode cX9_undo 28 = .ok (.putfield 55, 3) := by decide +kernel
theorem dX9_undo_31 : decode cX9_undo 31 = .ok (.aload_n 0, 1) := by decide +kernel
theorem dX9_undo_32 : decode cX9_undo 32 = .ok (.getfield 13, 3) := by decide +kernel
theorem dX9_undo_35 : decode cX9_undo 35 = .ok (.bipush 72, 2) := by decide +kernel
theorem dX9_undo_37 : decode cX9_undo 37 = .ok (.aload_n 0, 1) := by decide +kernel
theorem dX9_undo_38 : decode cX9_undo 38 = .ok (.getfield 55, 3) := by decide +kernel
theorem dX9_undo_41 : decode cX9_undo 41 = .ok (.imul, 1) := by decide +kernel
theorem dX9_undo_42 : decode cX9_undo 42 = .ok (.aload_n 0, 1) := by decide +kernel
theorem dX9_undo_43 : decode cX9_undo 43 = .ok (.getfield 7, 3) := by decide +kernel
theorem dX9_undo_46 : decode cX9_undo 46 = .ok (.iconst 0, 1) := by decide +kernel
theorem dX9_undo_47 : decode cX9_undo 47 = .ok (.invokestatic 58, 3) := by decide +kernel
theorem dX9_undo_50 : decode cX9_undo 50 = .ok (.aload_n 0, 1) := by decide +kernel
theorem dX9_undo_51 : decode cX9_undo 51 = .ok (.getfield 55, 3) := by decide +kernel
theorem dX9_undo_54 : decode cX9_undo 54 = .ok (.ireturn, 1) := by decide +kernel
theorem dX9_undoCount_0 : decode cX9_undoCount 0 = .ok (.aload_n 0, 1) := by decide +kernel
theorem dX9_undoCount_1 : decode cX9_undoCount 1 = .ok (.iconst 0, 1) := by decide +kernel
theorem dX9_undoCount_2 : decode cX9_undoCount 2 = .ok (.putfield 36, 3) := by decide +kernel
theorem dX9_undoCount_5 : decode cX9_undoCount 5 = .ok (.aload_n 0, 1) := by decide +kernel
theorem dX9_undoCount_6 : decode cX9_undoCount 6 = .ok (.getfield 55, 3) := by decide +kernel
theorem dX9_undoCount_9 : decode cX9_undoCount 9 = .ok (.ireturn, 1) := by decide +kernel
theorem dX9_saveSnapshot_0 : decode cX9_saveSnapshot 0 = .ok (.aload_n 0, 1) := by decide +kernel
theorem dX9_saveSnapshot_1 : decode cX9_saveSnapshot 1 = .ok (.iconst 0, 1) := by decide +kernel
theorem dX9_saveSnapshot_2 : decode cX9_saveSnapshot 2 = .ok (.putfield 36, 3) := by decide +kernel
theorem dX9_saveSnapshot_5 : decode cX9_saveSnapshot 5 = .ok (.aload_n 0, 1) := by decide +kernel
theorem dX9_saveSnapshot_6 : decode cX9_saveSnapshot 6 = .ok (.iconst 1, 1) := by decide +kernel
theorem dX9_saveSnapshot_7 : decode cX9_saveSnapshot 7 = .ok (.putfield 259, 3) := by decide +kernel
theorem dX9_saveSnapshot_10 : decode cX9_saveSnapshot 10 = .ok (.aload_n 0, 1) := by decide +kernel
theorem dX9_saveSnapshot_11 : decode cX9_saveSnapshot 11 = .ok (.getfield 7, 3) := by decide +kernel
theorem dX9_saveSnapshot_14 : decode cX9_saveSnapshot 14 = .ok (.iconst 0, 1) := by decide +kernel
theorem dX9_saveSnapshot_15 : decode cX9_saveSnapshot 15 = .ok (.aload_n 0, 1) := by decide +kernel
theorem dX9_saveSnapshot_16 : decode cX9_saveSnapshot 16 = .ok (.getfield 16, 3) := by decide +kernel
theorem dX9_saveSnapshot_19 : decode cX9_saveSnapshot 19 = .ok (.iconst 0, 1) := by decide +kernel
theorem dX9_saveSnapshot_20 : decode cX9_saveSnapshot 20 = .ok (.invokestatic 58, 3) := by decide +kernel
theorem dX9_saveSnapshot_23 : decode cX9_saveSnapshot 23 = .ok (.aload_n 0, 1) := by decide +kernel
theorem dX9_saveSnapshot_24 : decode cX9_saveSnapshot 24 = .ok (.getfield 7, 3) := by decide +kernel
theorem dX9_saveSnapshot_27 : decode cX9_saveSnapshot 27 = .ok (.iconst 0, 1) := by decide +kernel
theorem dX9_saveSnapshot_28 : decode cX9_saveSnapshot 28 = .ok (.iaload, 1) := by decide +kernel
theorem dX9_saveSnapshot_29 : decode cX9_saveSnapshot 29 = .ok (.ireturn, 1) := by decide +kernel
theorem dX9_restoreSnapshot_0 : decode cX9_restoreSnapshot 0 = .ok (.aload_n 0, 1) := by decide +kernel
theorem dX9_restoreSnapshot_1 : decode cX9_restoreSnapshot 1 = .ok (.aload_n 0, 1) := by decide +kernel
theorem dX9_restoreSnapshot_2 : decode cX9_restoreSnapshot 2 = .ok (.getfield 259, 3) := by decide +kernel
theorem dX9_restoreSnapshot_5 : decode cX9_restoreSnapshot 5 = .ok (.ifCond .eq 7, 3) := by decide +kernel
theorem dX9_restoreSnapshot_8 : decode cX9_restoreSnapshot 8 = .ok (.iconst 0, 1) := by decide +kernel
theorem dX9_restoreSnapshot_9 : decode cX9_restoreSnapshot 9 = .ok (.goto 4, 3) := by decide +kernel
theorem dX9_restoreSnapshot_12 : decode cX9_restoreSnapshot 12 = .ok (.iconst 1, 1) := by decide +kernel
theorem dX9_restoreSnapshot_13 : decode cX9_restoreSnapshot 13 = .ok (.invokevirtual 70, 3) := by decide +kernel
theorem dX9_restoreSnapshot_16 : decode cX9_restoreSnapshot 16 = .ok (.ifCond .eq 5, 3) := by decide +kernel
theorem dX9_restoreSnapshot_19 : decode cX9_restoreSnapshot 19 = .ok (.iconst 0, 1) := by decide +kernel
theorem dX9_restoreSnapshot_20 : decode cX9_restoreSnapshot 20 = .ok (.ireturn, 1) := by decide +kernel
theorem dX9_restoreSnapshot_21 : decode cX9_restoreSnapshot 21 = .ok (.aload_n 0, 1) := by decide +kernel
theorem dX9_restoreSnapshot_22 : decode cX9_restoreSnapshot 22 = .ok (.getfield 16, 3) := by decide +kernel
theorem dX9_restoreSnapshot_25 : decode cX9_restoreSnapshot 25 = .ok (.iconst 0, 1) := by decide +kernel
theorem dX9_restoreSnapshot_26 : decode cX9_restoreSnapshot 26 = .ok (.aload_n 0, 1) := by decide +kernel
theorem dX9_restoreSnapshot_27 : decode cX9_restoreSnapshot 27 = .ok (.getfield 7, 3) := by decide +kernel
theorem dX9_restoreSnapshot_30 : decode cX9_restoreSnapshot 30 = .ok (.iconst 0, 1) := by decide +kernel
theorem dX9_restoreSnapshot_31 : decode cX9_restoreSnapshot 31 = .ok (.invokestatic 58, 3) := by decide +kernel
theorem dX9_restoreSnapshot_34 : decode cX9_restoreSnapshot 34 = .ok (.aload_n 0, 1) := by decide +kernel
theorem dX9_restoreSnapshot_35 : decode cX9_restoreSnapshot 35 = .ok (.iconst 0, 1) := by decide +kernel
theorem dX9_restoreSnapshot_36 : decode cX9_restoreSnapshot 36 = .ok (.putfield 55, 3) := by decide +kernel
theorem dX9_restoreSnapshot_39 : decode cX9_restoreSnapshot 39 = .ok (.aload_n 0, 1) := by decide +kernel
theorem dX9_restoreSnapshot_40 : decode cX9_restoreSnapshot 40 = .ok (.getfield 7, 3) := by decide +kernel
theorem dX9_restoreSnapshot_43 : decode cX9_restoreSnapshot 43 = .ok (.iconst 0, 1) := by decide +kernel
theorem dX9_restoreSnapshot_44 : decode cX9_restoreSnapshot 44 = .ok (.iaload, 1) := by decide +kernel
theorem dX9_restoreSnapshot_45 : decode cX9_restoreSnapshot 45 = .ok (.ireturn, 1) := by decide +kernel
theorem dJx00060_init_a7421_0 : decode cJx00060_init_a7421 0 = .ok (.aload_n 0, 1) := by decide +kernel
theorem dJx00060_init_a7421_1 : decode cJx00060_init_a7421 1 = .ok (.aload_n 1, 1) := by decide +kernel
theorem dJx00060_init_a7421_2 : decode cJx00060_init_a7421 2 = .ok (.invokespecial 7, 3) := by decide +kernel
theorem dJx00060_init_a7421_5 : decode cJx00060_init_a7421 5 = .ok (.return_, 1) := by decide +kernel
theorem dJ6_bitCount_0f7a4_0 : decode cJ6_bitCount_0f7a4 0 = .ok (.iload_n 0, 1) := by decide +kernel
theorem dJ6_bitCount_0f7a4_1 : decode cJ6_bitCount_0f7a4 1 = .ok (.iload_n 0, 1) := by decide +kernel
theorem dJ6_bitCount_0f7a4_2 : decode cJ6_bitCount_0f7a4 2 = .ok (.iconst 1, 1) := by decide +kernel
theorem dJ6_bitCount_0f7a4_3 : decode cJ6_bitCount_0f7a4 3 = .ok (.iushr, 1) := by decide +kernel
theorem dJ6_bitCount_0f7a4_4 : decode cJ6_bitCount_0f7a4 4 = .ok (.ldc_w 265, 3) := by decide +kernel
theorem dJ6_bitCount_0f7a4_7 : decode cJ6_bitCount_0f7a4 7 = .ok (.iand, 1) := by decide +kernel
theorem dJ6_bitCount_0f7a4_8 : decode cJ6_bitCount_0f7a4 8 = .ok (.isub, 1) := by decide +kernel
theorem dJ6_bitCount_0f7a4_9 : decode cJ6_bitCount_0f7a4 9 = .ok (.istore_n 0, 1) := by decide +kernel
theorem dJ6_bitCount_0f7a4_10 : decode cJ6_bitCount_0f7a4 10 = .ok (.iload_n 0, 1) := by decide +kernel
theorem dJ6_bitCount_0f7a4_11 : decode cJ6_bitCount_0f7a4 11 = .ok (.ldc_w 266, 3) := by decide +kernel
theorem dJ6_bitCount_0f7a4_14 : decode cJ6_bitCount_0f7a4 14 = .ok (.iand, 1) := by decide +kernel
theorem dJ6_bitCount_0f7a4_15 : decode cJ6_bitCount_0f7a4 15 = .ok (.iload_n 0, 1) := by decide +kernel
theorem dJ6_bitCount_0f7a4_16 : decode cJ6_bitCount_0f7a4 16 = .ok (.iconst 2, 1) := by decide +kernel
theorem dJ6_bitCount_0f7a4_17 : decode cJ6_bitCount_0f7a4 17 = .ok (.iushr, 1) := by decide +kernel
theorem dJ6_bitCount_0f7a4_18 : decode cJ6_bitCount_0f7a4 18 = .ok (.ldc_w 266, 3) := by decide +kernel
theorem dJ6_bitCount_0f7a4_21 : decode cJ6_bitCount_0f7a4 21 = .ok (.iand, 1) := by decide +kernel
theorem dJ6_bitCount_0f7a4_22 : decode cJ6_bitCount_0f7a4 22 = .ok (.iadd, 1) := by decide +kernel
theorem dJ6_bitCount_0f7a4_23 : decode cJ6_bitCount_0f7a4 23 = .ok (.istore_n 0, 1) := by decide +kernel
theorem dJ6_bitCount_0f7a4_24 : decode cJ6_bitCount_0f7a4 24 = .ok (.iload_n 0, 1) := by decide +kernel
theorem dJ6_bitCount_0f7a4_25 : decode cJ6_bitCount_0f7a4 25 = .ok (.iload_n 0, 1) := by decide +kernel
theorem dJ6_bitCount_0f7a4_26 : decode cJ6_bitCount_0f7a4 26 = .ok (.iconst 4, 1) := by decide +kernel
theorem dJ6_bitCount_0f7a4_27 : decode cJ6_bitCount_0f7a4 27 = .ok (.iushr, 1) := by decide +kernel
theorem dJ6_bitCount_0f7a4_28 : decode cJ6_bitCount_0f7a4 28 = .ok (.iadd, 1) := by decide +kernel
theorem dJ6_bitCount_0f7a4_29 : decode cJ6_bitCount_0f7a4 29 = .ok (.ldc_w 267, 3) := by decide +kernel
theorem dJ6_bitCount_0f7a4_32 : decode cJ6_bitCount_0f7a4 32 = .ok (.iand, 1) := by decide +kernel
theorem dJ6_bitCount_0f7a4_33 : decode cJ6_bitCount_0f7a4 33 = .ok (.istore_n 0, 1) := by decide +kernel
theorem dJ6_bitCount_0f7a4_34 : decode cJ6_bitCount_0f7a4 34 = .ok (.iload_n 0, 1) := by decide +kernel
theorem dJ6_bitCount_0f7a4_35 : decode cJ6_bitCount_0f7a4 35 = .ok (.iload_n 0, 1) := by decide +kernel
theorem dJ6_bitCount_0f7a4_36 : decode cJ6_bitCount_0f7a4 36 = .ok (.bipush 8, 2) := by decide +kernel
theorem dJ6_bitCount_0f7a4_38 : decode cJ6_bitCount_0f7a4 38 = .ok (.iushr, 1) := by decide +kernel
theorem dJ6_bitCount_0f7a4_39 : decode cJ6_bitCount_0f7a4 39 = .ok (.iadd, 1) := by decide +kernel
theorem dJ6_bitCount_0f7a4_40 : decode cJ6_bitCount_0f7a4 40 = .ok (.istore_n 0, 1) := by decide +kernel
theorem dJ6_bitCount_0f7a4_41 : decode cJ6_bitCount_0f7a4 41 = .ok (.iload_n 0, 1) := by decide +kernel
theorem dJ6_bitCount_0f7a4_42 : decode cJ6_bitCount_0f7a4 42 = .ok (.iload_n 0, 1) := by decide +kernel
theorem dJ6_bitCount_0f7a4_43 : decode cJ6_bitCount_0f7a4 43 = .ok (.bipush 16, 2) := by decide +kernel
theorem dJ6_bitCount_0f7a4_45 : decode cJ6_bitCount_0f7a4 45 = .ok (.iushr, 1) := by decide +kernel
theorem dJ6_bitCount_0f7a4_46 : decode cJ6_bitCount_0f7a4 46 = .ok (.iadd, 1) := by decide +kernel
theorem dJ6_bitCount_0f7a4_47 : decode cJ6_bitCount_0f7a4 47 = .ok (.istore_n 0, 1) := by decide +kernel
theorem dJ6_bitCount_0f7a4_48 : decode cJ6_bitCount_0f7a4 48 = .ok (.iload_n 0, 1) := by decide +kernel
theorem dJ6_bitCount_0f7a4_49 : decode cJ6_bitCount_0f7a4 49 = .ok (.bipush 63, 2) := by decide +kernel
theorem dJ6_bitCount_0f7a4_51 : decode cJ6_bitCount_0f7a4 51 = .ok (.iand, 1) := by decide +kernel
theorem dJ6_bitCount_0f7a4_52 : decode cJ6_bitCount_0f7a4 52 = .ok (.ireturn, 1) := by decide +kernel
theorem dJ9_abs_0f7a4_0 : decode cJ9_abs_0f7a4 0 = .ok (.iload_n 0, 1) := by decide +kernel
theorem dJ9_abs_0f7a4_1 : decode cJ9_abs_0f7a4 1 = .ok (.ifCond .ge 8, 3) := by decide +kernel
theorem dJ9_abs_0f7a4_4 : decode cJ9_abs_0f7a4 4 = .ok (.iload_n 0, 1) := by decide +kernel
theorem dJ9_abs_0f7a4_5 : decode cJ9_abs_0f7a4 5 = .ok (.ineg, 1) := by decide +kernel
theorem dJ9_abs_0f7a4_6 : decode cJ9_abs_0f7a4 6 = .ok (.goto 4, 3) := by decide +kernel
theorem dJ9_abs_0f7a4_9 : decode cJ9_abs_0f7a4 9 = .ok (.iload_n 0, 1) := by decide +kernel
theorem dJ9_abs_0f7a4_10 : decode cJ9_abs_0f7a4 10 = .ok (.ireturn, 1) := by decide +kernel
theorem dJ9_max_7cf53_0 : decode cJ9_max_7cf53 0 = .ok (.iload_n 0, 1) := by decide +kernel
theorem dJ9_max_7cf53_1 : decode cJ9_max_7cf53 1 = .ok (.iload_n 1, 1) := by decide +kernel
theorem dJ9_max_7cf53_2 : decode cJ9_max_7cf53 2 = .ok (.if_icmp .lt 7, 3) := by decide +kernel
theorem dJ9_max_7cf53_5 : decode cJ9_max_7cf53 5 = .ok (.iload_n 0, 1) := by decide +kernel
theorem dJ9_max_7cf53_6 : decode cJ9_max_7cf53 6 = .ok (.goto 4, 3) := by decide +kernel
theorem dJ9_max_7cf53_9 : decode cJ9_max_7cf53 9 = .ok (.iload_n 1, 1) := by decide +kernel
theorem dJ9_max_7cf53_10 : decode cJ9_max_7cf53 10 = .ok (.ireturn, 1) := by decide +kernel
theorem dJ9_min_7cf53_0 : decode cJ9_min_7cf53 0 = .ok (.iload_n 0, 1) := by decide +kernel
theorem dJ9_min_7cf53_1 : decode cJ9_min_7cf53 1 = .ok (.iload_n 1, 1) := by decide +kernel
theorem dJ9_min_7cf53_2 : decode cJ9_min_7cf53 2 = .ok (.if_icmp .gt 7, 3) := by decide +kernel
theorem dJ9_min_7cf53_5 : decode cJ9_min_7cf53 5 = .ok (.iload_n 0, 1) := by decide +kernel
theorem dJ9_min_7cf53_6 : decode cJ9_min_7cf53 6 = .ok (.goto 4, 3) := by decide +kernel
theorem dJ9_min_7cf53_9 : decode cJ9_min_7cf53 9 = .ok (.iload_n 1, 1) := by decide +kernel
theorem dJ9_min_7cf53_10 : decode cJ9_min_7cf53 10 = .ok (.ireturn, 1) := by decide +kernel
theorem dJ0_length_8abf5_0 : decode cJ0_length_8abf5 0 = .ok (.aload_n 0, 1) := by decide +kernel
theorem dJ0_length_8abf5_1 : decode cJ0_length_8abf5 1 = .ok (.getfield 9, 3) := by decide +kernel
theorem dJ0_length_8abf5_4 : decode cJ0_length_8abf5 4 = .ok (.arraylength, 1) := by decide +kernel
theorem dJ0_length_8abf5_5 : decode cJ0_length_8abf5 5 = .ok (.aload_n 0, 1) := by decide +kernel
theorem dJ0_length_8abf5_6 : decode cJ0_length_8abf5 6 = .ok (.invokevirtual 335, 3) := by decide +kernel
theorem dJ0_length_8abf5_9 : decode cJ0_length_8abf5 9 = .ok (.ishr, 1) := by decide +kernel
theorem dJ0_length_8abf5_10 : decode cJ0_length_8abf5 10 = .ok (.ireturn, 1) := by decide +kernel
theorem dJ0_charAt_5068e_0 : decode cJ0_charAt_5068e 0 = .ok (.aload_n 0, 1) := by decide +kernel
theorem dJ0_charAt_5068e_1 : decode cJ0_charAt_5068e 1 = .ok (.invokevirtual 492, 3) := by decide +kernel
theorem dJ0_charAt_5068e_4 : decode cJ0_charAt_5068e 4 = .ok (.ifCond .eq 12, 3) := by decide +kernel
theorem dJ0_charAt_5068e_7 : decode cJ0_charAt_5068e 7 = .ok (.aload_n 0, 1) := by decide +kernel
theorem dJ0_charAt_5068e_8 : decode cJ0_charAt_5068e 8 = .ok (.getfield 9, 3) := by decide +kernel
theorem dJ0_charAt_5068e_11 : decode cJ0_charAt_5068e 11 = .ok (.iload_n 1, 1) := by decide +kernel
theorem dJ0_charAt_5068e_12 : decode cJ0_charAt_5068e 12 = .ok (.invokestatic 495, 3) := by decide +kernel
theorem dJ0_charAt_5068e_15 : decode cJ0_charAt_5068e 15 = .ok (.ireturn, 1) := by decide +kernel
theorem dJ0_charAt_5068e_16 : decode cJ0_charAt_5068e 16 = .ok (.aload_n 0, 1) := by decide +kernel
theorem dJ0_charAt_5068e_17 : decode cJ0_charAt_5068e 17 = .ok (.getfield 9, 3) := by decide +kernel
theorem dJ0_charAt_5068e_20 : decode cJ0_charAt_5068e 20 = .ok (.iload_n 1, 1) := by decide +kernel
theorem dJ0_charAt_5068e_21 : decode cJ0_charAt_5068e 21 = .ok (.invokestatic 498, 3) := by decide +kernel
theorem dJ0_charAt_5068e_24 : decode cJ0_charAt_5068e 24 = .ok (.ireturn, 1) := by decide +kernel
theorem dJ0_coder_7d493_0 : decode cJ0_coder_7d493 0 = .ok (.getstatic 38, 3) := by decide +kernel
theorem dJ0_coder_7d493_3 : decode cJ0_coder_7d493 3 = .ok (.ifCond .eq 10, 3) := by decide +kernel
theorem dJ0_coder_7d493_6 : decode cJ0_coder_7d493 6 = .ok (.aload_n 0, 1) := by decide +kernel
theorem dJ0_coder_7d493_7 : decode cJ0_coder_7d493 7 = .ok (.getfield 15, 3) := by decide +kernel
theorem dJ0_coder_7d493_10 : decode cJ0_coder_7d493 10 = .ok (.goto 4, 3) := by decide +kernel
theorem dJ0_coder_7d493_13 : decode cJ0_coder_7d493 13 = .ok (.iconst 1, 1) := by decide +kernel
theorem dJ0_coder_7d493_14 : decode cJ0_coder_7d493 14 = .ok (.ireturn, 1) := by decide +kernel
theorem dJ0_isLatin1_aae02_0 : decode cJ0_isLatin1_aae02 0 = .ok (.getstatic 38, 3) := by decide +kernel
theorem dJ0_isLatin1_aae02_3 : decode cJ0_isLatin1_aae02 3 = .ok (.ifCond .eq 14, 3) := by decide +kernel
theorem dJ0_isLatin1_aae02_6 : decode cJ0_isLatin1_aae02 6 = .ok (.aload_n 0, 1) := by decide +kernel
theorem dJ0_isLatin1_aae02_7 : decode cJ0_isLatin1_aae02 7 = .ok (.getfield 15, 3) := by decide +kernel
theorem dJ0_isLatin1_aae02_10 : decode cJ0_isLatin1_aae02 10 = .ok (.ifCond .ne 7, 3) := by decide +kernel
theorem dJ0_isLatin1_aae02_13 : decode cJ0_isLatin1_aae02 13 = .ok (.iconst 1, 1) := by decide +kernel
theorem dJ0_isLatin1_aae02_14 : decode cJ0_isLatin1_aae02 14 = .ok (.goto 4, 3) := by decide +kernel
theorem dJ0_isLatin1_aae02_17 : decode cJ0_isLatin1_aae02 17 = .ok (.iconst 0, 1) := by decide +kernel
theorem dJ0_isLatin1_aae02_18 : decode cJ0_isLatin1_aae02 18 = .ok (.ireturn, 1) := by decide +kernel
theorem dJ0_checkIndex_df160_0 : decode cJ0_checkIndex_df160 0 = .ok (.iload_n 0, 1) := by decide +kernel
theorem dJ0_checkIndex_df160_1 : decode cJ0_checkIndex_df160 1 = .ok (.iload_n 1, 1) := by decide +kernel
theorem dJ0_checkIndex_df160_2 : decode cJ0_checkIndex_df160 2 = .ok (.getstatic 1053, 3) := by decide +kernel
theorem dJ0_checkIndex_df160_5 : decode cJ0_checkIndex_df160 5 = .ok (.invokestatic 1059, 3) := by decide +kernel
theorem dJ0_checkIndex_df160_8 : decode cJ0_checkIndex_df160 8 = .ok (.pop, 1) := by decide +kernel
theorem dJ0_checkIndex_df160_9 : decode cJ0_checkIndex_df160 9 = .ok (.return_, 1) := by decide +kernel
theorem dJ1_charAt_3b067_0 : decode cJ1_charAt_3b067 0 = .ok (.iload_n 1, 1) := by decide +kernel
theorem dJ1_charAt_3b067_1 : decode cJ1_charAt_3b067 1 = .ok (.aload_n 0, 1) := by decide +kernel
theorem dJ1_charAt_3b067_2 : decode cJ1_charAt_3b067 2 = .ok (.arraylength, 1) := by decide +kernel
theorem dJ1_charAt_3b067_3 : decode cJ1_charAt_3b067 3 = .ok (.invokestatic 9, 3) := by decide +kernel
theorem dJ1_charAt_3b067_6 : decode cJ1_charAt_3b067 6 = .ok (.aload_n 0, 1) := by decide +kernel
theorem dJ1_charAt_3b067_7 : decode cJ1_charAt_3b067 7 = .ok (.iload_n 1, 1) := by decide +kernel
theorem dJ1_charAt_3b067_8 : decode cJ1_charAt_3b067 8 = .ok (.baload, 1) := by decide +kernel
theorem dJ1_charAt_3b067_9 : decode cJ1_charAt_3b067 9 = .ok (.sipush 255, 3) := by decide +kernel
theorem dJ1_charAt_3b067_12 : decode cJ1_charAt_3b067 12 = .ok (.iand, 1) := by decide +kernel
theorem dJ1_charAt_3b067_13 : decode cJ1_charAt_3b067 13 = .ok (.i2c, 1) := by decide +kernel
theorem dJ1_charAt_3b067_14 : decode cJ1_charAt_3b067 14 = .ok (.ireturn, 1) := by decide +kernel
theorem dJ2_getChar_3b067_0 : decode cJ2_getChar_3b067 0 = .ok (.getstatic 44, 3) := by decide +kernel
theorem dJ2_getChar_3b067_3 : decode cJ2_getChar_3b067 3 = .ok (.ifCond .ne 25, 3) := by decide +kernel
theorem dJ2_getChar_3b067_6 : decode cJ2_getChar_3b067 6 = .ok (.iload_n 1, 1) := by decide +kernel
theorem dJ2_getChar_3b067_7 : decode cJ2_getChar_3b067 7 = .ok (.ifCond .lt 11, 3) := by decide +kernel
theorem dJ2_getChar_3b067_10 : decode cJ2_getChar_3b067 10 = .ok (.iload_n 1, 1) := by decide +kernel
theorem dJ2_getChar_3b067_11 : decode cJ2_getChar_3b067 11 = .ok (.aload_n 0, 1) := by decide +kernel
theorem dJ2_getChar_3b067_12 : decode cJ2_getChar_3b067 12 = .ok (.invokestatic 48, 3) := by decide +kernel
theorem dJ2_getChar_3b067_15 : decode cJ2_getChar_3b067 15 = .ok (.if_icmp .lt 13, 3) := by decide +kernel
theorem dJ2_getChar_3b067_18 : decode cJ2_getChar_3b067 18 = .ok (.new 52, 3) := by decide +kernel
theorem dJ2_getChar_3b067_21 : decode cJ2_getChar_3b067 21 = .ok (.dup, 1) := by decide +kernel
theorem dJ2_getChar_3b067_22 : decode cJ2_getChar_3b067 22 = .ok (.ldc 54, 2) := by decide +kernel
theorem dJ2_getChar_3b067_24 : decode cJ2_getChar_3b067 24 = .ok (.invokespecial 56, 3) := by decide +kernel
theorem dJ2_getChar_3b067_27 : decode cJ2_getChar_3b067 27 = .ok (.athrow, 1) := by decide +kernel
theorem dJ2_getChar_3b067_28 : decode cJ2_getChar_3b067 28 = .ok (.iload_n 1, 1) := by decide +kernel
theorem dJ2_getChar_3b067_29 : decode cJ2_getChar_3b067 29 = .ok (.iconst 1, 1) := by decide +kernel
theorem dJ2_getChar_3b067_30 : decode cJ2_getChar_3b067 30 = .ok (.ishl, 1) := by decide +kernel
theorem dJ2_getChar_3b067_31 : decode cJ2_getChar_3b067 31 = .ok (.istore_n 1, 1) := by decide +kernel
theorem dJ2_getChar_3b067_32 : decode cJ2_getChar_3b067 32 = .ok (.aload_n 0, 1) := by decide +kernel
theorem dJ2_getChar_3b067_33 : decode cJ2_getChar_3b067 33 = .ok (.iload_n 1, 1) := by decide +kernel
theorem dJ2_getChar_3b067_34 : decode cJ2_getChar_3b067 34 = .ok (.iinc 1 1, 3) := by decide +kernel
theorem dJ2_getChar_3b067_37 : decode cJ2_getChar_3b067 37 = .ok (.baload, 1) := by decide +kernel
theorem dJ2_getChar_3b067_38 : decode cJ2_getChar_3b067 38 = .ok (.sipush 255, 3) := by decide +kernel
theorem dJ2_getChar_3b067_41 : decode cJ2_getChar_3b067 41 = .ok (.iand, 1) := by decide +kernel
theorem dJ2_getChar_3b067_42 : decode cJ2_getChar_3b067 42 = .ok (.getstatic 59, 3) := by decide +kernel
theorem dJ2_getChar_3b067_45 : decode cJ2_getChar_3b067 45 = .ok (.ishl, 1) := by decide +kernel
theorem dJ2_getChar_3b067_46 : decode cJ2_getChar_3b067 46 = .ok (.aload_n 0, 1) := by decide +kernel
theorem dJ2_getChar_3b067_47 : decode cJ2_getChar_3b067 47 = .ok (.iload_n 1, 1) := by decide +kernel
theorem dJ2_getChar_3b067_48 : decode cJ2_getChar_3b067 48 = .ok (.baload, 1) := by decide +kernel
theorem dJ2_getChar_3b067_49 : decode cJ2_getChar_3b067 49 = .ok (.sipush 255, 3) := by decide +kernel
theorem dJ2_getChar_3b067_52 : decode cJ2_getChar_3b067 52 = .ok (.iand, 1) := by decide +kernel
theorem dJ2_getChar_3b067_53 : decode cJ2_getChar_3b067 53 = .ok (.getstatic 63, 3) := by decide +kernel
theorem dJ2_getChar_3b067_56 : decode cJ2_getChar_3b067 56 = .ok (.ishl, 1) := by decide +kernel
theorem dJ2_getChar_3b067_57 : decode cJ2_getChar_3b067 57 = .ok (.ior, 1) := by decide +kernel
theorem dJ2_getChar_3b067_58 : decode cJ2_getChar_3b067 58 = .ok (.i2c, 1) := by decide +kernel
theorem dJ2_getChar_3b067_59 : decode cJ2_getChar_3b067 59 = .ok (.ireturn, 1) := by decide +kernel
theorem dJ2_length_9d52b_0 : decode cJ2_length_9d52b 0 = .ok (.aload_n 0, 1) := by decide +kernel
theorem dJ2_length_9d52b_1 : decode cJ2_length_9d52b 1 = .ok (.arraylength, 1) := by decide +kernel
theorem dJ2_length_9d52b_2 : decode cJ2_length_9d52b 2 = .ok (.iconst 1, 1) := by decide +kernel
theorem dJ2_length_9d52b_3 : decode cJ2_length_9d52b 3 = .ok (.ishr, 1) := by decide +kernel
theorem dJ2_length_9d52b_4 : decode cJ2_length_9d52b 4 = .ok (.ireturn, 1) := by decide +kernel
theorem dJ2_charAt_3b067_0 : decode cJ2_charAt_3b067 0 = .ok (.iload_n 1, 1) := by decide +kernel
theorem dJ2_charAt_3b067_1 : decode cJ2_charAt_3b067 1 = .ok (.aload_n 0, 1) := by decide +kernel
theorem dJ2_charAt_3b067_2 : decode cJ2_charAt_3b067 2 = .ok (.invokestatic 67, 3) := by decide +kernel
theorem dJ2_charAt_3b067_5 : decode cJ2_charAt_3b067 5 = .ok (.aload_n 0, 1) := by decide +kernel
theorem dJ2_charAt_3b067_6 : decode cJ2_charAt_3b067 6 = .ok (.iload_n 1, 1) := by decide +kernel
theorem dJ2_charAt_3b067_7 : decode cJ2_charAt_3b067 7 = .ok (.invokestatic 71, 3) := by decide +kernel
theorem dJ2_charAt_3b067_10 : decode cJ2_charAt_3b067 10 = .ok (.ireturn, 1) := by decide +kernel
theorem dJ2_checkIndex_2214a_0 : decode cJ2_checkIndex_2214a 0 = .ok (.iload_n 0, 1) := by decide +kernel
theorem dJ2_checkIndex_2214a_1 : decode cJ2_checkIndex_2214a 1 = .ok (.aload_n 1, 1) := by decide +kernel
theorem dJ2_checkIndex_2214a_2 : decode cJ2_checkIndex_2214a 2 = .ok (.invokestatic 48, 3) := by decide +kernel
theorem dJ2_checkIndex_2214a_5 : decode cJ2_checkIndex_2214a 5 = .ok (.invokestatic 414, 3) := by decide +kernel
theorem dJ2_checkIndex_2214a_8 : decode cJ2_checkIndex_2214a 8 = .ok (.return_, 1) := by decide +kernel
theorem dJ7_fill_53178_0 : decode cJ7_fill_53178 0 = .ok (.iconst 0, 1) := by decide +kernel
theorem dJ7_fill_53178_1 : decode cJ7_fill_53178 1 = .ok (.istore_n 2, 1) := by decide +kernel
theorem dJ7_fill_53178_2 : decode cJ7_fill_53178 2 = .ok (.aload_n 0, 1) := by decide +kernel
theorem dJ7_fill_53178_3 : decode cJ7_fill_53178 3 = .ok (.arraylength, 1) := by decide +kernel
theorem dJ7_fill_53178_4 : decode cJ7_fill_53178 4 = .ok (.istore_n 3, 1) := by decide +kernel
theorem dJ7_fill_53178_5 : decode cJ7_fill_53178 5 = .ok (.iload_n 2, 1) := by decide +kernel
theorem dJ7_fill_53178_6 : decode cJ7_fill_53178 6 = .ok (.iload_n 3, 1) := by decide +kernel
theorem dJ7_fill_53178_7 : decode cJ7_fill_53178 7 = .ok (.if_icmp .ge 13, 3) := by decide +kernel
theorem dJ7_fill_53178_10 : decode cJ7_fill_53178 10 = .ok (.aload_n 0, 1) := by decide +kernel
theorem dJ7_fill_53178_11 : decode cJ7_fill_53178 11 = .ok (.iload_n 2, 1) := by decide +kernel
theorem dJ7_fill_53178_12 : decode cJ7_fill_53178 12 = .ok (.iload_n 1, 1) := by decide +kernel
theorem dJ7_fill_53178_13 : decode cJ7_fill_53178 13 = .ok (.iastore, 1) := by decide +kernel
theorem dJ7_fill_53178_14 : decode cJ7_fill_53178 14 = .ok (.iinc 2 1, 3) := by decide +kernel
theorem dJ7_fill_53178_17 : decode cJ7_fill_53178 17 = .ok (.goto (-12), 3) := by decide +kernel
theorem dJ7_fill_53178_20 : decode cJ7_fill_53178 20 = .ok (.return_, 1) := by decide +kernel
theorem dJ3_checkIndex_8e157_0 : decode cJ3_checkIndex_8e157 0 = .ok (.iload_n 0, 1) := by decide +kernel
theorem dJ3_checkIndex_8e157_1 : decode cJ3_checkIndex_8e157 1 = .ok (.ifCond .lt 8, 3) := by decide +kernel
theorem dJ3_checkIndex_8e157_4 : decode cJ3_checkIndex_8e157 4 = .ok (.iload_n 0, 1) := by decide +kernel
theorem dJ3_checkIndex_8e157_5 : decode cJ3_checkIndex_8e157 5 = .ok (.iload_n 1, 1) := by decide +kernel
theorem dJ3_checkIndex_8e157_6 : decode cJ3_checkIndex_8e157 6 = .ok (.if_icmp .lt 10, 3) := by decide +kernel
theorem dJ3_checkIndex_8e157_9 : decode cJ3_checkIndex_8e157 9 = .ok (.aload_n 2, 1) := by decide +kernel
theorem dJ3_checkIndex_8e157_10 : decode cJ3_checkIndex_8e157 10 = .ok (.iload_n 0, 1) := by decide +kernel
theorem dJ3_checkIndex_8e157_11 : decode cJ3_checkIndex_8e157 11 = .ok (.iload_n 1, 1) := by decide +kernel
theorem dJ3_checkIndex_8e157_12 : decode cJ3_checkIndex_8e157 12 = .ok (.invokestatic 95, 3) := by decide +kernel
theorem dJ3_checkIndex_8e157_15 : decode cJ3_checkIndex_8e157 15 = .ok (.athrow, 1) := by decide +kernel
theorem dJ3_checkIndex_8e157_16 : decode cJ3_checkIndex_8e157 16 = .ok (.iload_n 0, 1) := by decide +kernel
theorem dJ3_checkIndex_8e157_17 : decode cJ3_checkIndex_8e157 17 = .ok (.ireturn, 1) := by decide +kernel
end
section
theorem dL_addMagnet_0 : decode cL_addMagnet 0 = .ok (.aload 4, 2) := by decide +kernel
theorem dL_addMagnet_2 : decode cL_addMagnet 2 = .ok (.iconst 0, 1) := by decide +kernel
theorem dL_addMagnet_3 : decode cL_addMagnet 3 = .ok (.aload_n 0, 1) := by decide +kernel
theorem dL_addMagnet_4 : decode cL_addMagnet 4 = .ok (.iload_n 1, 1) := by decide +kernel
theorem dL_addMagnet_5 : decode cL_addMagnet 5 = .ok (.iload_n 2, 1) := by decide +kernel
theorem dL_addMagnet_6 : decode cL_addMagnet 6 = .ok (.iload_n 3, 1) := by decide +kernel
theorem dL_addMagnet_7 : decode cL_addMagnet 7 = .ok (.invokevirtual 7, 3) := by decide +kernel
theorem dL_addMagnet_10 : decode cL_addMagnet 10 = .ok (.i2l, 1) := by decide +kernel
theorem dL_addMagnet_11 : decode cL_addMagnet 11 = .ok (.lastore, 1) := by decide +kernel
theorem dL_addMagnet_12 : decode cL_addMagnet 12 = .ok (.goto 11, 3) := by decide +kernel
theorem dL_addMagnet_15 : decode cL_addMagnet 15 = .ok (.astore 5, 2) := by decide +kernel
theorem dL_addMagnet_17 : decode cL_addMagnet 17 = .ok (.iconst 1, 1) := by decide +kernel
theorem dL_addMagnet_18 : decode cL_addMagnet 18 = .ok (.ireturn, 1) := by decide +kernel
theorem dL_addMagnet_19 : decode cL_addMagnet 19 = .ok (.astore 5, 2) := by decide +kernel
theorem dL_addMagnet_21 : decode cL_addMagnet 21 = .ok (.iconst 2, 1) := by decide +kernel
theorem dL_addMagnet_22 : decode cL_addMagnet 22 = .ok (.ireturn, 1) := by decide +kernel
theorem dL_addMagnet_23 : decode cL_addMagnet 23 = .ok (.iconst 0, 1) := by decide +kernel
theorem dL_addMagnet_24 : decode cL_addMagnet 24 = .ok (.ireturn, 1) := by decide +kernel
theorem dL_setStrength_0 : decode cL_setStrength 0 = .ok (.aload_n 3, 1) := by decide +kernel
theorem dL_setStrength_1 : decode cL_setStrength 1 = .ok (.iconst 0, 1) := by decide +kernel
theorem dL_setStrength_2 : decode cL_setStrength 2 = .ok (.aload_n 0, 1) := by decide +kernel
theorem dL_setStrength_3 : decode cL_setStrength 3 = .ok (.iload_n 1, 1) := by decide +kernel
theorem dL_setStrength_4 : decode cL_setStrength 4 = .ok (.iload_n 2, 1) := by decide +kernel
theorem dL_setStrength_5 : decode cL_setStrength 5 = .ok (.invokevirtual 17, 3) := by decide +kernel
theorem dL_setStrength_8 : decode cL_setStrength 8 = .ok (.i2l, 1) := by decide +kernel
theorem dL_setStrength_9 : decode cL_setStrength 9 = .ok (.lastore, 1) := by decide +kernel
theorem dL_setStrength_10 : decode cL_setStrength 10 = .ok (.goto 11, 3) := by decide +kernel
theorem dL_setStrength_13 : decode cL_setStrength 13 = .ok (.astore 4, 2) := by decide +kernel
theorem dL_setStrength_15 : decode cL_setStrength 15 = .ok (.iconst 1, 1) := by decide +kernel
theorem dL_setStrength_16 : decode cL_setStrength 16 = .ok (.ireturn, 1) := by decide +kernel
theorem dL_setStrength_17 : decode cL_setStrength 17 = .ok (.astore 4, 2) := by decide +kernel
theorem dL_setStrength_19 : decode cL_setStrength 19 = .ok (.iconst 2, 1) := by decide +kernel
theorem dL_setStrength_20 : decode cL_setStrength 20 = .ok (.ireturn, 1) := by decide +kernel
theorem dL_setStrength_21 : decode cL_setStrength 21 = .ok (.iconst 0, 1) := by decide +kernel
theorem dL_setStrength_22 : decode cL_setStrength 22 = .ok (.ireturn, 1) := by decide +kernel
theorem dL_turn_0 : decode cL_turn 0 = .ok (.aload_n 2, 1) := by decide +kernel
theorem dL_turn_1 : decode cL_turn 1 = .ok (.iconst 0, 1) := by decide +kernel
theorem dL_turn_2 : decode cL_turn 2 = .ok (.aload_n 0, 1) := by decide +kernel
theorem dL_turn_3 : decode cL_turn 3 = .ok (.iload_n 1, 1) := by decide +kernel
theorem dL_turn_4 : decode cL_turn 4 = .ok (.invokevirtual 23, 3) := by decide +kernel
theorem dL_turn_7 : decode cL_turn 7 = .ok (.i2l, 1) := by decide +kernel
theorem dL_turn_8 : decode cL_turn 8 = .ok (.lastore, 1) := by decide +kernel
theorem dL_turn_9 : decode cL_turn 9 = .ok (.goto 6, 3) := by decide +kernel
theorem dL_turn_12 : decode cL_turn 12 = .ok (.astore_n 3, 1) := by decide +kernel
theorem dL_turn_13 : decode cL_turn 13 = .ok (.iconst 1, 1) := by decide +kernel
theorem dL_turn_14 : decode cL_turn 14 = .ok (.ireturn, 1) := by decide +kernel
theorem dL_turn_15 : decode cL_turn 15 = .ok (.iconst 0, 1) := by decide +kernel
theorem dL_turn_16 : decode cL_turn 16 = .ok (.ireturn, 1) := by decide +kernel
theorem dL_shift_0 : decode cL_shift 0 = .ok (.aload_n 2, 1) := by decide +kernel
theorem dL_shift_1 : decode cL_shift 1 = .ok (.iconst 0, 1) := by decide +kernel
theorem dL_shift_2 : decode cL_shift 2 = .ok (.aload_n 0, 1) := by decide +kernel
theorem dL_shift_3 : decode cL_shift 3 = .ok (.iload_n 1, 1) := by decide +kernel
theorem dL_shift_4 : decode cL_shift 4 = .ok (.invokevirtual 27, 3) := by decide +kernel
theorem dL_shift_7 : decode cL_shift 7 = .ok (.i2l, 1) := by decide +kernel
theorem dL_shift_8 : decode cL_shift 8 = .ok (.lastore, 1) := by decide +kernel
theorem dL_shift_9 : decode cL_shift 9 = .ok (.goto 6, 3) := by decide +kernel
theorem dL_shift_12 : decode cL_shift 12 = .ok (.astore_n 3, 1) := by decide +kernel
theorem dL_shift_13 : decode cL_shift 13 = .ok (.iconst 1, 1) := by decide +kernel
theorem dL_shift_14 : decode cL_shift 14 = .ok (.ireturn, 1) := by decide +kernel
theorem dL_shift_15 : decode cL_shift 15 = .ok (.iconst 0, 1) := by decide +kernel
theorem dL_shift_16 : decode cL_shift 16 = .ok (.ireturn, 1) := by decide +kernel
theorem dL_position_0 : decode cL_position 0 = .ok (.aload_n 2, 1) := by decide +kernel
theorem dL_position_1 : decode cL_position 1 = .ok (.iconst 0, 1) := by decide +kernel
theorem dL_position_2 : decode cL_position 2 = .ok (.aload_n 0, 1) := by decide +kernel
theorem dL_position_3 : decode cL_position 3 = .ok (.iload_n 1, 1) := by decide +kernel
theorem dL_position_4 : decode cL_position 4 = .ok (.invokevirtual 30, 3) := by decide +kernel
theorem dL_position_7 : decode cL_position 7 = .ok (.i2l, 1) := by decide +kernel
theorem dL_position_8 : decode cL_position 8 = .ok (.lastore, 1) := by decide +kernel
theorem dL_position_9 : decode cL_position 9 = .ok (.goto 6, 3) := by decide +kernel
theorem dL_position_12 : decode cL_position 12 = .ok (.astore_n 3, 1) := by decide +kernel
theorem dL_position_13 : decode cL_position 13 = .ok (.iconst 1, 1) := by decide +kernel
theorem dL_position_14 : decode cL_position 14 = .ok (.ireturn, 1) := by decide +kernel
theorem dL_position_15 : decode cL_position 15 = .ok (.iconst 0, 1) := by decide +kernel
theorem dL_position_16 : decode cL_position 16 = .ok (.ireturn, 1) := by decide +kernel
theorem dL_strength_0 : decode cL_strength 0 = .ok (.aload_n 2, 1) := by decide +kernel
theorem dL_strength_1 : decode cL_strength 1 = .ok (.iconst 0, 1) := by decide +kernel
theorem dL_strength_2 : decode cL_strength 2 = .ok (.aload_n 0, 1) := by decide +kernel
theorem dL_strength_3 : decode cL_strength 3 = .ok (.iload_n 1, 1) := by decide +kernel
theorem dL_strength_4 : decode cL_strength 4 = .ok (.invokevirtual 33, 3) := by decide +kernel
theorem dL_strength_7 : decode cL_strength 7 = .ok (.i2l, 1) := by decide +kernel
theorem dL_strength_8 : decode cL_strength 8 = .ok (.lastore, 1) := by decide +kernel
theorem dL_strength_9 : decode cL_strength 9 = .ok (.goto 6, 3) := by decide +kernel
theorem dL_strength_12 : decode cL_strength 12 = .ok (.astore_n 3, 1) := by decide +kernel
theorem dL_strength_13 : decode cL_strength 13 = .ok (.iconst 1, 1) := by decide +kernel
theorem dL_strength_14 : decode cL_strength 14 = .ok (.ireturn, 1) := by decide +kernel
theorem dL_strength_15 : decode cL_strength 15 = .ok (.iconst 0, 1) := by decide +kernel
theorem dL_strength_16 : decode cL_strength 16 = .ok (.ireturn, 1) := by decide +kernel
theorem dL_pole_0 : decode cL_pole 0 = .ok (.aload_n 2, 1) := by decide +kernel
theorem dL_pole_1 : decode cL_pole 1 = .ok (.iconst 0, 1) := by decide +kernel
theorem dL_pole_2 : decode cL_pole 2 = .ok (.aload_n 0, 1) := by decide +kernel
theorem dL_pole_3 : decode cL_pole 3 = .ok (.iload_n 1, 1) := by decide +kernel
theorem dL_pole_4 : decode cL_pole 4 = .ok (.invokevirtual 36, 3) := by decide +kernel
theorem dL_pole_7 : decode cL_pole 7 = .ok (.i2l, 1) := by decide +kernel
theorem dL_pole_8 : decode cL_pole 8 = .ok (.lastore, 1) := by decide +kernel
theorem dL_pole_9 : decode cL_pole 9 = .ok (.goto 6, 3) := by decide +kernel
theorem dL_pole_12 : decode cL_pole 12 = .ok (.astore_n 3, 1) := by decide +kernel
theorem dL_pole_13 : decode cL_pole 13 = .ok (.iconst 1, 1) := by decide +kernel
theorem dL_pole_14 : decode cL_pole 14 = .ok (.ireturn, 1) := by decide +kernel
theorem dL_pole_15 : decode cL_pole 15 = .ok (.iconst 0, 1) := by decide +kernel
theorem dL_pole_16 : decode cL_pole 16 = .ok (.ireturn, 1) := by decide +kernel
theorem dL_magnetAt_0 : decode cL_magnetAt 0 = .ok (.aload_n 2, 1) := by decide +kernel
theorem dL_magnetAt_1 : decode cL_magnetAt 1 = .ok (.iconst 0, 1) := by decide +kernel
theorem dL_magnetAt_2 : decode cL_magnetAt 2 = .ok (.aload_n 0, 1) := by decide +kernel
theorem dL_magnetAt_3 : decode cL_magnetAt 3 = .ok (.iload_n 1, 1) := by decide +kernel
theorem dL_magnetAt_4 : decode cL_magnetAt 4 = .ok (.invokevirtual 40, 3) := by decide +kernel
theorem dL_magnetAt_7 : decode cL_magnetAt 7 = .ok (.i2l, 1) := by decide +kernel
theorem dL_magnetAt_8 : decode cL_magnetAt 8 = .ok (.lastore, 1) := by decide +kernel
theorem dL_magnetAt_9 : decode cL_magnetAt 9 = .ok (.goto 9, 3) := by decide +kernel
theorem dL_magnetAt_12 : decode cL_magnetAt 12 = .ok (.astore_n 3, 1) := by decide +kernel
theorem dL_magnetAt_13 : decode cL_magnetAt 13 = .ok (.iconst 1, 1) := by decide +kernel
theorem dL_magnetAt_14 : decode cL_magnetAt 14 = .ok (.ireturn, 1) := by decide +kernel
theorem dL_magnetAt_15 : decode cL_magnetAt 15 = .ok (.astore_n 3, 1) := by decide +kernel
theorem dL_magnetAt_16 : decode cL_magnetAt 16 = .ok (.iconst 2, 1) := by decide +kernel
theorem dL_magnetAt_17 : decode cL_magnetAt 17 = .ok (.ireturn, 1) := by decide +kernel
theorem dL_magnetAt_18 : decode cL_magnetAt 18 = .ok (.iconst 0, 1) := by decide +kernel
theorem dL_magnetAt_19 : decode cL_magnetAt 19 = .ok (.ireturn, 1) := by decide +kernel
theorem dL_magnetByStrength_0 : decode cL_magnetByStrength 0 = .ok (.aload_n 2, 1) := by decide +kernel
theorem dL_magnetByStrength_1 : decode cL_magnetByStrength 1 = .ok (.iconst 0, 1) := by decide +kernel
theorem dL_magnetByStrength_2 : decode cL_magnetByStrength 2 = .ok (.aload_n 0, 1) := by decide +kernel
theorem dL_magnetByStrength_3 : decode cL_magnetByStrength 3 = .ok (.iload_n 1, 1) := by decide +kernel
theorem dL_magnetByStrength_4 : decode cL_magnetByStrength 4 = .ok (.invokevirtual 45, 3) := by decide +kernel
theorem dL_magnetByStrength_7 : decode cL_magnetByStrength 7 = .ok (.i2l, 1) := by decide +kernel
theorem dL_magnetByStrength_8 : decode cL_magnetByStrength 8 = .ok (.lastore, 1) := by decide +kernel
theorem dL_magnetByStrength_9 : decode cL_magnetByStrength 9 = .ok (.goto 6, 3) := by decide +kernel
theorem dL_magnetByStrength_12 : decode cL_magnetByStrength 12 = .ok (.astore_n 3, 1) := by decide +kernel
theorem dL_magnetByStrength_13 : decode cL_magnetByStrength 13 = .ok (.iconst 1, 1) := by decide +kernel
theorem dL_magnetByStrength_14 : decode cL_magnetByStrength 14 = .ok (.ireturn, 1) := by decide +kernel
theorem dL_magnetByStrength_15 : decode cL_magnetByStrength 15 = .ok (.iconst 0, 1) := by decide +kernel
theorem dL_magnetByStrength_16 : decode cL_magnetByStrength 16 = .ok (.ireturn, 1) := by decide +kernel
theorem dL_dig_0 : decode cL_dig 0 = .ok (.aload_n 3, 1) := by decide +kernel
theorem dL_dig_1 : decode cL_dig 1 = .ok (.iconst 0, 1) := by decide +kernel
theorem dL_dig_2 : decode cL_dig 2 = .ok (.aload_n 0, 1) := by decide +kernel
theorem dL_dig_3 : decode cL_dig 3 = .ok (.iload_n 1, 1) := by decide +kernel
theorem dL_dig_4 : decode cL_dig 4 = .ok (.iload_n 2, 1) := by decide +kernel
theorem dL_dig_5 : decode cL_dig 5 = .ok (.invokevirtual 48, 3) := by decide +kernel
theorem dL_dig_8 : decode cL_dig 8 = .ok (.i2l, 1) := by decide +kernel
theorem dL_dig_9 : decode cL_dig 9 = .ok (.lastore, 1) := by decide +kernel
theorem dL_dig_10 : decode cL_dig 10 = .ok (.goto 15, 3) := by decide +kernel
theorem dL_dig_13 : decode cL_dig 13 = .ok (.astore 4, 2) := by decide +kernel
theorem dL_dig_15 : decode cL_dig 15 = .ok (.iconst 1, 1) := by decide +kernel
theorem dL_dig_16 : decode cL_dig 16 = .ok (.ireturn, 1) := by decide +kernel
theorem dL_dig_17 : decode cL_dig 17 = .ok (.astore 4, 2) := by decide +kernel
theorem dL_dig_19 : decode cL_dig 19 = .ok (.iconst 2, 1) := by decide +kernel
theorem dL_dig_20 : decode cL_dig 20 = .ok (.ireturn, 1) := by decide +kernel
theorem dL_dig_21 : decode cL_dig 21 = .ok (.astore 4, 2) := by decide +kernel
theorem dL_dig_23 : decode cL_dig 23 = .ok (.iconst 3, 1) := by decide +kernel
theorem dL_dig_24 : decode cL_dig 24 = .ok (.ireturn, 1) := by decide +kernel
theorem dL_dig_25 : decode cL_dig 25 = .ok (.iconst 0, 1) := by decide +kernel
theorem dL_dig_26 : decode cL_dig 26 = .ok (.ireturn, 1) := by decide +kernel
theorem dL_fill_0 : decode cL_fill 0 = .ok (.aload_n 2, 1) := by decide +kernel
theorem dL_fill_1 : decode cL_fill 1 = .ok (.iconst 0, 1) := by decide +kernel
theorem dL_fill_2 : decode cL_fill 2 = .ok (.aload_n 0, 1) := by decide +kernel
theorem dL_fill_3 : decode cL_fill 3 = .ok (.iload_n 1, 1) := by decide +kernel
theorem dL_fill_4 : decode cL_fill 4 = .ok (.invokevirtual 51, 3) := by decide +kernel
theorem dL_fill_7 : decode cL_fill 7 = .ok (.i2l, 1) := by decide +kernel
theorem dL_fill_8 : decode cL_fill 8 = .ok (.lastore, 1) := by decide +kernel
theorem dL_fill_9 : decode cL_fill 9 = .ok (.goto 6, 3) := by decide +kernel
theorem dL_fill_12 : decode cL_fill 12 = .ok (.astore_n 3, 1) := by decide +kernel
theorem dL_fill_13 : decode cL_fill 13 = .ok (.iconst 1, 1) := by decide +kernel
theorem dL_fill_14 : decode cL_fill 14 = .ok (.ireturn, 1) := by decide +kernel
theorem dL_fill_15 : decode cL_fill 15 = .ok (.iconst 0, 1) := by decide +kernel
theorem dL_fill_16 : decode cL_fill 16 = .ok (.ireturn, 1) := by decide +kernel
theorem dL_settle_0 : decode cL_settle 0 = .ok (.aload_n 1, 1) := by decide +kernel
theorem dL_settle_1 : decode cL_settle 1 = .ok (.iconst 0, 1) := by decide +kernel
theorem dL_settle_2 : decode cL_settle 2 = .ok (.aload_n 0, 1) := by decide +kernel
theorem dL_settle_3 : decode cL_settle 3 = .ok (.invokevirtual 54, 3) := by decide +kernel
theorem dL_settle_6 : decode cL_settle 6 = .ok (.i2l, 1) := by decide +kernel
theorem dL_settle_7 : decode cL_settle 7 = .ok (.lastore, 1) := by decide +kernel
theorem dL_settle_8 : decode cL_settle 8 = .ok (.goto 6, 3) := by decide +kernel
theorem dL_settle_11 : decode cL_settle 11 = .ok (.astore_n 2, 1) := by decide +kernel
theorem dL_settle_12 : decode cL_settle 12 = .ok (.iconst 1, 1) := by decide +kernel
theorem dL_settle_13 : decode cL_settle 13 = .ok (.ireturn, 1) := by decide +kernel
theorem dL_settle_14 : decode cL_settle 14 = .ok (.iconst 0, 1) := by decide +kernel
theorem dL_settle_15 : decode cL_settle 15 = .ok (.ireturn, 1) := by decide +kernel
theorem dL_isOpen_0 : decode cL_isOpen 0 = .ok (.aload_n 2, 1) := by decide +kernel
theorem dL_isOpen_1 : decode cL_isOpen 1 = .ok (.iconst 0, 1) := by decide +kernel
theorem dL_isOpen_2 : decode cL_isOpen 2 = .ok (.aload_n 0, 1) := by decide +kernel
theorem dL_isOpen_3 : decode cL_isOpen 3 = .ok (.iload_n 1, 1) := by decide +kernel
theorem dL_isOpen_4 : decode cL_isOpen 4 = .ok (.invokevirtual 58, 3) := by decide +kernel
theorem dL_isOpen_7 : decode cL_isOpen 7 = .ok (.ifCond .eq 7, 3) := by decide +kernel
theorem dL_isOpen_10 : decode cL_isOpen 10 = .ok (.lconst 1, 1) := by decide +kernel
theorem dL_isOpen_11 : decode cL_isOpen 11 = .ok (.goto 4, 3) := by decide +kernel
theorem dL_isOpen_14 : decode cL_isOpen 14 = .ok (.lconst 0, 1) := by decide +kernel
theorem dL_isOpen_15 : decode cL_isOpen 15 = .ok (.lastore, 1) := by decide +kernel
theorem dL_isOpen_16 : decode cL_isOpen 16 = .ok (.goto 6, 3) := by decide +kernel
theorem dL_isOpen_19 : decode cL_isOpen 19 = .ok (.astore_n 3, 1) := by decide +kernel
theorem dL_isOpen_20 : decode cL_isOpen 20 = .ok (.iconst 1, 1) := by decide +kernel
theorem dL_isOpen_21 : decode cL_isOpen 21 = .ok (.ireturn, 1) := by decide +kernel
theorem dL_isOpen_22 : decode cL_isOpen 22 = .ok (.iconst 0, 1) := by decide +kernel
theorem dL_isOpen_23 : decode cL_isOpen 23 = .ok (.ireturn, 1) := by decide +kernel
theorem dL_walk_0 : decode cL_walk 0 = .ok (.aload_n 3, 1) := by decide +kernel
theorem dL_walk_1 : decode cL_walk 1 = .ok (.iconst 0, 1) := by decide +kernel
theorem dL_walk_2 : decode cL_walk 2 = .ok (.aload_n 0, 1) := by decide +kernel
theorem dL_walk_3 : decode cL_walk 3 = .ok (.iload_n 1, 1) := by decide +kernel
theorem dL_walk_4 : decode cL_walk 4 = .ok (.iload_n 2, 1) := by decide +kernel
theorem dL_walk_5 : decode cL_walk 5 = .ok (.invokevirtual 62, 3) := by decide +kernel
theorem dL_walk_8 : decode cL_walk 8 = .ok (.i2l, 1) := by decide +kernel
theorem dL_walk_9 : decode cL_walk 9 = .ok (.lastore, 1) := by decide +kernel
theorem dL_walk_10 : decode cL_walk 10 = .ok (.goto 11, 3) := by decide +kernel
theorem dL_walk_13 : decode cL_walk 13 = .ok (.astore 4, 2) := by decide +kernel
theorem dL_walk_15 : decode cL_walk 15 = .ok (.iconst 1, 1) := by decide +kernel
theorem dL_walk_16 : decode cL_walk 16 = .ok (.ireturn, 1) := by decide +kernel
theorem dL_walk_17 : decode cL_walk 17 = .ok (.astore 4, 2) := by decide +kernel
theorem dL_walk_19 : decode cL_walk 19 = .ok (.iconst 2, 1) := by decide +kernel
theorem dL_walk_20 : decode cL_walk 20 = .ok (.ireturn, 1) := by decide +kernel
theorem dL_walk_21 : decode cL_walk 21 = .ok (.iconst 0, 1) := by decide +kernel
theorem dL_walk_22 : decode cL_walk 22 = .ok (.ireturn, 1) := by decide +kernel
theorem dL_fewestTurns_0 : decode cL_fewestTurns 0 = .ok (.aload_n 1, 1) := by decide +kernel
theorem dL_fewestTurns_1 : decode cL_fewestTurns 1 = .ok (.iconst 0, 1) := by decide +kernel
theorem dL_fewestTurns_2 : decode cL_fewestTurns 2 = .ok (.aload_n 0, 1) := by decide +kernel
theorem dL_fewestTurns_3 : decode cL_fewestTurns 3 = .ok (.invokevirtual 65, 3) := by decide +kernel
theorem dL_fewestTurns_6 : decode cL_fewestTurns 6 = .ok (.i2l, 1) := by decide +kernel
theorem dL_fewestTurns_7 : decode cL_fewestTurns 7 = .ok (.lastore, 1) := by decide +kernel
theorem dL_fewestTurns_8 : decode cL_fewestTurns 8 = .ok (.goto 6, 3) := by decide +kernel
theorem dL_fewestTurns_11 : decode cL_fewestTurns 11 = .ok (.astore_n 2, 1) := by decide +kernel
theorem dL_fewestTurns_12 : decode cL_fewestTurns 12 = .ok (.iconst 1, 1) := by decide +kernel
theorem dL_fewestTurns_13 : decode cL_fewestTurns 13 = .ok (.ireturn, 1) := by decide +kernel
theorem dL_fewestTurns_14 : decode cL_fewestTurns 14 = .ok (.iconst 0, 1) := by decide +kernel
theorem dL_fewestTurns_15 : decode cL_fewestTurns 15 = .ok (.ireturn, 1) := by decide +kernel
theorem dL_fewestTurnsBySets_0 : decode cL_fewestTurnsBySets 0 = .ok (.aload_n 1, 1) := by decide +kernel
theorem dL_fewestTurnsBySets_1 : decode cL_fewestTurnsBySets 1 = .ok (.iconst 0, 1) := by decide +kernel
theorem dL_fewestTurnsBySets_2 : decode cL_fewestTurnsBySets 2 = .ok (.aload_n 0, 1) := by decide +kernel
theorem dL_fewestTurnsBySets_3 : decode cL_fewestTurnsBySets 3 = .ok (.invokevirtual 68, 3) := by decide +kernel
theorem dL_fewestTurnsBySets_6 : decode cL_fewestTurnsBySets 6 = .ok (.i2l, 1) := by decide +kernel
theorem dL_fewestTurnsBySets_7 : decode cL_fewestTurnsBySets 7 = .ok (.lastore, 1) := by decide +kernel
theorem dL_fewestTurnsBySets_8 : decode cL_fewestTurnsBySets 8 = .ok (.goto 6, 3) := by decide +kernel
theorem dL_fewestTurnsBySets_11 : decode cL_fewestTurnsBySets 11 = .ok (.astore_n 2, 1) := by decide +kernel
theorem dL_fewestTurnsBySets_12 : decode cL_fewestTurnsBySets 12 = .ok (.iconst 1, 1) := by decide +kernel
theorem dL_fewestTurnsBySets_13 : decode cL_fewestTurnsBySets 13 = .ok (.ireturn, 1) := by decide +kernel
theorem dL_fewestTurnsBySets_14 : decode cL_fewestTurnsBySets 14 = .ok (.iconst 0, 1) := by decide +kernel
theorem dL_fewestTurnsBySets_15 : decode cL_fewestTurnsBySets 15 = .ok (.ireturn, 1) := by decide +kernel
theorem dL_force_0 : decode cL_force 0 = .ok (.aload_n 2, 1) := by decide +kernel
theorem dL_force_1 : decode cL_force 1 = .ok (.iconst 0, 1) := by decide +kernel
theorem dL_force_2 : decode cL_force 2 = .ok (.aload_n 0, 1) := by decide +kernel
theorem dL_force_3 : decode cL_force 3 = .ok (.iload_n 1, 1) := by decide +kernel
theorem dL_force_4 : decode cL_force 4 = .ok (.invokevirtual 71, 3) := by decide +kernel
theorem dL_force_7 : decode cL_force 7 = .ok (.f2d, 1) := by decide +kernel
theorem dL_force_8 : decode cL_force 8 = .ok (.dastore, 1) := by decide +kernel
theorem dL_force_9 : decode cL_force 9 = .ok (.goto 6, 3) := by decide +kernel
theorem dL_force_12 : decode cL_force 12 = .ok (.astore_n 3, 1) := by decide +kernel
theorem dL_force_13 : decode cL_force 13 = .ok (.iconst 1, 1) := by decide +kernel
theorem dL_force_14 : decode cL_force 14 = .ok (.ireturn, 1) := by decide +kernel
theorem dL_force_15 : decode cL_force 15 = .ok (.iconst 0, 1) := by decide +kernel
theorem dL_force_16 : decode cL_force 16 = .ok (.ireturn, 1) := by decide +kernel
theorem dL_wholeForce_0 : decode cL_wholeForce 0 = .ok (.aload_n 2, 1) := by decide +kernel
theorem dL_wholeForce_1 : decode cL_wholeForce 1 = .ok (.iconst 0, 1) := by decide +kernel
theorem dL_wholeForce_2 : decode cL_wholeForce 2 = .ok (.aload_n 0, 1) := by decide +kernel
theorem dL_wholeForce_3 : decode cL_wholeForce 3 = .ok (.iload_n 1, 1) := by decide +kernel
theorem dL_wholeForce_4 : decode cL_wholeForce 4 = .ok (.invokevirtual 75, 3) := by decide +kernel
theorem dL_wholeForce_7 : decode cL_wholeForce 7 = .ok (.i2l, 1) := by decide +kernel
theorem dL_wholeForce_8 : decode cL_wholeForce 8 = .ok (.lastore, 1) := by decide +kernel
theorem dL_wholeForce_9 : decode cL_wholeForce 9 = .ok (.goto 6, 3) := by decide +kernel
theorem dL_wholeForce_12 : decode cL_wholeForce 12 = .ok (.astore_n 3, 1) := by decide +kernel
theorem dL_wholeForce_13 : decode cL_wholeForce 13 = .ok (.iconst 1, 1) := by decide +kernel
theorem dL_wholeForce_14 : decode cL_wholeForce 14 = .ok (.ireturn, 1) := by decide +kernel
theorem dL_wholeForce_15 : decode cL_wholeForce 15 = .ok (.iconst 0, 1) := by decide +kernel
theorem dL_wholeForce_16 : decode cL_wholeForce 16 = .ok (.ireturn, 1) := by decide +kernel
theorem dL_field_0 : decode cL_field 0 = .ok (.aload_n 2, 1) := by decide +kernel
theorem dL_field_1 : decode cL_field 1 = .ok (.iconst 0, 1) := by decide +kernel
theorem dL_field_2 : decode cL_field 2 = .ok (.aload_n 0, 1) := by decide +kernel
theorem dL_field_3 : decode cL_field 3 = .ok (.iload_n 1, 1) := by decide +kernel
theorem dL_field_4 : decode cL_field 4 = .ok (.invokevirtual 78, 3) := by decide +kernel
theorem dL_field_7 : decode cL_field 7 = .ok (.dastore, 1) := by decide +kernel
theorem dL_field_8 : decode cL_field 8 = .ok (.goto 6, 3) := by decide +kernel
theorem dL_field_11 : decode cL_field 11 = .ok (.astore_n 3, 1) := by decide +kernel
theorem dL_field_12 : decode cL_field 12 = .ok (.iconst 1, 1) := by decide +kernel
theorem dL_field_13 : decode cL_field 13 = .ok (.ireturn, 1) := by decide +kernel
theorem dL_field_14 : decode cL_field 14 = .ok (.iconst 0, 1) := by decide +kernel
theorem dL_field_15 : decode cL_field 15 = .ok (.ireturn, 1) := by decide +kernel
theorem dL_strongestPosition_0 : decode cL_strongestPosition 0 = .ok (.aload_n 1, 1) := by decide +kernel
theorem dL_strongestPosition_1 : decode cL_strongestPosition 1 = .ok (.iconst 0, 1) := by decide +kernel
theorem dL_strongestPosition_2 : decode cL_strongestPosition 2 = .ok (.aload_n 0, 1) := by decide +kernel
theorem dL_strongestPosition_3 : decode cL_strongestPosition 3 = .ok (.invokevirtual 82, 3) := by decide +kernel
theorem dL_strongestPosition_6 : decode cL_strongestPosition 6 = .ok (.i2l, 1) := by decide +kernel
theorem dL_strongestPosition_7 : decode cL_strongestPosition 7 = .ok (.lastore, 1) := by decide +kernel
theorem dL_strongestPosition_8 : decode cL_strongestPosition 8 = .ok (.goto 6, 3) := by decide +kernel
theorem dL_strongestPosition_11 : decode cL_strongestPosition 11 = .ok (.astore_n 2, 1) := by decide +kernel
theorem dL_strongestPosition_12 : decode cL_strongestPosition 12 = .ok (.iconst 1, 1) := by decide +kernel
theorem dL_strongestPosition_13 : decode cL_strongestPosition 13 = .ok (.ireturn, 1) := by decide +kernel
theorem dL_strongestPosition_14 : decode cL_strongestPosition 14 = .ok (.iconst 0, 1) := by decide +kernel
theorem dL_strongestPosition_15 : decode cL_strongestPosition 15 = .ok (.ireturn, 1) := by decide +kernel
theorem dL_queen_0 : decode cL_queen 0 = .ok (.aload_n 1, 1) := by decide +kernel
theorem dL_queen_1 : decode cL_queen 1 = .ok (.iconst 0, 1) := by decide +kernel
theorem dL_queen_2 : decode cL_queen 2 = .ok (.aload_n 0, 1) := by decide +kernel
theorem dL_queen_3 : decode cL_queen 3 = .ok (.invokevirtual 85, 3) := by decide +kernel
theorem dL_queen_6 : decode cL_queen 6 = .ok (.i2l, 1) := by decide +kernel
theorem dL_queen_7 : decode cL_queen 7 = .ok (.lastore, 1) := by decide +kernel
theorem dL_queen_8 : decode cL_queen 8 = .ok (.goto 6, 3) := by decide +kernel
theorem dL_queen_11 : decode cL_queen 11 = .ok (.astore_n 2, 1) := by decide +kernel
theorem dL_queen_12 : decode cL_queen 12 = .ok (.iconst 1, 1) := by decide +kernel
theorem dL_queen_13 : decode cL_queen 13 = .ok (.ireturn, 1) := by decide +kernel
theorem dL_queen_14 : decode cL_queen 14 = .ok (.iconst 0, 1) := by decide +kernel
theorem dL_queen_15 : decode cL_queen 15 = .ok (.ireturn, 1) := by decide +kernel
theorem dL_meanStrength_0 : decode cL_meanStrength 0 = .ok (.aload_n 1, 1) := by decide +kernel
theorem dL_meanStrength_1 : decode cL_meanStrength 1 = .ok (.iconst 0, 1) := by decide +kernel
theorem dL_meanStrength_2 : decode cL_meanStrength 2 = .ok (.aload_n 0, 1) := by decide +kernel
theorem dL_meanStrength_3 : decode cL_meanStrength 3 = .ok (.invokevirtual 88, 3) := by decide +kernel
theorem dL_meanStrength_6 : decode cL_meanStrength 6 = .ok (.dastore, 1) := by decide +kernel
theorem dL_meanStrength_7 : decode cL_meanStrength 7 = .ok (.goto 6, 3) := by decide +kernel
theorem dL_meanStrength_10 : decode cL_meanStrength 10 = .ok (.astore_n 2, 1) := by decide +kernel
theorem dL_meanStrength_11 : decode cL_meanStrength 11 = .ok (.iconst 1, 1) := by decide +kernel
theorem dL_meanStrength_12 : decode cL_meanStrength 12 = .ok (.ireturn, 1) := by decide +kernel
theorem dL_meanStrength_13 : decode cL_meanStrength 13 = .ok (.iconst 0, 1) := by decide +kernel
theorem dL_meanStrength_14 : decode cL_meanStrength 14 = .ok (.ireturn, 1) := by decide +kernel
theorem dL_openShare_0 : decode cL_openShare 0 = .ok (.aload_n 1, 1) := by decide +kernel
theorem dL_openShare_1 : decode cL_openShare 1 = .ok (.iconst 0, 1) := by decide +kernel
theorem dL_openShare_2 : decode cL_openShare 2 = .ok (.aload_n 0, 1) := by decide +kernel
theorem dL_openShare_3 : decode cL_openShare 3 = .ok (.invokevirtual 94, 3) := by decide +kernel
theorem dL_openShare_6 : decode cL_openShare 6 = .ok (.f2d, 1) := by decide +kernel
theorem dL_openShare_7 : decode cL_openShare 7 = .ok (.dastore, 1) := by decide +kernel
theorem dL_openShare_8 : decode cL_openShare 8 = .ok (.goto 6, 3) := by decide +kernel
theorem dL_openShare_11 : decode cL_openShare 11 = .ok (.astore_n 2, 1) := by decide +kernel
theorem dL_openShare_12 : decode cL_openShare 12 = .ok (.iconst 1, 1) := by decide +kernel
theorem dL_openShare_13 : decode cL_openShare 13 = .ok (.ireturn, 1) := by decide +kernel
theorem dL_openShare_14 : decode cL_openShare 14 = .ok (.iconst 0, 1) := by decide +kernel
theorem dL_openShare_15 : decode cL_openShare 15 = .ok (.ireturn, 1) := by decide +kernel
theorem dL_turnsOf_0 : decode cL_turnsOf 0 = .ok (.aload_n 2, 1) := by decide +kernel
theorem dL_turnsOf_1 : decode cL_turnsOf 1 = .ok (.iconst 0, 1) := by decide +kernel
theorem dL_turnsOf_2 : decode cL_turnsOf 2 = .ok (.aload_n 0, 1) := by decide +kernel
theorem dL_turnsOf_3 : decode cL_turnsOf 3 = .ok (.iload_n 1, 1) := by decide +kernel
theorem dL_turnsOf_4 : decode cL_turnsOf 4 = .ok (.invokevirtual 98, 3) := by decide +kernel
theorem dL_turnsOf_7 : decode cL_turnsOf 7 = .ok (.i2l, 1) := by decide +kernel
theorem dL_turnsOf_8 : decode cL_turnsOf 8 = .ok (.lastore, 1) := by decide +kernel
theorem dL_turnsOf_9 : decode cL_turnsOf 9 = .ok (.goto 6, 3) := by decide +kernel
theorem dL_turnsOf_12 : decode cL_turnsOf 12 = .ok (.astore_n 3, 1) := by decide +kernel
theorem dL_turnsOf_13 : decode cL_turnsOf 13 = .ok (.iconst 1, 1) := by decide +kernel
theorem dL_turnsOf_14 : decode cL_turnsOf 14 = .ok (.ireturn, 1) := by decide +kernel
theorem dL_turnsOf_15 : decode cL_turnsOf 15 = .ok (.iconst 0, 1) := by decide +kernel
theorem dL_turnsOf_16 : decode cL_turnsOf 16 = .ok (.ireturn, 1) := by decide +kernel
theorem dL_feed_0 : decode cL_feed 0 = .ok (.aload_n 2, 1) := by decide +kernel
theorem dL_feed_1 : decode cL_feed 1 = .ok (.iconst 0, 1) := by decide +kernel
theorem dL_feed_2 : decode cL_feed 2 = .ok (.aload_n 0, 1) := by decide +kernel
theorem dL_feed_3 : decode cL_feed 3 = .ok (.iload_n 1, 1) := by decide +kernel
theorem dL_feed_4 : decode cL_feed 4 = .ok (.invokevirtual 101, 3) := by decide +kernel
theorem dL_feed_7 : decode cL_feed 7 = .ok (.i2l, 1) := by decide +kernel
theorem dL_feed_8 : decode cL_feed 8 = .ok (.lastore, 1) := by decide +kernel
theorem dL_feed_9 : decode cL_feed 9 = .ok (.goto 6, 3) := by decide +kernel
theorem dL_feed_12 : decode cL_feed 12 = .ok (.astore_n 3, 1) := by decide +kernel
theorem dL_feed_13 : decode cL_feed 13 = .ok (.iconst 1, 1) := by decide +kernel
theorem dL_feed_14 : decode cL_feed 14 = .ok (.ireturn, 1) := by decide +kernel
theorem dL_feed_15 : decode cL_feed 15 = .ok (.iconst 0, 1) := by decide +kernel
theorem dL_feed_16 : decode cL_feed 16 = .ok (.ireturn, 1) := by decide +kernel
theorem dL_execute_0 : decode cL_execute 0 = .ok (.aload_n 1, 1) := by decide +kernel
theorem dL_execute_1 : decode cL_execute 1 = .ok (.iconst 0, 1) := by decide +kernel
theorem dL_execute_2 : decode cL_execute 2 = .ok (.aload_n 0, 1) := by decide +kernel
theorem dL_execute_3 : decode cL_execute 3 = .ok (.invokevirtual 107, 3) := by decide +kernel
theorem dL_execute_6 : decode cL_execute 6 = .ok (.i2l, 1) := by decide +kernel
theorem dL_execute_7 : decode cL_execute 7 = .ok (.lastore, 1) := by decide +kernel
theorem dL_execute_8 : decode cL_execute 8 = .ok (.goto 9, 3) := by decide +kernel
theorem dL_execute_11 : decode cL_execute 11 = .ok (.astore_n 2, 1) := by decide +kernel
theorem dL_execute_12 : decode cL_execute 12 = .ok (.iconst 1, 1) := by decide +kernel
theorem dL_execute_13 : decode cL_execute 13 = .ok (.ireturn, 1) := by decide +kernel
theorem dL_execute_14 : decode cL_execute 14 = .ok (.astore_n 2, 1) := by decide +kernel
theorem dL_execute_15 : decode cL_execute 15 = .ok (.iconst 2, 1) := by decide +kernel
theorem dL_execute_16 : decode cL_execute 16 = .ok (.ireturn, 1) := by decide +kernel
theorem dL_execute_17 : decode cL_execute 17 = .ok (.iconst 0, 1) := by decide +kernel
theorem dL_execute_18 : decode cL_execute 18 = .ok (.ireturn, 1) := by decide +kernel
theorem dL_faultPosition_0 : decode cL_faultPosition 0 = .ok (.aload_n 1, 1) := by decide +kernel
theorem dL_faultPosition_1 : decode cL_faultPosition 1 = .ok (.iconst 0, 1) := by decide +kernel
theorem dL_faultPosition_2 : decode cL_faultPosition 2 = .ok (.aload_n 0, 1) := by decide +kernel
theorem dL_faultPosition_3 : decode cL_faultPosition 3 = .ok (.invokevirtual 110, 3) := by decide +kernel
theorem dL_faultPosition_6 : decode cL_faultPosition 6 = .ok (.i2l, 1) := by decide +kernel
theorem dL_faultPosition_7 : decode cL_faultPosition 7 = .ok (.lastore, 1) := by decide +kernel
theorem dL_faultPosition_8 : decode cL_faultPosition 8 = .ok (.goto 6, 3) := by decide +kernel
theorem dL_faultPosition_11 : decode cL_faultPosition 11 = .ok (.astore_n 2, 1) := by decide +kernel
theorem dL_faultPosition_12 : decode cL_faultPosition 12 = .ok (.iconst 1, 1) := by decide +kernel
theorem dL_faultPosition_13 : decode cL_faultPosition 13 = .ok (.ireturn, 1) := by decide +kernel
theorem dL_faultPosition_14 : decode cL_faultPosition 14 = .ok (.iconst 0, 1) := by decide +kernel
theorem dL_faultPosition_15 : decode cL_faultPosition 15 = .ok (.ireturn, 1) := by decide +kernel
theorem dL_writeMagnet_0 : decode cL_writeMagnet 0 = .ok (.aload_n 2, 1) := by decide +kernel
theorem dL_writeMagnet_1 : decode cL_writeMagnet 1 = .ok (.iconst 0, 1) := by decide +kernel
theorem dL_writeMagnet_2 : decode cL_writeMagnet 2 = .ok (.aload_n 0, 1) := by decide +kernel
theorem dL_writeMagnet_3 : decode cL_writeMagnet 3 = .ok (.iload_n 1, 1) := by decide +kernel
theorem dL_writeMagnet_4 : decode cL_writeMagnet 4 = .ok (.invokevirtual 113, 3) := by decide +kernel
theorem dL_writeMagnet_7 : decode cL_writeMagnet 7 = .ok (.i2l, 1) := by decide +kernel
theorem dL_writeMagnet_8 : decode cL_writeMagnet 8 = .ok (.lastore, 1) := by decide +kernel
theorem dL_writeMagnet_9 : decode cL_writeMagnet 9 = .ok (.goto 6, 3) := by decide +kernel
theorem dL_writeMagnet_12 : decode cL_writeMagnet 12 = .ok (.astore_n 3, 1) := by decide +kernel
theorem dL_writeMagnet_13 : decode cL_writeMagnet 13 = .ok (.iconst 1, 1) := by decide +kernel
theorem dL_writeMagnet_14 : decode cL_writeMagnet 14 = .ok (.ireturn, 1) := by decide +kernel
theorem dL_writeMagnet_15 : decode cL_writeMagnet 15 = .ok (.iconst 0, 1) := by decide +kernel
theorem dL_writeMagnet_16 : decode cL_writeMagnet 16 = .ok (.ireturn, 1) := by decide +kernel
theorem dL_lineCharacter_0 : decode cL_lineCharacter 0 = .ok (.aload_n 2, 1) := by decide +kernel
theorem dL_lineCharacter_1 : decode cL_lineCharacter 1 = .ok (.iconst 0, 1) := by decide +kernel
theorem dL_lineCharacter_2 : decode cL_lineCharacter 2 = .ok (.aload_n 0, 1) := by decide +kernel
theorem dL_lineCharacter_3 : decode cL_lineCharacter 3 = .ok (.iload_n 1, 1) := by decide +kernel
theorem dL_lineCharacter_4 : decode cL_lineCharacter 4 = .ok (.invokevirtual 116, 3) := by decide +kernel
theorem dL_lineCharacter_7 : decode cL_lineCharacter 7 = .ok (.i2l, 1) := by decide +kernel
theorem dL_lineCharacter_8 : decode cL_lineCharacter 8 = .ok (.lastore, 1) := by decide +kernel
theorem dL_lineCharacter_9 : decode cL_lineCharacter 9 = .ok (.goto 6, 3) := by decide +kernel
theorem dL_lineCharacter_12 : decode cL_lineCharacter 12 = .ok (.astore_n 3, 1) := by decide +kernel
theorem dL_lineCharacter_13 : decode cL_lineCharacter 13 = .ok (.iconst 1, 1) := by decide +kernel
theorem dL_lineCharacter_14 : decode cL_lineCharacter 14 = .ok (.ireturn, 1) := by decide +kernel
theorem dL_lineCharacter_15 : decode cL_lineCharacter 15 = .ok (.iconst 0, 1) := by decide +kernel
theorem dL_lineCharacter_16 : decode cL_lineCharacter 16 = .ok (.ireturn, 1) := by decide +kernel
theorem dL_denial_0 : decode cL_denial 0 = .ok (.aload_n 1, 1) := by decide +kernel
theorem dL_denial_1 : decode cL_denial 1 = .ok (.iconst 0, 1) := by decide +kernel
theorem dL_denial_2 : decode cL_denial 2 = .ok (.aload_n 0, 1) := by decide +kernel
theorem dL_denial_3 : decode cL_denial 3 = .ok (.invokevirtual 119, 3) := by decide +kernel
theorem dL_denial_6 : decode cL_denial 6 = .ok (.i2l, 1) := by decide +kernel
theorem dL_denial_7 : decode cL_denial 7 = .ok (.lastore, 1) := by decide +kernel
theorem dL_denial_8 : decode cL_denial 8 = .ok (.goto 6, 3) := by decide +kernel
theorem dL_denial_11 : decode cL_denial 11 = .ok (.astore_n 2, 1) := by decide +kernel
theorem dL_denial_12 : decode cL_denial 12 = .ok (.iconst 1, 1) := by decide +kernel
theorem dL_denial_13 : decode cL_denial 13 = .ok (.ireturn, 1) := by decide +kernel
theorem dL_denial_14 : decode cL_denial 14 = .ok (.iconst 0, 1) := by decide +kernel
theorem dL_denial_15 : decode cL_denial 15 = .ok (.ireturn, 1) := by decide +kernel
theorem dL_denialDetail_0 : decode cL_denialDetail 0 = .ok (.aload_n 1, 1) := by decide +kernel
theorem dL_denialDetail_1 : decode cL_denialDetail 1 = .ok (.iconst 0, 1) := by decide +kernel
theorem dL_denialDetail_2 : decode cL_denialDetail 2 = .ok (.aload_n 0, 1) := by decide +kernel
theorem dL_denialDetail_3 : decode cL_denialDetail 3 = .ok (.invokevirtual 122, 3) := by decide +kernel
theorem dL_denialDetail_6 : decode cL_denialDetail 6 = .ok (.i2l, 1) := by decide +kernel
theorem dL_denialDetail_7 : decode cL_denialDetail 7 = .ok (.lastore, 1) := by decide +kernel
theorem dL_denialDetail_8 : decode cL_denialDetail 8 = .ok (.goto 6, 3) := by decide +kernel
theorem dL_denialDetail_11 : decode cL_denialDetail 11 = .ok (.astore_n 2, 1) := by decide +kernel
theorem dL_denialDetail_12 : decode cL_denialDetail 12 = .ok (.iconst 1, 1) := by decide +kernel
theorem dL_denialDetail_13 : decode cL_denialDetail 13 = .ok (.ireturn, 1) := by decide +kernel
theorem dL_denialDetail_14 : decode cL_denialDetail 14 = .ok (.iconst 0, 1) := by decide +kernel
theorem dL_denialDetail_15 : decode cL_denialDetail 15 = .ok (.ireturn, 1) := by decide +kernel
theorem dL_denialCause_0 : decode cL_denialCause 0 = .ok (.aload_n 1, 1) := by decide +kernel
theorem dL_denialCause_1 : decode cL_denialCause 1 = .ok (.iconst 0, 1) := by decide +kernel
theorem dL_denialCause_2 : decode cL_denialCause 2 = .ok (.aload_n 0, 1) := by decide +kernel
theorem dL_denialCause_3 : decode cL_denialCause 3 = .ok (.invokevirtual 125, 3) := by decide +kernel
theorem dL_denialCause_6 : decode cL_denialCause 6 = .ok (.i2l, 1) := by decide +kernel
theorem dL_denialCause_7 : decode cL_denialCause 7 = .ok (.lastore, 1) := by decide +kernel
theorem dL_denialCause_8 : decode cL_denialCause 8 = .ok (.goto 6, 3) := by decide +kernel
theorem dL_denialCause_11 : decode cL_denialCause 11 = .ok (.astore_n 2, 1) := by decide +kernel
theorem dL_denialCause_12 : decode cL_denialCause 12 = .ok (.iconst 1, 1) := by decide +kernel
theorem dL_denialCause_13 : decode cL_denialCause 13 = .ok (.ireturn, 1) := by decide +kernel
theorem dL_denialCause_14 : decode cL_denialCause 14 = .ok (.iconst 0, 1) := by decide +kernel
theorem dL_denialCause_15 : decode cL_denialCause 15 = .ok (.ireturn, 1) := by decide +kernel
theorem dL_undo_0 : decode cL_undo 0 = .ok (.aload_n 1, 1) := by decide +kernel
theorem dL_undo_1 : decode cL_undo 1 = .ok (.iconst 0, 1) := by decide +kernel
theorem dL_undo_2 : decode cL_undo 2 = .ok (.aload_n 0, 1) := by decide +kernel
theorem dL_undo_3 : decode cL_undo 3 = .ok (.invokevirtual 128, 3) := by decide +kernel
theorem dL_undo_6 : decode cL_undo 6 = .ok (.i2l, 1) := by decide +kernel
theorem dL_undo_7 : decode cL_undo 7 = .ok (.lastore, 1) := by decide +kernel
theorem dL_undo_8 : decode cL_undo 8 = .ok (.goto 6, 3) := by decide +kernel
theorem dL_undo_11 : decode cL_undo 11 = .ok (.astore_n 2, 1) := by decide +kernel
theorem dL_undo_12 : decode cL_undo 12 = .ok (.iconst 1, 1) := by decide +kernel
theorem dL_undo_13 : decode cL_undo 13 = .ok (.ireturn, 1) := by decide +kernel
theorem dL_undo_14 : decode cL_undo 14 = .ok (.iconst 0, 1) := by decide +kernel
theorem dL_undo_15 : decode cL_undo 15 = .ok (.ireturn, 1) := by decide +kernel
theorem dL_restoreSnapshot_0 : decode cL_restoreSnapshot 0 = .ok (.aload_n 1, 1) := by decide +kernel
theorem dL_restoreSnapshot_1 : decode cL_restoreSnapshot 1 = .ok (.iconst 0, 1) := by decide +kernel
theorem dL_restoreSnapshot_2 : decode cL_restoreSnapshot 2 = .ok (.aload_n 0, 1) := by decide +kernel
theorem dL_restoreSnapshot_3 : decode cL_restoreSnapshot 3 = .ok (.invokevirtual 131, 3) := by decide +kernel
theorem dL_restoreSnapshot_6 : decode cL_restoreSnapshot 6 = .ok (.i2l, 1) := by decide +kernel
theorem dL_restoreSnapshot_7 : decode cL_restoreSnapshot 7 = .ok (.lastore, 1) := by decide +kernel
theorem dL_restoreSnapshot_8 : decode cL_restoreSnapshot 8 = .ok (.goto 6, 3) := by decide +kernel
theorem dL_restoreSnapshot_11 : decode cL_restoreSnapshot 11 = .ok (.astore_n 2, 1) := by decide +kernel
theorem dL_restoreSnapshot_12 : decode cL_restoreSnapshot 12 = .ok (.iconst 1, 1) := by decide +kernel
theorem dL_restoreSnapshot_13 : decode cL_restoreSnapshot 13 = .ok (.ireturn, 1) := by decide +kernel
theorem dL_restoreSnapshot_14 : decode cL_restoreSnapshot 14 = .ok (.iconst 0, 1) := by decide +kernel
theorem dL_restoreSnapshot_15 : decode cL_restoreSnapshot 15 = .ok (.ireturn, 1) := by decide +kernel
theorem dL_law_0 : decode cL_law 0 = .ok (.new 8, 3) := by decide +kernel
theorem dL_law_3 : decode cL_law 3 = .ok (.dup, 1) := by decide +kernel
theorem dL_law_4 : decode cL_law 4 = .ok (.invokespecial 134, 3) := by decide +kernel
theorem dL_law_7 : decode cL_law 7 = .ok (.astore_n 1, 1) := by decide +kernel
theorem dL_law_8 : decode cL_law 8 = .ok (.new 135, 3) := by decide +kernel
theorem dL_law_11 : decode cL_law 11 = .ok (.dup, 1) := by decide +kernel
theorem dL_law_12 : decode cL_law 12 = .ok (.invokespecial 137, 3) := by decide +kernel
theorem dL_law_15 : decode cL_law 15 = .ok (.astore_n 2, 1) := by decide +kernel
theorem dL_law_16 : decode cL_law 16 = .ok (.iconst 1, 1) := by decide +kernel
theorem dL_law_17 : decode cL_law 17 = .ok (.newarray .long, 2) := by decide +kernel
theorem dL_law_19 : decode cL_law 19 = .ok (.astore_n 3, 1) := by decide +kernel
theorem dL_law_20 : decode cL_law 20 = .ok (.iconst 1, 1) := by decide +kernel
theorem dL_law_21 : decode cL_law 21 = .ok (.newarray .double, 2) := by decide +kernel
theorem dL_law_23 : decode cL_law 23 = .ok (.astore 4, 2) := by decide +kernel
theorem dL_law_25 : decode cL_law 25 = .ok (.iconst 0, 1) := by decide +kernel
theorem dL_law_26 : decode cL_law 26 = .ok (.istore 5, 2) := by decide +kernel
theorem dL_law_28 : decode cL_law 28 = .ok (.iload 5, 2) := by decide +kernel
theorem dL_law_30 : decode cL_law 30 = .ok (.aload_n 0, 1) := by decide +kernel
theorem dL_law_31 : decode cL_law 31 = .ok (.arraylength, 1) := by decide +kernel
theorem dL_law_32 : decode cL_law 32 = .ok (.iconst 4, 1) := by decide +kernel
theorem dL_law_33 : decode cL_law 33 = .ok (.isub, 1) := by decide +kernel
theorem dL_law_34 : decode cL_law 34 = .ok (.if_icmp .gt 2330, 3) := by decide +kernel
theorem dL_law_37 : decode cL_law 37 = .ok (.aload_n 0, 1) := by decide +kernel
theorem dL_law_38 : decode cL_law 38 = .ok (.iload 5, 2) := by decide +kernel
theorem dL_law_40 : decode cL_law 40 = .ok (.iaload, 1) := by decide +kernel
theorem dL_law_41 : decode cL_law 41 = .ok (.bipush 63, 2) := by decide +kernel
theorem dL_law_43 : decode cL_law 43 = .ok (.iand, 1) := by decide +kernel
theorem dL_law_44 : decode cL_law 44 = .ok (.tableswitch 2314 0 48 #[212, 308, 376, 432, 488, 501, 514, 570, 626, 682, 738, 794, 862, 918, 962, 975, 1038, 1051, 1064, 1132, 1145, 1158, 1171, 1184, 1228, 1272, 1285, 1298, 1376, 1432, 1509, 1553, 1597, 1662, 1728, 1741, 1797, 1810, 1868, 1912, 1956, 2012, 2068, 2112, 2156, 2200, 2244, 2257, 2270], 212) := by decide +kernel
theorem dL_law_256 : decode cL_law 256 = .ok (.aload_n 1, 1) := by decide +kernel
theorem dL_law_257 : decode cL_law 257 = .ok (.aload_n 0, 1) := by decide +kernel
theorem dL_law_258 : decode cL_law 258 = .ok (.iload 5, 2) := by decide +kernel
theorem dL_law_260 : decode cL_law 260 = .ok (.iconst 1, 1) := by decide +kernel
theorem dL_law_261 : decode cL_law 261 = .ok (.iadd, 1) := by decide +kernel
theorem dL_law_262 : decode cL_law 262 = .ok (.iaload, 1) := by decide +kernel
theorem dL_law_263 : decode cL_law 263 = .ok (.aload_n 0, 1) := by decide +kernel
theorem dL_law_264 : decode cL_law 264 = .ok (.iload 5, 2) := by decide +kernel
theorem dL_law_266 : decode cL_law 266 = .ok (.iconst 2, 1) := by decide +kernel
theorem dL_law_267 : decode cL_law 267 = .ok (.iadd, 1) := by decide +kernel
theorem dL_law_268 : decode cL_law 268 = .ok (.iaload, 1) := by decide +kernel
theorem dL_law_269 : decode cL_law 269 = .ok (.aload_n 0, 1) := by decide +kernel
theorem dL_law_270 : decode cL_law 270 = .ok (.iload 5, 2) := by decide +kernel
theorem dL_law_272 : decode cL_law 272 = .ok (.iconst 3, 1) := by decide +kernel
theorem dL_law_273 : decode cL_law 273 = .ok (.iadd, 1) := by decide +kernel
theorem dL_law_274 : decode cL_law 274 = .ok (.iaload, 1) := by decide +kernel
theorem dL_law_275 : decode cL_law 275 = .ok (.ifCond .eq 7, 3) := by decide +kernel
theorem dL_law_278 : decode cL_law 278 = .ok (.iconst 1, 1) := by decide +kernel
theorem dL_law_279 : decode cL_law 279 = .ok (.goto 4, 3) := by decide +kernel
theorem dL_law_282 : decode cL_law 282 = .ok (.iconst 0, 1) := by decide +kernel
theorem dL_law_283 : decode cL_law 283 = .ok (.aload_n 3, 1) := by decide +kernel
theorem dL_law_284 : decode cL_law 284 = .ok (.invokestatic 138, 3) := by decide +kernel
theorem dL_law_287 : decode cL_law 287 = .ok (.istore 6, 2) := by decide +kernel
theorem dL_law_289 : decode cL_law 289 = .ok (.aload_n 2, 1) := by decide +kernel
theorem dL_law_290 : decode cL_law 290 = .ok (.aload_n 0, 1) := by decide +kernel
theorem dL_law_291 : decode cL_law 291 = .ok (.iload 5, 2) := by decide +kernel
theorem dL_law_293 : decode cL_law 293 = .ok (.iconst 1, 1) := by decide +kernel
theorem dL_law_294 : decode cL_law 294 = .ok (.iadd, 1) := by decide +kernel
theorem dL_law_295 : decode cL_law 295 = .ok (.iaload, 1) := by decide +kernel
theorem dL_law_296 : decode cL_law 296 = .ok (.aload_n 0, 1) := by decide +kernel
theorem dL_law_297 : decode cL_law 297 = .ok (.iload 5, 2) := by decide +kernel
theorem dL_law_299 : decode cL_law 299 = .ok (.iconst 2, 1) := by decide +kernel
theorem dL_law_300 : decode cL_law 300 = .ok (.iadd, 1) := by decide +kernel
theorem dL_law_301 : decode cL_law 301 = .ok (.iaload, 1) := by decide +kernel
theorem dL_law_302 : decode cL_law 302 = .ok (.aload_n 0, 1) := by decide +kernel
theorem dL_law_303 : decode cL_law 303 = .ok (.iload 5, 2) := by decide +kernel
theorem dL_law_305 : decode cL_law 305 = .ok (.iconst 3, 1) := by decide +kernel
theorem dL_law_306 : decode cL_law 306 = .ok (.iadd, 1) := by decide +kernel
theorem dL_law_307 : decode cL_law 307 = .ok (.iaload, 1) := by decide +kernel
theorem dL_law_308 : decode cL_law 308 = .ok (.ifCond .eq 7, 3) := by decide +kernel
theorem dL_law_311 : decode cL_law 311 = .ok (.iconst 1, 1) := by decide +kernel
theorem dL_law_312 : decode cL_law 312 = .ok (.goto 4, 3) := by decide +kernel
theorem dL_law_315 : decode cL_law 315 = .ok (.iconst 0, 1) := by decide +kernel
theorem dL_law_316 : decode cL_law 316 = .ok (.invokevirtual 143, 3) := by decide +kernel
theorem dL_law_319 : decode cL_law 319 = .ok (.istore 7, 2) := by decide +kernel
theorem dL_law_321 : decode cL_law 321 = .ok (.aload_n 2, 1) := by decide +kernel
theorem dL_law_322 : decode cL_law 322 = .ok (.invokevirtual 144, 3) := by decide +kernel
theorem dL_law_325 : decode cL_law 325 = .ok (.iload 6, 2) := by decide +kernel
theorem dL_law_327 : decode cL_law 327 = .ok (.if_icmp .eq 5, 3) := by decide +kernel
theorem dL_law_330 : decode cL_law 330 = .ok (.iconst 0, 1) := by decide +kernel
theorem dL_law_331 : decode cL_law 331 = .ok (.ireturn, 1) := by decide +kernel
theorem dL_law_332 : decode cL_law 332 = .ok (.iload 6, 2) := by decide +kernel
theorem dL_law_334 : decode cL_law 334 = .ok (.ifCond .ne 15, 3) := by decide +kernel
theorem dL_law_337 : decode cL_law 337 = .ok (.aload_n 3, 1) := by decide +kernel
theorem dL_law_338 : decode cL_law 338 = .ok (.iconst 0, 1) := by decide +kernel
theorem dL_law_339 : decode cL_law 339 = .ok (.laload, 1) := by decide +kernel
theorem dL_law_340 : decode cL_law 340 = .ok (.iload 7, 2) := by decide +kernel
theorem dL_law_342 : decode cL_law 342 = .ok (.i2l, 1) := by decide +kernel
theorem dL_law_343 : decode cL_law 343 = .ok (.lcmp, 1) := by decide +kernel
theorem dL_law_344 : decode cL_law 344 = .ok (.ifCond .eq 5, 3) := by decide +kernel
theorem dL_law_347 : decode cL_law 347 = .ok (.iconst 0, 1) := by decide +kernel
theorem dL_law_348 : decode cL_law 348 = .ok (.ireturn, 1) := by decide +kernel
theorem dL_law_349 : decode cL_law 349 = .ok (.goto 2009, 3) := by decide +kernel
theorem dL_law_352 : decode cL_law 352 = .ok (.aload_n 1, 1) := by decide +kernel
theorem dL_law_353 : decode cL_law 353 = .ok (.aload_n 0, 1) := by decide +kernel
theorem dL_law_354 : decode cL_law 354 = .ok (.iload 5, 2) := by decide +kernel
theorem dL_law_356 : decode cL_law 356 = .ok (.iconst 1, 1) := by decide +kernel
theorem dL_law_357 : decode cL_law 357 = .ok (.iadd, 1) := by decide +kernel
theorem dL_law_358 : decode cL_law 358 = .ok (.iaload, 1) := by decide +kernel
theorem dL_law_359 : decode cL_law 359 = .ok (.aload_n 0, 1) := by decide +kernel
theorem dL_law_360 : decode cL_law 360 = .ok (.iload 5, 2) := by decide +kernel
theorem dL_law_362 : decode cL_law 362 = .ok (.iconst 2, 1) := by decide +kernel
theorem dL_law_363 : decode cL_law 363 = .ok (.iadd, 1) := by decide +kernel
theorem dL_law_364 : decode cL_law 364 = .ok (.iaload, 1) := by decide +kernel
theorem dL_law_365 : decode cL_law 365 = .ok (.aload_n 3, 1) := by decide +kernel
theorem dL_law_366 : decode cL_law 366 = .ok (.invokestatic 147, 3) := by decide +kernel
theorem dL_law_369 : decode cL_law 369 = .ok (.istore 6, 2) := by decide +kernel
theorem dL_law_371 : decode cL_law 371 = .ok (.aload_n 2, 1) := by decide +kernel
theorem dL_law_372 : decode cL_law 372 = .ok (.aload_n 0, 1) := by decide +kernel
theorem dL_law_373 : decode cL_law 373 = .ok (.iload 5, 2) := by decide +kernel
theorem dL_law_375 : decode cL_law 375 = .ok (.iconst 1, 1) := by decide +kernel
theorem dL_law_376 : decode cL_law 376 = .ok (.iadd, 1) := by decide +kernel
theorem dL_law_377 : decode cL_law 377 = .ok (.iaload, 1) := by decide +kernel
theorem dL_law_378 : decode cL_law 378 = .ok (.aload_n 0, 1) := by decide +kernel
theorem dL_law_379 : decode cL_law 379 = .ok (.iload 5, 2) := by decide +kernel
theorem dL_law_381 : decode cL_law 381 = .ok (.iconst 2, 1) := by decide +kernel
theorem dL_law_382 : decode cL_law 382 = .ok (.iadd, 1) := by decide +kernel
theorem dL_law_383 : decode cL_law 383 = .ok (.iaload, 1) := by decide +kernel
theorem dL_law_384 : decode cL_law 384 = .ok (.invokevirtual 150, 3) := by decide +kernel
theorem dL_law_387 : decode cL_law 387 = .ok (.istore 7, 2) := by decide +kernel
theorem dL_law_389 : decode cL_law 389 = .ok (.aload_n 2, 1) := by decide +kernel
theorem dL_law_390 : decode cL_law 390 = .ok (.invokevirtual 144, 3) := by decide +kernel
theorem dL_law_393 : decode cL_law 393 = .ok (.iload 6, 2) := by decide +kernel
theorem dL_law_395 : decode cL_law 395 = .ok (.if_icmp .eq 5, 3) := by decide +kernel
theorem dL_law_398 : decode cL_law 398 = .ok (.iconst 0, 1) := by decide +kernel
theorem dL_law_399 : decode cL_law 399 = .ok (.ireturn, 1) := by decide +kernel
theorem dL_law_400 : decode cL_law 400 = .ok (.iload 6, 2) := by decide +kernel
theorem dL_law_402 : decode cL_law 402 = .ok (.ifCond .ne 15, 3) := by decide +kernel
theorem dL_law_405 : decode cL_law 405 = .ok (.aload_n 3, 1) := by decide +kernel
theorem dL_law_406 : decode cL_law 406 = .ok (.iconst 0, 1) := by decide +kernel
theorem dL_law_407 : decode cL_law 407 = .ok (.laload, 1) := by decide +kernel
theorem dL_law_408 : decode cL_law 408 = .ok (.iload 7, 2) := by decide +kernel
theorem dL_law_410 : decode cL_law 410 = .ok (.i2l, 1) := by decide +kernel
theorem dL_law_411 : decode cL_law 411 = .ok (.lcmp, 1) := by decide +kernel
theorem dL_law_412 : decode cL_law 412 = .ok (.ifCond .eq 5, 3) := by decide +kernel
theorem dL_law_415 : decode cL_law 415 = .ok (.iconst 0, 1) := by decide +kernel
theorem dL_law_416 : decode cL_law 416 = .ok (.ireturn, 1) := by decide +kernel
theorem dL_law_417 : decode cL_law 417 = .ok (.goto 1941, 3) := by decide +kernel
theorem dL_law_420 : decode cL_law 420 = .ok (.aload_n 1, 1) := by decide +kernel
theorem dL_law_421 : decode cL_law 421 = .ok (.aload_n 0, 1) := by decide +kernel
theorem dL_law_422 : decode cL_law 422 = .ok (.iload 5, 2) := by decide +kernel
theorem dL_law_424 : decode cL_law 424 = .ok (.iconst 1, 1) := by decide +kernel
theorem dL_law_425 : decode cL_law 425 = .ok (.iadd, 1) := by decide +kernel
theorem dL_law_426 : decode cL_law 426 = .ok (.iaload, 1) := by decide +kernel
theorem dL_law_427 : decode cL_law 427 = .ok (.aload_n 3, 1) := by decide +kernel
theorem dL_law_428 : decode cL_law 428 = .ok (.invokestatic 151, 3) := by decide +kernel
theorem dL_law_431 : decode cL_law 431 = .ok (.istore 6, 2) := by decide +kernel
theorem dL_law_433 : decode cL_law 433 = .ok (.aload_n 2, 1) := by decide +kernel
theorem dL_law_434 : decode cL_law 434 = .ok (.aload_n 0, 1) := by decide +kernel
theorem dL_law_435 : decode cL_law 435 = .ok (.iload 5, 2) := by decide +kernel
theorem dL_law_437 : decode cL_law 437 = .ok (.iconst 1, 1) := by decide +kernel
theorem dL_law_438 : decode cL_law 438 = .ok (.iadd, 1) := by decide +kernel
theorem dL_law_439 : decode cL_law 439 = .ok (.iaload, 1) := by decide +kernel
theorem dL_law_440 : decode cL_law 440 = .ok (.invokevirtual 154, 3) := by decide +kernel
theorem dL_law_443 : decode cL_law 443 = .ok (.istore 7, 2) := by decide +kernel
theorem dL_law_445 : decode cL_law 445 = .ok (.aload_n 2, 1) := by decide +kernel
theorem dL_law_446 : decode cL_law 446 = .ok (.invokevirtual 144, 3) := by decide +kernel
theorem dL_law_449 : decode cL_law 449 = .ok (.iload 6, 2) := by decide +kernel
theorem dL_law_451 : decode cL_law 451 = .ok (.if_icmp .eq 5, 3) := by decide +kernel
theorem dL_law_454 : decode cL_law 454 = .ok (.iconst 0, 1) := by decide +kernel
theorem dL_law_455 : decode cL_law 455 = .ok (.ireturn, 1) := by decide +kernel
theorem dL_law_456 : decode cL_law 456 = .ok (.iload 6, 2) := by decide +kernel
theorem dL_law_458 : decode cL_law 458 = .ok (.ifCond .ne 15, 3) := by decide +kernel
theorem dL_law_461 : decode cL_law 461 = .ok (.aload_n 3, 1) := by decide +kernel
theorem dL_law_462 : decode cL_law 462 = .ok (.iconst 0, 1) := by decide +kernel
theorem dL_law_463 : decode cL_law 463 = .ok (.laload, 1) := by decide +kernel
theorem dL_law_464 : decode cL_law 464 = .ok (.iload 7, 2) := by decide +kernel
theorem dL_law_466 : decode cL_law 466 = .ok (.i2l, 1) := by decide +kernel
theorem dL_law_467 : decode cL_law 467 = .ok (.lcmp, 1) := by decide +kernel
theorem dL_law_468 : decode cL_law 468 = .ok (.ifCond .eq 5, 3) := by decide +kernel
theorem dL_law_471 : decode cL_law 471 = .ok (.iconst 0, 1) := by decide +kernel
theorem dL_law_472 : decode cL_law 472 = .ok (.ireturn, 1) := by decide +kernel
theorem dL_law_473 : decode cL_law 473 = .ok (.goto 1885, 3) := by decide +kernel
theorem dL_law_476 : decode cL_law 476 = .ok (.aload_n 1, 1) := by decide +kernel
theorem dL_law_477 : decode cL_law 477 = .ok (.aload_n 0, 1) := by decide +kernel
theorem dL_law_478 : decode cL_law 478 = .ok (.iload 5, 2) := by decide +kernel
theorem dL_law_480 : decode cL_law 480 = .ok (.iconst 1, 1) := by decide +kernel
theorem dL_law_481 : decode cL_law 481 = .ok (.iadd, 1) := by decide +kernel
theorem dL_law_482 : decode cL_law 482 = .ok (.iaload, 1) := by decide +kernel
theorem dL_law_483 : decode cL_law 483 = .ok (.aload_n 3, 1) := by decide +kernel
theorem dL_law_484 : decode cL_law 484 = .ok (.invokestatic 155, 3) := by decide +kernel
theorem dL_law_487 : decode cL_law 487 = .ok (.istore 6, 2) := by decide +kernel
theorem dL_law_489 : decode cL_law 489 = .ok (.aload_n 2, 1) := by decide +kernel
theorem dL_law_490 : decode cL_law 490 = .ok (.aload_n 0, 1) := by decide +kernel
theorem dL_law_491 : decode cL_law 491 = .ok (.iload 5, 2) := by decide +kernel
theorem dL_law_493 : decode cL_law 493 = .ok (.iconst 1, 1) := by decide +kernel
theorem dL_law_494 : decode cL_law 494 = .ok (.iadd, 1) := by decide +kernel
theorem dL_law_495 : decode cL_law 495 = .ok (.iaload, 1) := by decide +kernel
theorem dL_law_496 : decode cL_law 496 = .ok (.invokevirtual 157, 3) := by decide +kernel
theorem dL_law_499 : decode cL_law 499 = .ok (.istore 7, 2) := by decide +kernel
theorem dL_law_501 : decode cL_law 501 = .ok (.aload_n 2, 1) := by decide +kernel
theorem dL_law_502 : decode cL_law 502 = .ok (.invokevirtual 144, 3) := by decide +kernel
theorem dL_law_505 : decode cL_law 505 = .ok (.iload 6, 2) := by decide +kernel
theorem dL_law_507 : decode cL_law 507 = .ok (.if_icmp .eq 5, 3) := by decide +kernel
theorem dL_law_510 : decode cL_law 510 = .ok (.iconst 0, 1) := by decide +kernel
theorem dL_law_511 : decode cL_law 511 = .ok (.ireturn, 1) := by decide +kernel
theorem dL_law_512 : decode cL_law 512 = .ok (.iload 6, 2) := by decide +kernel
theorem dL_law_514 : decode cL_law 514 = .ok (.ifCond .ne 15, 3) := by decide +kernel
theorem dL_law_517 : decode cL_law 517 = .ok (.aload_n 3, 1) := by decide +kernel
theorem dL_law_518 : decode cL_law 518 = .ok (.iconst 0, 1) := by decide +kernel
theorem dL_law_519 : decode cL_law 519 = .ok (.laload, 1) := by decide +kernel
theorem dL_law_520 : decode cL_law 520 = .ok (.iload 7, 2) := by decide +kernel
theorem dL_law_522 : decode cL_law 522 = .ok (.i2l, 1) := by decide +kernel
theorem dL_law_523 : decode cL_law 523 = .ok (.lcmp, 1) := by decide +kernel
theorem dL_law_524 : decode cL_law 524 = .ok (.ifCond .eq 5, 3) := by decide +kernel
theorem dL_law_527 : decode cL_law 527 = .ok (.iconst 0, 1) := by decide +kernel
theorem dL_law_528 : decode cL_law 528 = .ok (.ireturn, 1) := by decide +kernel
theorem dL_law_529 : decode cL_law 529 = .ok (.goto 1829, 3) := by decide +kernel
theorem dL_law_532 : decode cL_law 532 = .ok (.aload_n 1, 1) := by decide +kernel
theorem dL_law_533 : decode cL_law 533 = .ok (.invokevirtual 158, 3) := by decide +kernel
theorem dL_law_536 : decode cL_law 536 = .ok (.aload_n 2, 1) := by decide +kernel
theorem dL_law_537 : decode cL_law 537 = .ok (.invokevirtual 161, 3) := by decide +kernel
theorem dL_law_540 : decode cL_law 540 = .ok (.if_icmp .eq 1818, 3) := by decide +kernel
theorem dL_law_543 : decode cL_law 543 = .ok (.iconst 0, 1) := by decide +kernel
theorem dL_law_544 : decode cL_law 544 = .ok (.ireturn, 1) := by decide +kernel
theorem dL_law_545 : decode cL_law 545 = .ok (.aload_n 1, 1) := by decide +kernel
theorem dL_law_546 : decode cL_law 546 = .ok (.invokevirtual 162, 3) := by decide +kernel
theorem dL_law_549 : decode cL_law 549 = .ok (.aload_n 2, 1) := by decide +kernel
theorem dL_law_550 : decode cL_law 550 = .ok (.invokevirtual 165, 3) := by decide +kernel
theorem dL_law_553 : decode cL_law 553 = .ok (.if_icmp .eq 1805, 3) := by decide +kernel
theorem dL_law_556 : decode cL_law 556 = .ok (.iconst 0, 1) := by decide +kernel
theorem dL_law_557 : decode cL_law 557 = .ok (.ireturn, 1) := by decide +kernel
theorem dL_law_558 : decode cL_law 558 = .ok (.aload_n 1, 1) := by decide +kernel
theorem dL_law_559 : decode cL_law 559 = .ok (.aload_n 0, 1) := by decide +kernel
theorem dL_law_560 : decode cL_law 560 = .ok (.iload 5, 2) := by decide +kernel
theorem dL_law_562 : decode cL_law 562 = .ok (.iconst 1, 1) := by decide +kernel
theorem dL_law_563 : decode cL_law 563 = .ok (.iadd, 1) := by decide +kernel
theorem dL_law_564 : decode cL_law 564 = .ok (.iaload, 1) := by decide +kernel
theorem dL_law_565 : decode cL_law 565 = .ok (.aload_n 3, 1) := by decide +kernel
theorem dL_law_566 : decode cL_law 566 = .ok (.invokestatic 166, 3) := by decide +kernel
theorem dL_law_569 : decode cL_law 569 = .ok (.istore 6, 2) := by decide +kernel
theorem dL_law_571 : decode cL_law 571 = .ok (.aload_n 2, 1) := by decide +kernel
theorem dL_law_572 : decode cL_law 572 = .ok (.aload_n 0, 1) := by decide +kernel
theorem dL_law_573 : decode cL_law 573 = .ok (.iload 5, 2) := by decide +kernel
theorem dL_law_575 : decode cL_law 575 = .ok (.iconst 1, 1) := by decide +kernel
theorem dL_law_576 : decode cL_law 576 = .ok (.iadd, 1) := by decide +kernel
theorem dL_law_577 : decode cL_law 577 = .ok (.iaload, 1) := by decide +kernel
theorem dL_law_578 : decode cL_law 578 = .ok (.invokevirtual 168, 3) := by decide +kernel
theorem dL_law_581 : decode cL_law 581 = .ok (.istore 7, 2) := by decide +kernel
theorem dL_law_583 : decode cL_law 583 = .ok (.aload_n 2, 1) := by decide +kernel
theorem dL_law_584 : decode cL_law 584 = .ok (.invokevirtual 144, 3) := by decide +kernel
theorem dL_law_587 : decode cL_law 587 = .ok (.iload 6, 2) := by decide +kernel
theorem dL_law_589 : decode cL_law 589 = .ok (.if_icmp .eq 5, 3) := by decide +kernel
theorem dL_law_592 : decode cL_law 592 = .ok (.iconst 0, 1) := by decide +kernel
theorem dL_law_593 : decode cL_law 593 = .ok (.ireturn, 1) := by decide +kernel
theorem dL_law_594 : decode cL_law 594 = .ok (.iload 6, 2) := by decide +kernel
theorem dL_law_596 : decode cL_law 596 = .ok (.ifCond .ne 15, 3) := by decide +kernel
theorem dL_law_599 : decode cL_law 599 = .ok (.aload_n 3, 1) := by decide +kernel
theorem dL_law_600 : decode cL_law 600 = .ok (.iconst 0, 1) := by decide +kernel
theorem dL_law_601 : decode cL_law 601 = .ok (.laload, 1) := by decide +kernel
theorem dL_law_602 : decode cL_law 602 = .ok (.iload 7, 2) := by decide +kernel
theorem dL_law_604 : decode cL_law 604 = .ok (.i2l, 1) := by decide +kernel
theorem dL_law_605 : decode cL_law 605 = .ok (.lcmp, 1) := by decide +kernel
theorem dL_law_606 : decode cL_law 606 = .ok (.ifCond .eq 5, 3) := by decide +kernel
theorem dL_law_609 : decode cL_law 609 = .ok (.iconst 0, 1) := by decide +kernel
theorem dL_law_610 : decode cL_law 610 = .ok (.ireturn, 1) := by decide +kernel
theorem dL_law_611 : decode cL_law 611 = .ok (.goto 1747, 3) := by decide +kernel
theorem dL_law_614 : decode cL_law 614 = .ok (.aload_n 1, 1) := by decide +kernel
theorem dL_law_615 : decode cL_law 615 = .ok (.aload_n 0, 1) := by decide +kernel
theorem dL_law_616 : decode cL_law 616 = .ok (.iload 5, 2) := by decide +kernel
theorem dL_law_618 : decode cL_law 618 = .ok (.iconst 1, 1) := by decide +kernel
theorem dL_law_619 : decode cL_law 619 = .ok (.iadd, 1) := by decide +kernel
theorem dL_law_620 : decode cL_law 620 = .ok (.iaload, 1) := by decide +kernel
theorem dL_law_621 : decode cL_law 621 = .ok (.aload_n 3, 1) := by decide +kernel
theorem dL_law_622 : decode cL_law 622 = .ok (.invokestatic 169, 3) := by decide +kernel
theorem dL_law_625 : decode cL_law 625 = .ok (.istore 6, 2) := by decide +kernel
theorem dL_law_627 : decode cL_law 627 = .ok (.aload_n 2, 1) := by decide +kernel
theorem dL_law_628 : decode cL_law 628 = .ok (.aload_n 0, 1) := by decide +kernel
theorem dL_law_629 : decode cL_law 629 = .ok (.iload 5, 2) := by decide +kernel
theorem dL_law_631 : decode cL_law 631 = .ok (.iconst 1, 1) := by decide +kernel
theorem dL_law_632 : decode cL_law 632 = .ok (.iadd, 1) := by decide +kernel
theorem dL_law_633 : decode cL_law 633 = .ok (.iaload, 1) := by decide +kernel
theorem dL_law_634 : decode cL_law 634 = .ok (.invokevirtual 171, 3) := by decide +kernel
theorem dL_law_637 : decode cL_law 637 = .ok (.istore 7, 2) := by decide +kernel
theorem dL_law_639 : decode cL_law 639 = .ok (.aload_n 2, 1) := by decide +kernel
theorem dL_law_640 : decode cL_law 640 = .ok (.invokevirtual 144, 3) := by decide +kernel
theorem dL_law_643 : decode cL_law 643 = .ok (.iload 6, 2) := by decide +kernel
theorem dL_law_645 : decode cL_law 645 = .ok (.if_icmp .eq 5, 3) := by decide +kernel
theorem dL_law_648 : decode cL_law 648 = .ok (.iconst 0, 1) := by decide +kernel
theorem dL_law_649 : decode cL_law 649 = .ok (.ireturn, 1) := by decide +kernel
theorem dL_law_650 : decode cL_law 650 = .ok (.iload 6, 2) := by decide +kernel
theorem dL_law_652 : decode cL_law 652 = .ok (.ifCond .ne 15, 3) := by decide +kernel
theorem dL_law_655 : decode cL_law 655 = .ok (.aload_n 3, 1) := by decide +kernel
theorem dL_law_656 : decode cL_law 656 = .ok (.iconst 0, 1) := by decide +kernel
theorem dL_law_657 : decode cL_law 657 = .ok (.laload, 1) := by decide +kernel
theorem dL_law_658 : decode cL_law 658 = .ok (.iload 7, 2) := by decide +kernel
theorem dL_law_660 : decode cL_law 660 = .ok (.i2l, 1) := by decide +kernel
theorem dL_law_661 : decode cL_law 661 = .ok (.lcmp, 1) := by decide +kernel
theorem dL_law_662 : decode cL_law 662 = .ok (.ifCond .eq 5, 3) := by decide +kernel
theorem dL_law_665 : decode cL_law 665 = .ok (.iconst 0, 1) := by decide +kernel
theorem dL_law_666 : decode cL_law 666 = .ok (.ireturn, 1) := by decide +kernel
theorem dL_law_667 : decode cL_law 667 = .ok (.goto 1691, 3) := by decide +kernel
theorem dL_law_670 : decode cL_law 670 = .ok (.aload_n 1, 1) := by decide +kernel
theorem dL_law_671 : decode cL_law 671 = .ok (.aload_n 0, 1) := by decide +kernel
theorem dL_law_672 : decode cL_law 672 = .ok (.iload 5, 2) := by decide +kernel
theorem dL_law_674 : decode cL_law 674 = .ok (.iconst 1, 1) := by decide +kernel
theorem dL_law_675 : decode cL_law 675 = .ok (.iadd, 1) := by decide +kernel
theorem dL_law_676 : decode cL_law 676 = .ok (.iaload, 1) := by decide +kernel
theorem dL_law_677 : decode cL_law 677 = .ok (.aload_n 3, 1) := by decide +kernel
theorem dL_law_678 : decode cL_law 678 = .ok (.invokestatic 172, 3) := by decide +kernel
theorem dL_law_681 : decode cL_law 681 = .ok (.istore 6, 2) := by decide +kernel
theorem dL_law_683 : decode cL_law 683 = .ok (.aload_n 2, 1) := by decide +kernel
theorem dL_law_684 : decode cL_law 684 = .ok (.aload_n 0, 1) := by decide +kernel
theorem dL_law_685 : decode cL_law 685 = .ok (.iload 5, 2) := by decide +kernel
theorem dL_law_687 : decode cL_law 687 = .ok (.iconst 1, 1) := by decide +kernel
theorem dL_law_688 : decode cL_law 688 = .ok (.iadd, 1) := by decide +kernel
theorem dL_law_689 : decode cL_law 689 = .ok (.iaload, 1) := by decide +kernel
theorem dL_law_690 : decode cL_law 690 = .ok (.invokevirtual 174, 3) := by decide +kernel
theorem dL_law_693 : decode cL_law 693 = .ok (.istore 7, 2) := by decide +kernel
theorem dL_law_695 : decode cL_law 695 = .ok (.aload_n 2, 1) := by decide +kernel
theorem dL_law_696 : decode cL_law 696 = .ok (.invokevirtual 144, 3) := by decide +kernel
theorem dL_law_699 : decode cL_law 699 = .ok (.iload 6, 2) := by decide +kernel
theorem dL_law_701 : decode cL_law 701 = .ok (.if_icmp .eq 5, 3) := by decide +kernel
theorem dL_law_704 : decode cL_law 704 = .ok (.iconst 0, 1) := by decide +kernel
theorem dL_law_705 : decode cL_law 705 = .ok (.ireturn, 1) := by decide +kernel
theorem dL_law_706 : decode cL_law 706 = .ok (.iload 6, 2) := by decide +kernel
theorem dL_law_708 : decode cL_law 708 = .ok (.ifCond .ne 15, 3) := by decide +kernel
theorem dL_law_711 : decode cL_law 711 = .ok (.aload_n 3, 1) := by decide +kernel
theorem dL_law_712 : decode cL_law 712 = .ok (.iconst 0, 1) := by decide +kernel
theorem dL_law_713 : decode cL_law 713 = .ok (.laload, 1) := by decide +kernel
theorem dL_law_714 : decode cL_law 714 = .ok (.iload 7, 2) := by decide +kernel
theorem dL_law_716 : decode cL_law 716 = .ok (.i2l, 1) := by decide +kernel
theorem dL_law_717 : decode cL_law 717 = .ok (.lcmp, 1) := by decide +kernel
theorem dL_law_718 : decode cL_law 718 = .ok (.ifCond .eq 5, 3) := by decide +kernel
theorem dL_law_721 : decode cL_law 721 = .ok (.iconst 0, 1) := by decide +kernel
theorem dL_law_722 : decode cL_law 722 = .ok (.ireturn, 1) := by decide +kernel
theorem dL_law_723 : decode cL_law 723 = .ok (.goto 1635, 3) := by decide +kernel
theorem dL_law_726 : decode cL_law 726 = .ok (.aload_n 1, 1) := by decide +kernel
theorem dL_law_727 : decode cL_law 727 = .ok (.aload_n 0, 1) := by decide +kernel
theorem dL_law_728 : decode cL_law 728 = .ok (.iload 5, 2) := by decide +kernel
theorem dL_law_730 : decode cL_law 730 = .ok (.iconst 1, 1) := by decide +kernel
theorem dL_law_731 : decode cL_law 731 = .ok (.iadd, 1) := by decide +kernel
theorem dL_law_732 : decode cL_law 732 = .ok (.iaload, 1) := by decide +kernel
theorem dL_law_733 : decode cL_law 733 = .ok (.aload_n 3, 1) := by decide +kernel
theorem dL_law_734 : decode cL_law 734 = .ok (.invokestatic 175, 3) := by decide +kernel
theorem dL_law_737 : decode cL_law 737 = .ok (.istore 6, 2) := by decide +kernel
theorem dL_law_739 : decode cL_law 739 = .ok (.aload_n 2, 1) := by decide +kernel
theorem dL_law_740 : decode cL_law 740 = .ok (.aload_n 0, 1) := by decide +kernel
theorem dL_law_741 : decode cL_law 741 = .ok (.iload 5, 2) := by decide +kernel
theorem dL_law_743 : decode cL_law 743 = .ok (.iconst 1, 1) := by decide +kernel
theorem dL_law_744 : decode cL_law 744 = .ok (.iadd, 1) := by decide +kernel
theorem dL_law_745 : decode cL_law 745 = .ok (.iaload, 1) := by decide +kernel
theorem dL_law_746 : decode cL_law 746 = .ok (.invokevirtual 177, 3) := by decide +kernel
theorem dL_law_749 : decode cL_law 749 = .ok (.istore 7, 2) := by decide +kernel
theorem dL_law_751 : decode cL_law 751 = .ok (.aload_n 2, 1) := by decide +kernel
theorem dL_law_752 : decode cL_law 752 = .ok (.invokevirtual 144, 3) := by decide +kernel
theorem dL_law_755 : decode cL_law 755 = .ok (.iload 6, 2) := by decide +kernel
theorem dL_law_757 : decode cL_law 757 = .ok (.if_icmp .eq 5, 3) := by decide +kernel
theorem dL_law_760 : decode cL_law 760 = .ok (.iconst 0, 1) := by decide +kernel
theorem dL_law_761 : decode cL_law 761 = .ok (.ireturn, 1) := by decide +kernel
theorem dL_law_762 : decode cL_law 762 = .ok (.iload 6, 2) := by decide +kernel
theorem dL_law_764 : decode cL_law 764 = .ok (.ifCond .ne 15, 3) := by decide +kernel
theorem dL_law_767 : decode cL_law 767 = .ok (.aload_n 3, 1) := by decide +kernel
theorem dL_law_768 : decode cL_law 768 = .ok (.iconst 0, 1) := by decide +kernel
theorem dL_law_769 : decode cL_law 769 = .ok (.laload, 1) := by decide +kernel
theorem dL_law_770 : decode cL_law 770 = .ok (.iload 7, 2) := by decide +kernel
theorem dL_law_772 : decode cL_law 772 = .ok (.i2l, 1) := by decide +kernel
theorem dL_law_773 : decode cL_law 773 = .ok (.lcmp, 1) := by decide +kernel
theorem dL_law_774 : decode cL_law 774 = .ok (.ifCond .eq 5, 3) := by decide +kernel
theorem dL_law_777 : decode cL_law 777 = .ok (.iconst 0, 1) := by decide +kernel
theorem dL_law_778 : decode cL_law 778 = .ok (.ireturn, 1) := by decide +kernel
theorem dL_law_779 : decode cL_law 779 = .ok (.goto 1579, 3) := by decide +kernel
theorem dL_law_782 : decode cL_law 782 = .ok (.aload_n 1, 1) := by decide +kernel
theorem dL_law_783 : decode cL_law 783 = .ok (.aload_n 0, 1) := by decide +kernel
theorem dL_law_784 : decode cL_law 784 = .ok (.iload 5, 2) := by decide +kernel
theorem dL_law_786 : decode cL_law 786 = .ok (.iconst 1, 1) := by decide +kernel
theorem dL_law_787 : decode cL_law 787 = .ok (.iadd, 1) := by decide +kernel
theorem dL_law_788 : decode cL_law 788 = .ok (.iaload, 1) := by decide +kernel
theorem dL_law_789 : decode cL_law 789 = .ok (.aload_n 3, 1) := by decide +kernel
theorem dL_law_790 : decode cL_law 790 = .ok (.invokestatic 178, 3) := by decide +kernel
theorem dL_law_793 : decode cL_law 793 = .ok (.istore 6, 2) := by decide +kernel
theorem dL_law_795 : decode cL_law 795 = .ok (.aload_n 2, 1) := by decide +kernel
theorem dL_law_796 : decode cL_law 796 = .ok (.aload_n 0, 1) := by decide +kernel
theorem dL_law_797 : decode cL_law 797 = .ok (.iload 5, 2) := by decide +kernel
theorem dL_law_799 : decode cL_law 799 = .ok (.iconst 1, 1) := by decide +kernel
theorem dL_law_800 : decode cL_law 800 = .ok (.iadd, 1) := by decide +kernel
theorem dL_law_801 : decode cL_law 801 = .ok (.iaload, 1) := by decide +kernel
theorem dL_law_802 : decode cL_law 802 = .ok (.invokevirtual 180, 3) := by decide +kernel
theorem dL_law_805 : decode cL_law 805 = .ok (.istore 7, 2) := by decide +kernel
theorem dL_law_807 : decode cL_law 807 = .ok (.aload_n 2, 1) := by decide +kernel
theorem dL_law_808 : decode cL_law 808 = .ok (.invokevirtual 144, 3) := by decide +kernel
theorem dL_law_811 : decode cL_law 811 = .ok (.iload 6, 2) := by decide +kernel
theorem dL_law_813 : decode cL_law 813 = .ok (.if_icmp .eq 5, 3) := by decide +kernel
theorem dL_law_816 : decode cL_law 816 = .ok (.iconst 0, 1) := by decide +kernel
theorem dL_law_817 : decode cL_law 817 = .ok (.ireturn, 1) := by decide +kernel
theorem dL_law_818 : decode cL_law 818 = .ok (.iload 6, 2) := by decide +kernel
theorem dL_law_820 : decode cL_law 820 = .ok (.ifCond .ne 15, 3) := by decide +kernel
theorem dL_law_823 : decode cL_law 823 = .ok (.aload_n 3, 1) := by decide +kernel
theorem dL_law_824 : decode cL_law 824 = .ok (.iconst 0, 1) := by decide +kernel
theorem dL_law_825 : decode cL_law 825 = .ok (.laload, 1) := by decide +kernel
theorem dL_law_826 : decode cL_law 826 = .ok (.iload 7, 2) := by decide +kernel
theorem dL_law_828 : decode cL_law 828 = .ok (.i2l, 1) := by decide +kernel
theorem dL_law_829 : decode cL_law 829 = .ok (.lcmp, 1) := by decide +kernel
theorem dL_law_830 : decode cL_law 830 = .ok (.ifCond .eq 5, 3) := by decide +kernel
theorem dL_law_833 : decode cL_law 833 = .ok (.iconst 0, 1) := by decide +kernel
theorem dL_law_834 : decode cL_law 834 = .ok (.ireturn, 1) := by decide +kernel
theorem dL_law_835 : decode cL_law 835 = .ok (.goto 1523, 3) := by decide +kernel
theorem dL_law_838 : decode cL_law 838 = .ok (.aload_n 1, 1) := by decide +kernel
theorem dL_law_839 : decode cL_law 839 = .ok (.aload_n 0, 1) := by decide +kernel
theorem dL_law_840 : decode cL_law 840 = .ok (.iload 5, 2) := by decide +kernel
theorem dL_law_842 : decode cL_law 842 = .ok (.iconst 1, 1) := by decide +kernel
theorem dL_law_843 : decode cL_law 843 = .ok (.iadd, 1) := by decide +kernel
theorem dL_law_844 : decode cL_law 844 = .ok (.iaload, 1) := by decide +kernel
theorem dL_law_845 : decode cL_law 845 = .ok (.aload_n 0, 1) := by decide +kernel
theorem dL_law_846 : decode cL_law 846 = .ok (.iload 5, 2) := by decide +kernel
theorem dL_law_848 : decode cL_law 848 = .ok (.iconst 2, 1) := by decide +kernel
theorem dL_law_849 : decode cL_law 849 = .ok (.iadd, 1) := by decide +kernel
theorem dL_law_850 : decode cL_law 850 = .ok (.iaload, 1) := by decide +kernel
theorem dL_law_851 : decode cL_law 851 = .ok (.aload_n 3, 1) := by decide +kernel
theorem dL_law_852 : decode cL_law 852 = .ok (.invokestatic 181, 3) := by decide +kernel
theorem dL_law_855 : decode cL_law 855 = .ok (.istore 6, 2) := by decide +kernel
theorem dL_law_857 : decode cL_law 857 = .ok (.aload_n 2, 1) := by decide +kernel
theorem dL_law_858 : decode cL_law 858 = .ok (.aload_n 0, 1) := by decide +kernel
theorem dL_law_859 : decode cL_law 859 = .ok (.iload 5, 2) := by decide +kernel
theorem dL_law_861 : decode cL_law 861 = .ok (.iconst 1, 1) := by decide +kernel
theorem dL_law_862 : decode cL_law 862 = .ok (.iadd, 1) := by decide +kernel
theorem dL_law_863 : decode cL_law 863 = .ok (.iaload, 1) := by decide +kernel
theorem dL_law_864 : decode cL_law 864 = .ok (.aload_n 0, 1) := by decide +kernel
theorem dL_law_865 : decode cL_law 865 = .ok (.iload 5, 2) := by decide +kernel
theorem dL_law_867 : decode cL_law 867 = .ok (.iconst 2, 1) := by decide +kernel
theorem dL_law_868 : decode cL_law 868 = .ok (.iadd, 1) := by decide +kernel
theorem dL_law_869 : decode cL_law 869 = .ok (.iaload, 1) := by decide +kernel
theorem dL_law_870 : decode cL_law 870 = .ok (.invokevirtual 183, 3) := by decide +kernel
theorem dL_law_873 : decode cL_law 873 = .ok (.istore 7, 2) := by decide +kernel
theorem dL_law_875 : decode cL_law 875 = .ok (.aload_n 2, 1) := by decide +kernel
theorem dL_law_876 : decode cL_law 876 = .ok (.invokevirtual 144, 3) := by decide +kernel
theorem dL_law_879 : decode cL_law 879 = .ok (.iload 6, 2) := by decide +kernel
theorem dL_law_881 : decode cL_law 881 = .ok (.if_icmp .eq 5, 3) := by decide +kernel
theorem dL_law_884 : decode cL_law 884 = .ok (.iconst 0, 1) := by decide +kernel
theorem dL_law_885 : decode cL_law 885 = .ok (.ireturn, 1) := by decide +kernel
theorem dL_law_886 : decode cL_law 886 = .ok (.iload 6, 2) := by decide +kernel
theorem dL_law_888 : decode cL_law 888 = .ok (.ifCond .ne 15, 3) := by decide +kernel
theorem dL_law_891 : decode cL_law 891 = .ok (.aload_n 3, 1) := by decide +kernel
theorem dL_law_892 : decode cL_law 892 = .ok (.iconst 0, 1) := by decide +kernel
theorem dL_law_893 : decode cL_law 893 = .ok (.laload, 1) := by decide +kernel
theorem dL_law_894 : decode cL_law 894 = .ok (.iload 7, 2) := by decide +kernel
theorem dL_law_896 : decode cL_law 896 = .ok (.i2l, 1) := by decide +kernel
theorem dL_law_897 : decode cL_law 897 = .ok (.lcmp, 1) := by decide +kernel
theorem dL_law_898 : decode cL_law 898 = .ok (.ifCond .eq 5, 3) := by decide +kernel
theorem dL_law_901 : decode cL_law 901 = .ok (.iconst 0, 1) := by decide +kernel
theorem dL_law_902 : decode cL_law 902 = .ok (.ireturn, 1) := by decide +kernel
theorem dL_law_903 : decode cL_law 903 = .ok (.goto 1455, 3) := by decide +kernel
theorem dL_law_906 : decode cL_law 906 = .ok (.aload_n 1, 1) := by decide +kernel
theorem dL_law_907 : decode cL_law 907 = .ok (.aload_n 0, 1) := by decide +kernel
theorem dL_law_908 : decode cL_law 908 = .ok (.iload 5, 2) := by decide +kernel
theorem dL_law_910 : decode cL_law 910 = .ok (.iconst 1, 1) := by decide +kernel
theorem dL_law_911 : decode cL_law 911 = .ok (.iadd, 1) := by decide +kernel
end
section
theorem dL_law_912 : decode cL_law 912 = .ok (.iaload, 1) := by decide +kernel
theorem dL_law_913 : decode cL_law 913 = .ok (.aload_n 3, 1) := by decide +kernel
theorem dL_law_914 : decode cL_law 914 = .ok (.invokestatic 184, 3) := by decide +kernel
theorem dL_law_917 : decode cL_law 917 = .ok (.istore 6, 2) := by decide +kernel
theorem dL_law_919 : decode cL_law 919 = .ok (.aload_n 2, 1) := by decide +kernel
theorem dL_law_920 : decode cL_law 920 = .ok (.aload_n 0, 1) := by decide +kernel
theorem dL_law_921 : decode cL_law 921 = .ok (.iload 5, 2) := by decide +kernel
theorem dL_law_923 : decode cL_law 923 = .ok (.iconst 1, 1) := by decide +kernel
theorem dL_law_924 : decode cL_law 924 = .ok (.iadd, 1) := by decide +kernel
theorem dL_law_925 : decode cL_law 925 = .ok (.iaload, 1) := by decide +kernel
theorem dL_law_926 : decode cL_law 926 = .ok (.invokevirtual 186, 3) := by decide +kernel
theorem dL_law_929 : decode cL_law 929 = .ok (.istore 7, 2) := by decide +kernel
theorem dL_law_931 : decode cL_law 931 = .ok (.aload_n 2, 1) := by decide +kernel
theorem dL_law_932 : decode cL_law 932 = .ok (.invokevirtual 144, 3) := by decide +kernel
theorem dL_law_935 : decode cL_law 935 = .ok (.iload 6, 2) := by decide +kernel
theorem dL_law_937 : decode cL_law 937 = .ok (.if_icmp .eq 5, 3) := by decide +kernel
theorem dL_law_940 : decode cL_law 940 = .ok (.iconst 0, 1) := by decide +kernel
theorem dL_law_941 : decode cL_law 941 = .ok (.ireturn, 1) := by decide +kernel
theorem dL_law_942 : decode cL_law 942 = .ok (.iload 6, 2) := by decide +kernel
theorem dL_law_944 : decode cL_law 944 = .ok (.ifCond .ne 15, 3) := by decide +kernel
theorem dL_law_947 : decode cL_law 947 = .ok (.aload_n 3, 1) := by decide +kernel
theorem dL_law_948 : decode cL_law 948 = .ok (.iconst 0, 1) := by decide +kernel
theorem dL_law_949 : decode cL_law 949 = .ok (.laload, 1) := by decide +kernel
theorem dL_law_950 : decode cL_law 950 = .ok (.iload 7, 2) := by decide +kernel
theorem dL_law_952 : decode cL_law 952 = .ok (.i2l, 1) := by decide +kernel
theorem dL_law_953 : decode cL_law 953 = .ok (.lcmp, 1) := by decide +kernel
theorem dL_law_954 : decode cL_law 954 = .ok (.ifCond .eq 5, 3) := by decide +kernel
theorem dL_law_957 : decode cL_law 957 = .ok (.iconst 0, 1) := by decide +kernel
theorem dL_law_958 : decode cL_law 958 = .ok (.ireturn, 1) := by decide +kernel
theorem dL_law_959 : decode cL_law 959 = .ok (.goto 1399, 3) := by decide +kernel
theorem dL_law_962 : decode cL_law 962 = .ok (.aload_n 1, 1) := by decide +kernel
theorem dL_law_963 : decode cL_law 963 = .ok (.aload_n 3, 1) := by decide +kernel
theorem dL_law_964 : decode cL_law 964 = .ok (.invokestatic 187, 3) := by decide +kernel
theorem dL_law_967 : decode cL_law 967 = .ok (.istore 6, 2) := by decide +kernel
theorem dL_law_969 : decode cL_law 969 = .ok (.aload_n 2, 1) := by decide +kernel
theorem dL_law_970 : decode cL_law 970 = .ok (.invokevirtual 190, 3) := by decide +kernel
theorem dL_law_973 : decode cL_law 973 = .ok (.istore 7, 2) := by decide +kernel
theorem dL_law_975 : decode cL_law 975 = .ok (.aload_n 2, 1) := by decide +kernel
theorem dL_law_976 : decode cL_law 976 = .ok (.invokevirtual 144, 3) := by decide +kernel
theorem dL_law_979 : decode cL_law 979 = .ok (.iload 6, 2) := by decide +kernel
theorem dL_law_981 : decode cL_law 981 = .ok (.if_icmp .eq 5, 3) := by decide +kernel
theorem dL_law_984 : decode cL_law 984 = .ok (.iconst 0, 1) := by decide +kernel
theorem dL_law_985 : decode cL_law 985 = .ok (.ireturn, 1) := by decide +kernel
theorem dL_law_986 : decode cL_law 986 = .ok (.iload 6, 2) := by decide +kernel
theorem dL_law_988 : decode cL_law 988 = .ok (.ifCond .ne 15, 3) := by decide +kernel
theorem dL_law_991 : decode cL_law 991 = .ok (.aload_n 3, 1) := by decide +kernel
theorem dL_law_992 : decode cL_law 992 = .ok (.iconst 0, 1) := by decide +kernel
theorem dL_law_993 : decode cL_law 993 = .ok (.laload, 1) := by decide +kernel
theorem dL_law_994 : decode cL_law 994 = .ok (.iload 7, 2) := by decide +kernel
theorem dL_law_996 : decode cL_law 996 = .ok (.i2l, 1) := by decide +kernel
theorem dL_law_997 : decode cL_law 997 = .ok (.lcmp, 1) := by decide +kernel
theorem dL_law_998 : decode cL_law 998 = .ok (.ifCond .eq 5, 3) := by decide +kernel
theorem dL_law_1001 : decode cL_law 1001 = .ok (.iconst 0, 1) := by decide +kernel
theorem dL_law_1002 : decode cL_law 1002 = .ok (.ireturn, 1) := by decide +kernel
theorem dL_law_1003 : decode cL_law 1003 = .ok (.goto 1355, 3) := by decide +kernel
theorem dL_law_1006 : decode cL_law 1006 = .ok (.aload_n 1, 1) := by decide +kernel
theorem dL_law_1007 : decode cL_law 1007 = .ok (.invokevirtual 191, 3) := by decide +kernel
theorem dL_law_1010 : decode cL_law 1010 = .ok (.aload_n 2, 1) := by decide +kernel
theorem dL_law_1011 : decode cL_law 1011 = .ok (.invokevirtual 194, 3) := by decide +kernel
theorem dL_law_1014 : decode cL_law 1014 = .ok (.if_icmp .eq 1344, 3) := by decide +kernel
theorem dL_law_1017 : decode cL_law 1017 = .ok (.iconst 0, 1) := by decide +kernel
theorem dL_law_1018 : decode cL_law 1018 = .ok (.ireturn, 1) := by decide +kernel
theorem dL_law_1019 : decode cL_law 1019 = .ok (.aload_n 1, 1) := by decide +kernel
theorem dL_law_1020 : decode cL_law 1020 = .ok (.aload_n 0, 1) := by decide +kernel
theorem dL_law_1021 : decode cL_law 1021 = .ok (.iload 5, 2) := by decide +kernel
theorem dL_law_1023 : decode cL_law 1023 = .ok (.iconst 1, 1) := by decide +kernel
theorem dL_law_1024 : decode cL_law 1024 = .ok (.iadd, 1) := by decide +kernel
theorem dL_law_1025 : decode cL_law 1025 = .ok (.iaload, 1) := by decide +kernel
theorem dL_law_1026 : decode cL_law 1026 = .ok (.aload_n 3, 1) := by decide +kernel
theorem dL_law_1027 : decode cL_law 1027 = .ok (.invokestatic 195, 3) := by decide +kernel
theorem dL_law_1030 : decode cL_law 1030 = .ok (.istore 6, 2) := by decide +kernel
theorem dL_law_1032 : decode cL_law 1032 = .ok (.aload_n 2, 1) := by decide +kernel
theorem dL_law_1033 : decode cL_law 1033 = .ok (.aload_n 0, 1) := by decide +kernel
theorem dL_law_1034 : decode cL_law 1034 = .ok (.iload 5, 2) := by decide +kernel
theorem dL_law_1036 : decode cL_law 1036 = .ok (.iconst 1, 1) := by decide +kernel
theorem dL_law_1037 : decode cL_law 1037 = .ok (.iadd, 1) := by decide +kernel
theorem dL_law_1038 : decode cL_law 1038 = .ok (.iaload, 1) := by decide +kernel
theorem dL_law_1039 : decode cL_law 1039 = .ok (.invokevirtual 197, 3) := by decide +kernel
theorem dL_law_1042 : decode cL_law 1042 = .ok (.istore 7, 2) := by decide +kernel
theorem dL_law_1044 : decode cL_law 1044 = .ok (.aload_n 2, 1) := by decide +kernel
theorem dL_law_1045 : decode cL_law 1045 = .ok (.invokevirtual 144, 3) := by decide +kernel
theorem dL_law_1048 : decode cL_law 1048 = .ok (.iload 6, 2) := by decide +kernel
theorem dL_law_1050 : decode cL_law 1050 = .ok (.if_icmp .eq 5, 3) := by decide +kernel
theorem dL_law_1053 : decode cL_law 1053 = .ok (.iconst 0, 1) := by decide +kernel
theorem dL_law_1054 : decode cL_law 1054 = .ok (.ireturn, 1) := by decide +kernel
theorem dL_law_1055 : decode cL_law 1055 = .ok (.iload 6, 2) := by decide +kernel
theorem dL_law_1057 : decode cL_law 1057 = .ok (.ifCond .ne 22, 3) := by decide +kernel
theorem dL_law_1060 : decode cL_law 1060 = .ok (.aload_n 3, 1) := by decide +kernel
theorem dL_law_1061 : decode cL_law 1061 = .ok (.iconst 0, 1) := by decide +kernel
theorem dL_law_1062 : decode cL_law 1062 = .ok (.laload, 1) := by decide +kernel
theorem dL_law_1063 : decode cL_law 1063 = .ok (.iload 7, 2) := by decide +kernel
theorem dL_law_1065 : decode cL_law 1065 = .ok (.ifCond .eq 7, 3) := by decide +kernel
theorem dL_law_1068 : decode cL_law 1068 = .ok (.lconst 1, 1) := by decide +kernel
theorem dL_law_1069 : decode cL_law 1069 = .ok (.goto 4, 3) := by decide +kernel
theorem dL_law_1072 : decode cL_law 1072 = .ok (.lconst 0, 1) := by decide +kernel
theorem dL_law_1073 : decode cL_law 1073 = .ok (.lcmp, 1) := by decide +kernel
theorem dL_law_1074 : decode cL_law 1074 = .ok (.ifCond .eq 5, 3) := by decide +kernel
theorem dL_law_1077 : decode cL_law 1077 = .ok (.iconst 0, 1) := by decide +kernel
theorem dL_law_1078 : decode cL_law 1078 = .ok (.ireturn, 1) := by decide +kernel
theorem dL_law_1079 : decode cL_law 1079 = .ok (.goto 1279, 3) := by decide +kernel
theorem dL_law_1082 : decode cL_law 1082 = .ok (.aload_n 1, 1) := by decide +kernel
theorem dL_law_1083 : decode cL_law 1083 = .ok (.invokevirtual 198, 3) := by decide +kernel
theorem dL_law_1086 : decode cL_law 1086 = .ok (.aload_n 2, 1) := by decide +kernel
theorem dL_law_1087 : decode cL_law 1087 = .ok (.invokevirtual 201, 3) := by decide +kernel
theorem dL_law_1090 : decode cL_law 1090 = .ok (.if_icmp .eq 1268, 3) := by decide +kernel
theorem dL_law_1093 : decode cL_law 1093 = .ok (.iconst 0, 1) := by decide +kernel
theorem dL_law_1094 : decode cL_law 1094 = .ok (.ireturn, 1) := by decide +kernel
theorem dL_law_1095 : decode cL_law 1095 = .ok (.aload_n 1, 1) := by decide +kernel
theorem dL_law_1096 : decode cL_law 1096 = .ok (.invokevirtual 202, 3) := by decide +kernel
theorem dL_law_1099 : decode cL_law 1099 = .ok (.aload_n 2, 1) := by decide +kernel
theorem dL_law_1100 : decode cL_law 1100 = .ok (.invokevirtual 205, 3) := by decide +kernel
theorem dL_law_1103 : decode cL_law 1103 = .ok (.if_icmp .eq 1255, 3) := by decide +kernel
theorem dL_law_1106 : decode cL_law 1106 = .ok (.iconst 0, 1) := by decide +kernel
theorem dL_law_1107 : decode cL_law 1107 = .ok (.ireturn, 1) := by decide +kernel
theorem dL_law_1108 : decode cL_law 1108 = .ok (.aload_n 1, 1) := by decide +kernel
theorem dL_law_1109 : decode cL_law 1109 = .ok (.aload_n 0, 1) := by decide +kernel
theorem dL_law_1110 : decode cL_law 1110 = .ok (.iload 5, 2) := by decide +kernel
theorem dL_law_1112 : decode cL_law 1112 = .ok (.iconst 1, 1) := by decide +kernel
theorem dL_law_1113 : decode cL_law 1113 = .ok (.iadd, 1) := by decide +kernel
theorem dL_law_1114 : decode cL_law 1114 = .ok (.iaload, 1) := by decide +kernel
theorem dL_law_1115 : decode cL_law 1115 = .ok (.aload_n 0, 1) := by decide +kernel
theorem dL_law_1116 : decode cL_law 1116 = .ok (.iload 5, 2) := by decide +kernel
theorem dL_law_1118 : decode cL_law 1118 = .ok (.iconst 2, 1) := by decide +kernel
theorem dL_law_1119 : decode cL_law 1119 = .ok (.iadd, 1) := by decide +kernel
theorem dL_law_1120 : decode cL_law 1120 = .ok (.iaload, 1) := by decide +kernel
theorem dL_law_1121 : decode cL_law 1121 = .ok (.aload_n 3, 1) := by decide +kernel
theorem dL_law_1122 : decode cL_law 1122 = .ok (.invokestatic 206, 3) := by decide +kernel
theorem dL_law_1125 : decode cL_law 1125 = .ok (.istore 6, 2) := by decide +kernel
theorem dL_law_1127 : decode cL_law 1127 = .ok (.aload_n 2, 1) := by decide +kernel
theorem dL_law_1128 : decode cL_law 1128 = .ok (.aload_n 0, 1) := by decide +kernel
theorem dL_law_1129 : decode cL_law 1129 = .ok (.iload 5, 2) := by decide +kernel
theorem dL_law_1131 : decode cL_law 1131 = .ok (.iconst 1, 1) := by decide +kernel
theorem dL_law_1132 : decode cL_law 1132 = .ok (.iadd, 1) := by decide +kernel
theorem dL_law_1133 : decode cL_law 1133 = .ok (.iaload, 1) := by decide +kernel
theorem dL_law_1134 : decode cL_law 1134 = .ok (.aload_n 0, 1) := by decide +kernel
theorem dL_law_1135 : decode cL_law 1135 = .ok (.iload 5, 2) := by decide +kernel
theorem dL_law_1137 : decode cL_law 1137 = .ok (.iconst 2, 1) := by decide +kernel
theorem dL_law_1138 : decode cL_law 1138 = .ok (.iadd, 1) := by decide +kernel
theorem dL_law_1139 : decode cL_law 1139 = .ok (.iaload, 1) := by decide +kernel
theorem dL_law_1140 : decode cL_law 1140 = .ok (.invokevirtual 208, 3) := by decide +kernel
theorem dL_law_1143 : decode cL_law 1143 = .ok (.istore 7, 2) := by decide +kernel
theorem dL_law_1145 : decode cL_law 1145 = .ok (.aload_n 2, 1) := by decide +kernel
theorem dL_law_1146 : decode cL_law 1146 = .ok (.invokevirtual 144, 3) := by decide +kernel
theorem dL_law_1149 : decode cL_law 1149 = .ok (.iload 6, 2) := by decide +kernel
theorem dL_law_1151 : decode cL_law 1151 = .ok (.if_icmp .eq 5, 3) := by decide +kernel
theorem dL_law_1154 : decode cL_law 1154 = .ok (.iconst 0, 1) := by decide +kernel
theorem dL_law_1155 : decode cL_law 1155 = .ok (.ireturn, 1) := by decide +kernel
theorem dL_law_1156 : decode cL_law 1156 = .ok (.iload 6, 2) := by decide +kernel
theorem dL_law_1158 : decode cL_law 1158 = .ok (.ifCond .ne 15, 3) := by decide +kernel
theorem dL_law_1161 : decode cL_law 1161 = .ok (.aload_n 3, 1) := by decide +kernel
theorem dL_law_1162 : decode cL_law 1162 = .ok (.iconst 0, 1) := by decide +kernel
theorem dL_law_1163 : decode cL_law 1163 = .ok (.laload, 1) := by decide +kernel
theorem dL_law_1164 : decode cL_law 1164 = .ok (.iload 7, 2) := by decide +kernel
theorem dL_law_1166 : decode cL_law 1166 = .ok (.i2l, 1) := by decide +kernel
theorem dL_law_1167 : decode cL_law 1167 = .ok (.lcmp, 1) := by decide +kernel
theorem dL_law_1168 : decode cL_law 1168 = .ok (.ifCond .eq 5, 3) := by decide +kernel
theorem dL_law_1171 : decode cL_law 1171 = .ok (.iconst 0, 1) := by decide +kernel
theorem dL_law_1172 : decode cL_law 1172 = .ok (.ireturn, 1) := by decide +kernel
theorem dL_law_1173 : decode cL_law 1173 = .ok (.goto 1185, 3) := by decide +kernel
theorem dL_law_1176 : decode cL_law 1176 = .ok (.aload_n 1, 1) := by decide +kernel
theorem dL_law_1177 : decode cL_law 1177 = .ok (.invokevirtual 209, 3) := by decide +kernel
theorem dL_law_1180 : decode cL_law 1180 = .ok (.aload_n 2, 1) := by decide +kernel
theorem dL_law_1181 : decode cL_law 1181 = .ok (.invokevirtual 212, 3) := by decide +kernel
theorem dL_law_1184 : decode cL_law 1184 = .ok (.if_icmp .eq 1174, 3) := by decide +kernel
theorem dL_law_1187 : decode cL_law 1187 = .ok (.iconst 0, 1) := by decide +kernel
theorem dL_law_1188 : decode cL_law 1188 = .ok (.ireturn, 1) := by decide +kernel
theorem dL_law_1189 : decode cL_law 1189 = .ok (.aload_n 1, 1) := by decide +kernel
theorem dL_law_1190 : decode cL_law 1190 = .ok (.invokevirtual 213, 3) := by decide +kernel
theorem dL_law_1193 : decode cL_law 1193 = .ok (.aload_n 2, 1) := by decide +kernel
theorem dL_law_1194 : decode cL_law 1194 = .ok (.invokevirtual 216, 3) := by decide +kernel
theorem dL_law_1197 : decode cL_law 1197 = .ok (.if_icmp .eq 1161, 3) := by decide +kernel
theorem dL_law_1200 : decode cL_law 1200 = .ok (.iconst 0, 1) := by decide +kernel
theorem dL_law_1201 : decode cL_law 1201 = .ok (.ireturn, 1) := by decide +kernel
theorem dL_law_1202 : decode cL_law 1202 = .ok (.aload_n 1, 1) := by decide +kernel
theorem dL_law_1203 : decode cL_law 1203 = .ok (.invokevirtual 217, 3) := by decide +kernel
theorem dL_law_1206 : decode cL_law 1206 = .ok (.aload_n 2, 1) := by decide +kernel
theorem dL_law_1207 : decode cL_law 1207 = .ok (.invokevirtual 221, 3) := by decide +kernel
theorem dL_law_1210 : decode cL_law 1210 = .ok (.if_icmp .eq 1148, 3) := by decide +kernel
theorem dL_law_1213 : decode cL_law 1213 = .ok (.iconst 0, 1) := by decide +kernel
theorem dL_law_1214 : decode cL_law 1214 = .ok (.ireturn, 1) := by decide +kernel
theorem dL_law_1215 : decode cL_law 1215 = .ok (.aload_n 1, 1) := by decide +kernel
theorem dL_law_1216 : decode cL_law 1216 = .ok (.invokevirtual 222, 3) := by decide +kernel
theorem dL_law_1219 : decode cL_law 1219 = .ok (.aload_n 2, 1) := by decide +kernel
theorem dL_law_1220 : decode cL_law 1220 = .ok (.invokevirtual 225, 3) := by decide +kernel
theorem dL_law_1223 : decode cL_law 1223 = .ok (.if_icmp .eq 1135, 3) := by decide +kernel
theorem dL_law_1226 : decode cL_law 1226 = .ok (.iconst 0, 1) := by decide +kernel
theorem dL_law_1227 : decode cL_law 1227 = .ok (.ireturn, 1) := by decide +kernel
theorem dL_law_1228 : decode cL_law 1228 = .ok (.aload_n 1, 1) := by decide +kernel
theorem dL_law_1229 : decode cL_law 1229 = .ok (.aload_n 3, 1) := by decide +kernel
theorem dL_law_1230 : decode cL_law 1230 = .ok (.invokestatic 226, 3) := by decide +kernel
theorem dL_law_1233 : decode cL_law 1233 = .ok (.istore 6, 2) := by decide +kernel
theorem dL_law_1235 : decode cL_law 1235 = .ok (.aload_n 2, 1) := by decide +kernel
theorem dL_law_1236 : decode cL_law 1236 = .ok (.invokevirtual 228, 3) := by decide +kernel
theorem dL_law_1239 : decode cL_law 1239 = .ok (.istore 7, 2) := by decide +kernel
theorem dL_law_1241 : decode cL_law 1241 = .ok (.aload_n 2, 1) := by decide +kernel
theorem dL_law_1242 : decode cL_law 1242 = .ok (.invokevirtual 144, 3) := by decide +kernel
theorem dL_law_1245 : decode cL_law 1245 = .ok (.iload 6, 2) := by decide +kernel
theorem dL_law_1247 : decode cL_law 1247 = .ok (.if_icmp .eq 5, 3) := by decide +kernel
theorem dL_law_1250 : decode cL_law 1250 = .ok (.iconst 0, 1) := by decide +kernel
theorem dL_law_1251 : decode cL_law 1251 = .ok (.ireturn, 1) := by decide +kernel
theorem dL_law_1252 : decode cL_law 1252 = .ok (.iload 6, 2) := by decide +kernel
theorem dL_law_1254 : decode cL_law 1254 = .ok (.ifCond .ne 15, 3) := by decide +kernel
theorem dL_law_1257 : decode cL_law 1257 = .ok (.aload_n 3, 1) := by decide +kernel
theorem dL_law_1258 : decode cL_law 1258 = .ok (.iconst 0, 1) := by decide +kernel
theorem dL_law_1259 : decode cL_law 1259 = .ok (.laload, 1) := by decide +kernel
theorem dL_law_1260 : decode cL_law 1260 = .ok (.iload 7, 2) := by decide +kernel
theorem dL_law_1262 : decode cL_law 1262 = .ok (.i2l, 1) := by decide +kernel
theorem dL_law_1263 : decode cL_law 1263 = .ok (.lcmp, 1) := by decide +kernel
theorem dL_law_1264 : decode cL_law 1264 = .ok (.ifCond .eq 5, 3) := by decide +kernel
theorem dL_law_1267 : decode cL_law 1267 = .ok (.iconst 0, 1) := by decide +kernel
theorem dL_law_1268 : decode cL_law 1268 = .ok (.ireturn, 1) := by decide +kernel
theorem dL_law_1269 : decode cL_law 1269 = .ok (.goto 1089, 3) := by decide +kernel
theorem dL_law_1272 : decode cL_law 1272 = .ok (.aload_n 1, 1) := by decide +kernel
theorem dL_law_1273 : decode cL_law 1273 = .ok (.aload_n 3, 1) := by decide +kernel
theorem dL_law_1274 : decode cL_law 1274 = .ok (.invokestatic 229, 3) := by decide +kernel
theorem dL_law_1277 : decode cL_law 1277 = .ok (.istore 6, 2) := by decide +kernel
theorem dL_law_1279 : decode cL_law 1279 = .ok (.aload_n 2, 1) := by decide +kernel
theorem dL_law_1280 : decode cL_law 1280 = .ok (.invokevirtual 231, 3) := by decide +kernel
theorem dL_law_1283 : decode cL_law 1283 = .ok (.istore 7, 2) := by decide +kernel
theorem dL_law_1285 : decode cL_law 1285 = .ok (.aload_n 2, 1) := by decide +kernel
theorem dL_law_1286 : decode cL_law 1286 = .ok (.invokevirtual 144, 3) := by decide +kernel
theorem dL_law_1289 : decode cL_law 1289 = .ok (.iload 6, 2) := by decide +kernel
theorem dL_law_1291 : decode cL_law 1291 = .ok (.if_icmp .eq 5, 3) := by decide +kernel
theorem dL_law_1294 : decode cL_law 1294 = .ok (.iconst 0, 1) := by decide +kernel
theorem dL_law_1295 : decode cL_law 1295 = .ok (.ireturn, 1) := by decide +kernel
theorem dL_law_1296 : decode cL_law 1296 = .ok (.iload 6, 2) := by decide +kernel
theorem dL_law_1298 : decode cL_law 1298 = .ok (.ifCond .ne 15, 3) := by decide +kernel
theorem dL_law_1301 : decode cL_law 1301 = .ok (.aload_n 3, 1) := by decide +kernel
theorem dL_law_1302 : decode cL_law 1302 = .ok (.iconst 0, 1) := by decide +kernel
theorem dL_law_1303 : decode cL_law 1303 = .ok (.laload, 1) := by decide +kernel
theorem dL_law_1304 : decode cL_law 1304 = .ok (.iload 7, 2) := by decide +kernel
theorem dL_law_1306 : decode cL_law 1306 = .ok (.i2l, 1) := by decide +kernel
theorem dL_law_1307 : decode cL_law 1307 = .ok (.lcmp, 1) := by decide +kernel
theorem dL_law_1308 : decode cL_law 1308 = .ok (.ifCond .eq 5, 3) := by decide +kernel
theorem dL_law_1311 : decode cL_law 1311 = .ok (.iconst 0, 1) := by decide +kernel
theorem dL_law_1312 : decode cL_law 1312 = .ok (.ireturn, 1) := by decide +kernel
theorem dL_law_1313 : decode cL_law 1313 = .ok (.goto 1045, 3) := by decide +kernel
theorem dL_law_1316 : decode cL_law 1316 = .ok (.aload_n 1, 1) := by decide +kernel
theorem dL_law_1317 : decode cL_law 1317 = .ok (.invokevirtual 232, 3) := by decide +kernel
theorem dL_law_1320 : decode cL_law 1320 = .ok (.aload_n 2, 1) := by decide +kernel
theorem dL_law_1321 : decode cL_law 1321 = .ok (.invokevirtual 235, 3) := by decide +kernel
theorem dL_law_1324 : decode cL_law 1324 = .ok (.if_icmp .eq 1034, 3) := by decide +kernel
theorem dL_law_1327 : decode cL_law 1327 = .ok (.iconst 0, 1) := by decide +kernel
theorem dL_law_1328 : decode cL_law 1328 = .ok (.ireturn, 1) := by decide +kernel
theorem dL_law_1329 : decode cL_law 1329 = .ok (.aload_n 1, 1) := by decide +kernel
theorem dL_law_1330 : decode cL_law 1330 = .ok (.invokevirtual 236, 3) := by decide +kernel
theorem dL_law_1333 : decode cL_law 1333 = .ok (.aload_n 2, 1) := by decide +kernel
theorem dL_law_1334 : decode cL_law 1334 = .ok (.invokevirtual 239, 3) := by decide +kernel
theorem dL_law_1337 : decode cL_law 1337 = .ok (.if_icmp .eq 1021, 3) := by decide +kernel
theorem dL_law_1340 : decode cL_law 1340 = .ok (.iconst 0, 1) := by decide +kernel
theorem dL_law_1341 : decode cL_law 1341 = .ok (.ireturn, 1) := by decide +kernel
theorem dL_law_1342 : decode cL_law 1342 = .ok (.aload_n 1, 1) := by decide +kernel
theorem dL_law_1343 : decode cL_law 1343 = .ok (.aload_n 0, 1) := by decide +kernel
theorem dL_law_1344 : decode cL_law 1344 = .ok (.iload 5, 2) := by decide +kernel
theorem dL_law_1346 : decode cL_law 1346 = .ok (.iconst 1, 1) := by decide +kernel
theorem dL_law_1347 : decode cL_law 1347 = .ok (.iadd, 1) := by decide +kernel
theorem dL_law_1348 : decode cL_law 1348 = .ok (.iaload, 1) := by decide +kernel
theorem dL_law_1349 : decode cL_law 1349 = .ok (.aload 4, 2) := by decide +kernel
theorem dL_law_1351 : decode cL_law 1351 = .ok (.invokestatic 240, 3) := by decide +kernel
theorem dL_law_1354 : decode cL_law 1354 = .ok (.istore 6, 2) := by decide +kernel
theorem dL_law_1356 : decode cL_law 1356 = .ok (.aload_n 2, 1) := by decide +kernel
theorem dL_law_1357 : decode cL_law 1357 = .ok (.aload_n 0, 1) := by decide +kernel
theorem dL_law_1358 : decode cL_law 1358 = .ok (.iload 5, 2) := by decide +kernel
theorem dL_law_1360 : decode cL_law 1360 = .ok (.iconst 1, 1) := by decide +kernel
theorem dL_law_1361 : decode cL_law 1361 = .ok (.iadd, 1) := by decide +kernel
theorem dL_law_1362 : decode cL_law 1362 = .ok (.iaload, 1) := by decide +kernel
theorem dL_law_1363 : decode cL_law 1363 = .ok (.invokevirtual 243, 3) := by decide +kernel
theorem dL_law_1366 : decode cL_law 1366 = .ok (.fstore 7, 2) := by decide +kernel
theorem dL_law_1368 : decode cL_law 1368 = .ok (.aload_n 2, 1) := by decide +kernel
theorem dL_law_1369 : decode cL_law 1369 = .ok (.invokevirtual 144, 3) := by decide +kernel
theorem dL_law_1372 : decode cL_law 1372 = .ok (.iload 6, 2) := by decide +kernel
theorem dL_law_1374 : decode cL_law 1374 = .ok (.if_icmp .eq 5, 3) := by decide +kernel
theorem dL_law_1377 : decode cL_law 1377 = .ok (.iconst 0, 1) := by decide +kernel
theorem dL_law_1378 : decode cL_law 1378 = .ok (.ireturn, 1) := by decide +kernel
theorem dL_law_1379 : decode cL_law 1379 = .ok (.iload 6, 2) := by decide +kernel
theorem dL_law_1381 : decode cL_law 1381 = .ok (.ifCond .ne 36, 3) := by decide +kernel
theorem dL_law_1384 : decode cL_law 1384 = .ok (.aload 4, 2) := by decide +kernel
theorem dL_law_1386 : decode cL_law 1386 = .ok (.iconst 0, 1) := by decide +kernel
theorem dL_law_1387 : decode cL_law 1387 = .ok (.daload, 1) := by decide +kernel
theorem dL_law_1388 : decode cL_law 1388 = .ok (.fload 7, 2) := by decide +kernel
theorem dL_law_1390 : decode cL_law 1390 = .ok (.f2d, 1) := by decide +kernel
theorem dL_law_1391 : decode cL_law 1391 = .ok (.dcmp .l, 1) := by decide +kernel
theorem dL_law_1392 : decode cL_law 1392 = .ok (.ifCond .eq 25, 3) := by decide +kernel
theorem dL_law_1395 : decode cL_law 1395 = .ok (.aload 4, 2) := by decide +kernel
theorem dL_law_1397 : decode cL_law 1397 = .ok (.iconst 0, 1) := by decide +kernel
theorem dL_law_1398 : decode cL_law 1398 = .ok (.daload, 1) := by decide +kernel
theorem dL_law_1399 : decode cL_law 1399 = .ok (.aload 4, 2) := by decide +kernel
theorem dL_law_1401 : decode cL_law 1401 = .ok (.iconst 0, 1) := by decide +kernel
theorem dL_law_1402 : decode cL_law 1402 = .ok (.daload, 1) := by decide +kernel
theorem dL_law_1403 : decode cL_law 1403 = .ok (.dcmp .l, 1) := by decide +kernel
theorem dL_law_1404 : decode cL_law 1404 = .ok (.ifCond .eq 11, 3) := by decide +kernel
theorem dL_law_1407 : decode cL_law 1407 = .ok (.fload 7, 2) := by decide +kernel
theorem dL_law_1409 : decode cL_law 1409 = .ok (.fload 7, 2) := by decide +kernel
theorem dL_law_1411 : decode cL_law 1411 = .ok (.fcmp .l, 1) := by decide +kernel
theorem dL_law_1412 : decode cL_law 1412 = .ok (.ifCond .ne 5, 3) := by decide +kernel
theorem dL_law_1415 : decode cL_law 1415 = .ok (.iconst 0, 1) := by decide +kernel
theorem dL_law_1416 : decode cL_law 1416 = .ok (.ireturn, 1) := by decide +kernel
theorem dL_law_1417 : decode cL_law 1417 = .ok (.goto 941, 3) := by decide +kernel
theorem dL_law_1420 : decode cL_law 1420 = .ok (.aload_n 1, 1) := by decide +kernel
theorem dL_law_1421 : decode cL_law 1421 = .ok (.aload_n 0, 1) := by decide +kernel
theorem dL_law_1422 : decode cL_law 1422 = .ok (.iload 5, 2) := by decide +kernel
theorem dL_law_1424 : decode cL_law 1424 = .ok (.iconst 1, 1) := by decide +kernel
theorem dL_law_1425 : decode cL_law 1425 = .ok (.iadd, 1) := by decide +kernel
theorem dL_law_1426 : decode cL_law 1426 = .ok (.iaload, 1) := by decide +kernel
theorem dL_law_1427 : decode cL_law 1427 = .ok (.aload_n 3, 1) := by decide +kernel
theorem dL_law_1428 : decode cL_law 1428 = .ok (.invokestatic 244, 3) := by decide +kernel
theorem dL_law_1431 : decode cL_law 1431 = .ok (.istore 6, 2) := by decide +kernel
theorem dL_law_1433 : decode cL_law 1433 = .ok (.aload_n 2, 1) := by decide +kernel
theorem dL_law_1434 : decode cL_law 1434 = .ok (.aload_n 0, 1) := by decide +kernel
theorem dL_law_1435 : decode cL_law 1435 = .ok (.iload 5, 2) := by decide +kernel
theorem dL_law_1437 : decode cL_law 1437 = .ok (.iconst 1, 1) := by decide +kernel
theorem dL_law_1438 : decode cL_law 1438 = .ok (.iadd, 1) := by decide +kernel
theorem dL_law_1439 : decode cL_law 1439 = .ok (.iaload, 1) := by decide +kernel
theorem dL_law_1440 : decode cL_law 1440 = .ok (.invokevirtual 246, 3) := by decide +kernel
theorem dL_law_1443 : decode cL_law 1443 = .ok (.istore 7, 2) := by decide +kernel
theorem dL_law_1445 : decode cL_law 1445 = .ok (.aload_n 2, 1) := by decide +kernel
theorem dL_law_1446 : decode cL_law 1446 = .ok (.invokevirtual 144, 3) := by decide +kernel
theorem dL_law_1449 : decode cL_law 1449 = .ok (.iload 6, 2) := by decide +kernel
theorem dL_law_1451 : decode cL_law 1451 = .ok (.if_icmp .eq 5, 3) := by decide +kernel
theorem dL_law_1454 : decode cL_law 1454 = .ok (.iconst 0, 1) := by decide +kernel
theorem dL_law_1455 : decode cL_law 1455 = .ok (.ireturn, 1) := by decide +kernel
theorem dL_law_1456 : decode cL_law 1456 = .ok (.iload 6, 2) := by decide +kernel
theorem dL_law_1458 : decode cL_law 1458 = .ok (.ifCond .ne 15, 3) := by decide +kernel
theorem dL_law_1461 : decode cL_law 1461 = .ok (.aload_n 3, 1) := by decide +kernel
theorem dL_law_1462 : decode cL_law 1462 = .ok (.iconst 0, 1) := by decide +kernel
theorem dL_law_1463 : decode cL_law 1463 = .ok (.laload, 1) := by decide +kernel
theorem dL_law_1464 : decode cL_law 1464 = .ok (.iload 7, 2) := by decide +kernel
theorem dL_law_1466 : decode cL_law 1466 = .ok (.i2l, 1) := by decide +kernel
theorem dL_law_1467 : decode cL_law 1467 = .ok (.lcmp, 1) := by decide +kernel
theorem dL_law_1468 : decode cL_law 1468 = .ok (.ifCond .eq 5, 3) := by decide +kernel
theorem dL_law_1471 : decode cL_law 1471 = .ok (.iconst 0, 1) := by decide +kernel
theorem dL_law_1472 : decode cL_law 1472 = .ok (.ireturn, 1) := by decide +kernel
theorem dL_law_1473 : decode cL_law 1473 = .ok (.goto 885, 3) := by decide +kernel
theorem dL_law_1476 : decode cL_law 1476 = .ok (.aload_n 1, 1) := by decide +kernel
theorem dL_law_1477 : decode cL_law 1477 = .ok (.aload_n 0, 1) := by decide +kernel
theorem dL_law_1478 : decode cL_law 1478 = .ok (.iload 5, 2) := by decide +kernel
theorem dL_law_1480 : decode cL_law 1480 = .ok (.iconst 1, 1) := by decide +kernel
theorem dL_law_1481 : decode cL_law 1481 = .ok (.iadd, 1) := by decide +kernel
theorem dL_law_1482 : decode cL_law 1482 = .ok (.iaload, 1) := by decide +kernel
theorem dL_law_1483 : decode cL_law 1483 = .ok (.aload 4, 2) := by decide +kernel
theorem dL_law_1485 : decode cL_law 1485 = .ok (.invokestatic 247, 3) := by decide +kernel
theorem dL_law_1488 : decode cL_law 1488 = .ok (.istore 6, 2) := by decide +kernel
theorem dL_law_1490 : decode cL_law 1490 = .ok (.aload_n 2, 1) := by decide +kernel
theorem dL_law_1491 : decode cL_law 1491 = .ok (.aload_n 0, 1) := by decide +kernel
theorem dL_law_1492 : decode cL_law 1492 = .ok (.iload 5, 2) := by decide +kernel
theorem dL_law_1494 : decode cL_law 1494 = .ok (.iconst 1, 1) := by decide +kernel
theorem dL_law_1495 : decode cL_law 1495 = .ok (.iadd, 1) := by decide +kernel
theorem dL_law_1496 : decode cL_law 1496 = .ok (.iaload, 1) := by decide +kernel
theorem dL_law_1497 : decode cL_law 1497 = .ok (.invokevirtual 249, 3) := by decide +kernel
theorem dL_law_1500 : decode cL_law 1500 = .ok (.dstore 7, 2) := by decide +kernel
theorem dL_law_1502 : decode cL_law 1502 = .ok (.aload_n 2, 1) := by decide +kernel
theorem dL_law_1503 : decode cL_law 1503 = .ok (.invokevirtual 144, 3) := by decide +kernel
theorem dL_law_1506 : decode cL_law 1506 = .ok (.iload 6, 2) := by decide +kernel
theorem dL_law_1508 : decode cL_law 1508 = .ok (.if_icmp .eq 5, 3) := by decide +kernel
theorem dL_law_1511 : decode cL_law 1511 = .ok (.iconst 0, 1) := by decide +kernel
theorem dL_law_1512 : decode cL_law 1512 = .ok (.ireturn, 1) := by decide +kernel
theorem dL_law_1513 : decode cL_law 1513 = .ok (.iload 6, 2) := by decide +kernel
theorem dL_law_1515 : decode cL_law 1515 = .ok (.ifCond .ne 35, 3) := by decide +kernel
theorem dL_law_1518 : decode cL_law 1518 = .ok (.aload 4, 2) := by decide +kernel
theorem dL_law_1520 : decode cL_law 1520 = .ok (.iconst 0, 1) := by decide +kernel
theorem dL_law_1521 : decode cL_law 1521 = .ok (.daload, 1) := by decide +kernel
theorem dL_law_1522 : decode cL_law 1522 = .ok (.dload 7, 2) := by decide +kernel
theorem dL_law_1524 : decode cL_law 1524 = .ok (.dcmp .l, 1) := by decide +kernel
theorem dL_law_1525 : decode cL_law 1525 = .ok (.ifCond .eq 25, 3) := by decide +kernel
theorem dL_law_1528 : decode cL_law 1528 = .ok (.aload 4, 2) := by decide +kernel
theorem dL_law_1530 : decode cL_law 1530 = .ok (.iconst 0, 1) := by decide +kernel
theorem dL_law_1531 : decode cL_law 1531 = .ok (.daload, 1) := by decide +kernel
theorem dL_law_1532 : decode cL_law 1532 = .ok (.aload 4, 2) := by decide +kernel
theorem dL_law_1534 : decode cL_law 1534 = .ok (.iconst 0, 1) := by decide +kernel
theorem dL_law_1535 : decode cL_law 1535 = .ok (.daload, 1) := by decide +kernel
theorem dL_law_1536 : decode cL_law 1536 = .ok (.dcmp .l, 1) := by decide +kernel
theorem dL_law_1537 : decode cL_law 1537 = .ok (.ifCond .eq 11, 3) := by decide +kernel
theorem dL_law_1540 : decode cL_law 1540 = .ok (.dload 7, 2) := by decide +kernel
theorem dL_law_1542 : decode cL_law 1542 = .ok (.dload 7, 2) := by decide +kernel
theorem dL_law_1544 : decode cL_law 1544 = .ok (.dcmp .l, 1) := by decide +kernel
theorem dL_law_1545 : decode cL_law 1545 = .ok (.ifCond .ne 5, 3) := by decide +kernel
theorem dL_law_1548 : decode cL_law 1548 = .ok (.iconst 0, 1) := by decide +kernel
theorem dL_law_1549 : decode cL_law 1549 = .ok (.ireturn, 1) := by decide +kernel
theorem dL_law_1550 : decode cL_law 1550 = .ok (.goto 808, 3) := by decide +kernel
theorem dL_law_1553 : decode cL_law 1553 = .ok (.aload_n 1, 1) := by decide +kernel
theorem dL_law_1554 : decode cL_law 1554 = .ok (.aload_n 3, 1) := by decide +kernel
theorem dL_law_1555 : decode cL_law 1555 = .ok (.invokestatic 250, 3) := by decide +kernel
theorem dL_law_1558 : decode cL_law 1558 = .ok (.istore 6, 2) := by decide +kernel
theorem dL_law_1560 : decode cL_law 1560 = .ok (.aload_n 2, 1) := by decide +kernel
theorem dL_law_1561 : decode cL_law 1561 = .ok (.invokevirtual 252, 3) := by decide +kernel
theorem dL_law_1564 : decode cL_law 1564 = .ok (.istore 7, 2) := by decide +kernel
theorem dL_law_1566 : decode cL_law 1566 = .ok (.aload_n 2, 1) := by decide +kernel
theorem dL_law_1567 : decode cL_law 1567 = .ok (.invokevirtual 144, 3) := by decide +kernel
theorem dL_law_1570 : decode cL_law 1570 = .ok (.iload 6, 2) := by decide +kernel
theorem dL_law_1572 : decode cL_law 1572 = .ok (.if_icmp .eq 5, 3) := by decide +kernel
theorem dL_law_1575 : decode cL_law 1575 = .ok (.iconst 0, 1) := by decide +kernel
theorem dL_law_1576 : decode cL_law 1576 = .ok (.ireturn, 1) := by decide +kernel
theorem dL_law_1577 : decode cL_law 1577 = .ok (.iload 6, 2) := by decide +kernel
theorem dL_law_1579 : decode cL_law 1579 = .ok (.ifCond .ne 15, 3) := by decide +kernel
theorem dL_law_1582 : decode cL_law 1582 = .ok (.aload_n 3, 1) := by decide +kernel
theorem dL_law_1583 : decode cL_law 1583 = .ok (.iconst 0, 1) := by decide +kernel
theorem dL_law_1584 : decode cL_law 1584 = .ok (.laload, 1) := by decide +kernel
theorem dL_law_1585 : decode cL_law 1585 = .ok (.iload 7, 2) := by decide +kernel
theorem dL_law_1587 : decode cL_law 1587 = .ok (.i2l, 1) := by decide +kernel
theorem dL_law_1588 : decode cL_law 1588 = .ok (.lcmp, 1) := by decide +kernel
theorem dL_law_1589 : decode cL_law 1589 = .ok (.ifCond .eq 5, 3) := by decide +kernel
theorem dL_law_1592 : decode cL_law 1592 = .ok (.iconst 0, 1) := by decide +kernel
theorem dL_law_1593 : decode cL_law 1593 = .ok (.ireturn, 1) := by decide +kernel
theorem dL_law_1594 : decode cL_law 1594 = .ok (.goto 764, 3) := by decide +kernel
theorem dL_law_1597 : decode cL_law 1597 = .ok (.aload_n 1, 1) := by decide +kernel
theorem dL_law_1598 : decode cL_law 1598 = .ok (.aload_n 3, 1) := by decide +kernel
theorem dL_law_1599 : decode cL_law 1599 = .ok (.invokestatic 253, 3) := by decide +kernel
theorem dL_law_1602 : decode cL_law 1602 = .ok (.istore 6, 2) := by decide +kernel
theorem dL_law_1604 : decode cL_law 1604 = .ok (.aload_n 2, 1) := by decide +kernel
theorem dL_law_1605 : decode cL_law 1605 = .ok (.invokevirtual 255, 3) := by decide +kernel
theorem dL_law_1608 : decode cL_law 1608 = .ok (.istore 7, 2) := by decide +kernel
theorem dL_law_1610 : decode cL_law 1610 = .ok (.aload_n 2, 1) := by decide +kernel
theorem dL_law_1611 : decode cL_law 1611 = .ok (.invokevirtual 144, 3) := by decide +kernel
theorem dL_law_1614 : decode cL_law 1614 = .ok (.iload 6, 2) := by decide +kernel
theorem dL_law_1616 : decode cL_law 1616 = .ok (.if_icmp .eq 5, 3) := by decide +kernel
theorem dL_law_1619 : decode cL_law 1619 = .ok (.iconst 0, 1) := by decide +kernel
theorem dL_law_1620 : decode cL_law 1620 = .ok (.ireturn, 1) := by decide +kernel
theorem dL_law_1621 : decode cL_law 1621 = .ok (.iload 6, 2) := by decide +kernel
theorem dL_law_1623 : decode cL_law 1623 = .ok (.ifCond .ne 15, 3) := by decide +kernel
theorem dL_law_1626 : decode cL_law 1626 = .ok (.aload_n 3, 1) := by decide +kernel
theorem dL_law_1627 : decode cL_law 1627 = .ok (.iconst 0, 1) := by decide +kernel
theorem dL_law_1628 : decode cL_law 1628 = .ok (.laload, 1) := by decide +kernel
theorem dL_law_1629 : decode cL_law 1629 = .ok (.iload 7, 2) := by decide +kernel
theorem dL_law_1631 : decode cL_law 1631 = .ok (.i2l, 1) := by decide +kernel
theorem dL_law_1632 : decode cL_law 1632 = .ok (.lcmp, 1) := by decide +kernel
theorem dL_law_1633 : decode cL_law 1633 = .ok (.ifCond .eq 5, 3) := by decide +kernel
theorem dL_law_1636 : decode cL_law 1636 = .ok (.iconst 0, 1) := by decide +kernel
theorem dL_law_1637 : decode cL_law 1637 = .ok (.ireturn, 1) := by decide +kernel
theorem dL_law_1638 : decode cL_law 1638 = .ok (.goto 720, 3) := by decide +kernel
theorem dL_law_1641 : decode cL_law 1641 = .ok (.aload_n 1, 1) := by decide +kernel
theorem dL_law_1642 : decode cL_law 1642 = .ok (.aload 4, 2) := by decide +kernel
theorem dL_law_1644 : decode cL_law 1644 = .ok (.invokestatic 256, 3) := by decide +kernel
theorem dL_law_1647 : decode cL_law 1647 = .ok (.istore 6, 2) := by decide +kernel
theorem dL_law_1649 : decode cL_law 1649 = .ok (.aload_n 2, 1) := by decide +kernel
theorem dL_law_1650 : decode cL_law 1650 = .ok (.invokevirtual 259, 3) := by decide +kernel
theorem dL_law_1653 : decode cL_law 1653 = .ok (.dstore 7, 2) := by decide +kernel
theorem dL_law_1655 : decode cL_law 1655 = .ok (.aload_n 2, 1) := by decide +kernel
theorem dL_law_1656 : decode cL_law 1656 = .ok (.invokevirtual 144, 3) := by decide +kernel
theorem dL_law_1659 : decode cL_law 1659 = .ok (.iload 6, 2) := by decide +kernel
theorem dL_law_1661 : decode cL_law 1661 = .ok (.if_icmp .eq 5, 3) := by decide +kernel
theorem dL_law_1664 : decode cL_law 1664 = .ok (.iconst 0, 1) := by decide +kernel
theorem dL_law_1665 : decode cL_law 1665 = .ok (.ireturn, 1) := by decide +kernel
theorem dL_law_1666 : decode cL_law 1666 = .ok (.iload 6, 2) := by decide +kernel
theorem dL_law_1668 : decode cL_law 1668 = .ok (.ifCond .ne 35, 3) := by decide +kernel
theorem dL_law_1671 : decode cL_law 1671 = .ok (.aload 4, 2) := by decide +kernel
theorem dL_law_1673 : decode cL_law 1673 = .ok (.iconst 0, 1) := by decide +kernel
theorem dL_law_1674 : decode cL_law 1674 = .ok (.daload, 1) := by decide +kernel
theorem dL_law_1675 : decode cL_law 1675 = .ok (.dload 7, 2) := by decide +kernel
theorem dL_law_1677 : decode cL_law 1677 = .ok (.dcmp .l, 1) := by decide +kernel
theorem dL_law_1678 : decode cL_law 1678 = .ok (.ifCond .eq 25, 3) := by decide +kernel
theorem dL_law_1681 : decode cL_law 1681 = .ok (.aload 4, 2) := by decide +kernel
theorem dL_law_1683 : decode cL_law 1683 = .ok (.iconst 0, 1) := by decide +kernel
theorem dL_law_1684 : decode cL_law 1684 = .ok (.daload, 1) := by decide +kernel
theorem dL_law_1685 : decode cL_law 1685 = .ok (.aload 4, 2) := by decide +kernel
theorem dL_law_1687 : decode cL_law 1687 = .ok (.iconst 0, 1) := by decide +kernel
theorem dL_law_1688 : decode cL_law 1688 = .ok (.daload, 1) := by decide +kernel
theorem dL_law_1689 : decode cL_law 1689 = .ok (.dcmp .l, 1) := by decide +kernel
theorem dL_law_1690 : decode cL_law 1690 = .ok (.ifCond .eq 11, 3) := by decide +kernel
theorem dL_law_1693 : decode cL_law 1693 = .ok (.dload 7, 2) := by decide +kernel
theorem dL_law_1695 : decode cL_law 1695 = .ok (.dload 7, 2) := by decide +kernel
theorem dL_law_1697 : decode cL_law 1697 = .ok (.dcmp .l, 1) := by decide +kernel
theorem dL_law_1698 : decode cL_law 1698 = .ok (.ifCond .ne 5, 3) := by decide +kernel
theorem dL_law_1701 : decode cL_law 1701 = .ok (.iconst 0, 1) := by decide +kernel
theorem dL_law_1702 : decode cL_law 1702 = .ok (.ireturn, 1) := by decide +kernel
theorem dL_law_1703 : decode cL_law 1703 = .ok (.goto 655, 3) := by decide +kernel
theorem dL_law_1706 : decode cL_law 1706 = .ok (.aload_n 1, 1) := by decide +kernel
theorem dL_law_1707 : decode cL_law 1707 = .ok (.aload 4, 2) := by decide +kernel
theorem dL_law_1709 : decode cL_law 1709 = .ok (.invokestatic 260, 3) := by decide +kernel
theorem dL_law_1712 : decode cL_law 1712 = .ok (.istore 6, 2) := by decide +kernel
theorem dL_law_1714 : decode cL_law 1714 = .ok (.aload_n 2, 1) := by decide +kernel
theorem dL_law_1715 : decode cL_law 1715 = .ok (.invokevirtual 262, 3) := by decide +kernel
theorem dL_law_1718 : decode cL_law 1718 = .ok (.fstore 7, 2) := by decide +kernel
theorem dL_law_1720 : decode cL_law 1720 = .ok (.aload_n 2, 1) := by decide +kernel
theorem dL_law_1721 : decode cL_law 1721 = .ok (.invokevirtual 144, 3) := by decide +kernel
theorem dL_law_1724 : decode cL_law 1724 = .ok (.iload 6, 2) := by decide +kernel
theorem dL_law_1726 : decode cL_law 1726 = .ok (.if_icmp .eq 5, 3) := by decide +kernel
theorem dL_law_1729 : decode cL_law 1729 = .ok (.iconst 0, 1) := by decide +kernel
theorem dL_law_1730 : decode cL_law 1730 = .ok (.ireturn, 1) := by decide +kernel
theorem dL_law_1731 : decode cL_law 1731 = .ok (.iload 6, 2) := by decide +kernel
theorem dL_law_1733 : decode cL_law 1733 = .ok (.ifCond .ne 36, 3) := by decide +kernel
theorem dL_law_1736 : decode cL_law 1736 = .ok (.aload 4, 2) := by decide +kernel
theorem dL_law_1738 : decode cL_law 1738 = .ok (.iconst 0, 1) := by decide +kernel
theorem dL_law_1739 : decode cL_law 1739 = .ok (.daload, 1) := by decide +kernel
theorem dL_law_1740 : decode cL_law 1740 = .ok (.fload 7, 2) := by decide +kernel
theorem dL_law_1742 : decode cL_law 1742 = .ok (.f2d, 1) := by decide +kernel
theorem dL_law_1743 : decode cL_law 1743 = .ok (.dcmp .l, 1) := by decide +kernel
theorem dL_law_1744 : decode cL_law 1744 = .ok (.ifCond .eq 25, 3) := by decide +kernel
theorem dL_law_1747 : decode cL_law 1747 = .ok (.aload 4, 2) := by decide +kernel
theorem dL_law_1749 : decode cL_law 1749 = .ok (.iconst 0, 1) := by decide +kernel
theorem dL_law_1750 : decode cL_law 1750 = .ok (.daload, 1) := by decide +kernel
theorem dL_law_1751 : decode cL_law 1751 = .ok (.aload 4, 2) := by decide +kernel
theorem dL_law_1753 : decode cL_law 1753 = .ok (.iconst 0, 1) := by decide +kernel
theorem dL_law_1754 : decode cL_law 1754 = .ok (.daload, 1) := by decide +kernel
theorem dL_law_1755 : decode cL_law 1755 = .ok (.dcmp .l, 1) := by decide +kernel
theorem dL_law_1756 : decode cL_law 1756 = .ok (.ifCond .eq 11, 3) := by decide +kernel
theorem dL_law_1759 : decode cL_law 1759 = .ok (.fload 7, 2) := by decide +kernel
theorem dL_law_1761 : decode cL_law 1761 = .ok (.fload 7, 2) := by decide +kernel
theorem dL_law_1763 : decode cL_law 1763 = .ok (.fcmp .l, 1) := by decide +kernel
theorem dL_law_1764 : decode cL_law 1764 = .ok (.ifCond .ne 5, 3) := by decide +kernel
theorem dL_law_1767 : decode cL_law 1767 = .ok (.iconst 0, 1) := by decide +kernel
theorem dL_law_1768 : decode cL_law 1768 = .ok (.ireturn, 1) := by decide +kernel
theorem dL_law_1769 : decode cL_law 1769 = .ok (.goto 589, 3) := by decide +kernel
theorem dL_law_1772 : decode cL_law 1772 = .ok (.aload_n 1, 1) := by decide +kernel
theorem dL_law_1773 : decode cL_law 1773 = .ok (.invokevirtual 263, 3) := by decide +kernel
theorem dL_law_1776 : decode cL_law 1776 = .ok (.aload_n 2, 1) := by decide +kernel
theorem dL_law_1777 : decode cL_law 1777 = .ok (.invokevirtual 266, 3) := by decide +kernel
theorem dL_law_1780 : decode cL_law 1780 = .ok (.if_icmp .eq 578, 3) := by decide +kernel
theorem dL_law_1783 : decode cL_law 1783 = .ok (.iconst 0, 1) := by decide +kernel
theorem dL_law_1784 : decode cL_law 1784 = .ok (.ireturn, 1) := by decide +kernel
theorem dL_law_1785 : decode cL_law 1785 = .ok (.aload_n 1, 1) := by decide +kernel
theorem dL_law_1786 : decode cL_law 1786 = .ok (.aload_n 0, 1) := by decide +kernel
theorem dL_law_1787 : decode cL_law 1787 = .ok (.iload 5, 2) := by decide +kernel
theorem dL_law_1789 : decode cL_law 1789 = .ok (.iconst 1, 1) := by decide +kernel
theorem dL_law_1790 : decode cL_law 1790 = .ok (.iadd, 1) := by decide +kernel
theorem dL_law_1791 : decode cL_law 1791 = .ok (.iaload, 1) := by decide +kernel
theorem dL_law_1792 : decode cL_law 1792 = .ok (.aload_n 3, 1) := by decide +kernel
theorem dL_law_1793 : decode cL_law 1793 = .ok (.invokestatic 267, 3) := by decide +kernel
theorem dL_law_1796 : decode cL_law 1796 = .ok (.istore 6, 2) := by decide +kernel
theorem dL_law_1798 : decode cL_law 1798 = .ok (.aload_n 2, 1) := by decide +kernel
theorem dL_law_1799 : decode cL_law 1799 = .ok (.aload_n 0, 1) := by decide +kernel
theorem dL_law_1800 : decode cL_law 1800 = .ok (.iload 5, 2) := by decide +kernel
theorem dL_law_1802 : decode cL_law 1802 = .ok (.iconst 1, 1) := by decide +kernel
theorem dL_law_1803 : decode cL_law 1803 = .ok (.iadd, 1) := by decide +kernel
theorem dL_law_1804 : decode cL_law 1804 = .ok (.iaload, 1) := by decide +kernel
theorem dL_law_1805 : decode cL_law 1805 = .ok (.invokevirtual 269, 3) := by decide +kernel
theorem dL_law_1808 : decode cL_law 1808 = .ok (.istore 7, 2) := by decide +kernel
theorem dL_law_1810 : decode cL_law 1810 = .ok (.aload_n 2, 1) := by decide +kernel
theorem dL_law_1811 : decode cL_law 1811 = .ok (.invokevirtual 144, 3) := by decide +kernel
theorem dL_law_1814 : decode cL_law 1814 = .ok (.iload 6, 2) := by decide +kernel
theorem dL_law_1816 : decode cL_law 1816 = .ok (.if_icmp .eq 5, 3) := by decide +kernel
theorem dL_law_1819 : decode cL_law 1819 = .ok (.iconst 0, 1) := by decide +kernel
theorem dL_law_1820 : decode cL_law 1820 = .ok (.ireturn, 1) := by decide +kernel
theorem dL_law_1821 : decode cL_law 1821 = .ok (.iload 6, 2) := by decide +kernel
theorem dL_law_1823 : decode cL_law 1823 = .ok (.ifCond .ne 15, 3) := by decide +kernel
theorem dL_law_1826 : decode cL_law 1826 = .ok (.aload_n 3, 1) := by decide +kernel
theorem dL_law_1827 : decode cL_law 1827 = .ok (.iconst 0, 1) := by decide +kernel
theorem dL_law_1828 : decode cL_law 1828 = .ok (.laload, 1) := by decide +kernel
theorem dL_law_1829 : decode cL_law 1829 = .ok (.iload 7, 2) := by decide +kernel
theorem dL_law_1831 : decode cL_law 1831 = .ok (.i2l, 1) := by decide +kernel
theorem dL_law_1832 : decode cL_law 1832 = .ok (.lcmp, 1) := by decide +kernel
theorem dL_law_1833 : decode cL_law 1833 = .ok (.ifCond .eq 5, 3) := by decide +kernel
theorem dL_law_1836 : decode cL_law 1836 = .ok (.iconst 0, 1) := by decide +kernel
theorem dL_law_1837 : decode cL_law 1837 = .ok (.ireturn, 1) := by decide +kernel
theorem dL_law_1838 : decode cL_law 1838 = .ok (.goto 520, 3) := by decide +kernel
theorem dL_law_1841 : decode cL_law 1841 = .ok (.aload_n 1, 1) := by decide +kernel
theorem dL_law_1842 : decode cL_law 1842 = .ok (.invokevirtual 270, 3) := by decide +kernel
theorem dL_law_1845 : decode cL_law 1845 = .ok (.aload_n 2, 1) := by decide +kernel
theorem dL_law_1846 : decode cL_law 1846 = .ok (.invokevirtual 273, 3) := by decide +kernel
theorem dL_law_1849 : decode cL_law 1849 = .ok (.if_icmp .eq 509, 3) := by decide +kernel
theorem dL_law_1852 : decode cL_law 1852 = .ok (.iconst 0, 1) := by decide +kernel
theorem dL_law_1853 : decode cL_law 1853 = .ok (.ireturn, 1) := by decide +kernel
theorem dL_law_1854 : decode cL_law 1854 = .ok (.aload_n 1, 1) := by decide +kernel
theorem dL_law_1855 : decode cL_law 1855 = .ok (.aload_n 0, 1) := by decide +kernel
theorem dL_law_1856 : decode cL_law 1856 = .ok (.iload 5, 2) := by decide +kernel
theorem dL_law_1858 : decode cL_law 1858 = .ok (.iconst 1, 1) := by decide +kernel
theorem dL_law_1859 : decode cL_law 1859 = .ok (.iadd, 1) := by decide +kernel
theorem dL_law_1860 : decode cL_law 1860 = .ok (.iaload, 1) := by decide +kernel
theorem dL_law_1861 : decode cL_law 1861 = .ok (.i2c, 1) := by decide +kernel
theorem dL_law_1862 : decode cL_law 1862 = .ok (.aload_n 3, 1) := by decide +kernel
theorem dL_law_1863 : decode cL_law 1863 = .ok (.invokestatic 274, 3) := by decide +kernel
theorem dL_law_1866 : decode cL_law 1866 = .ok (.istore 6, 2) := by decide +kernel
theorem dL_law_1868 : decode cL_law 1868 = .ok (.aload_n 2, 1) := by decide +kernel
theorem dL_law_1869 : decode cL_law 1869 = .ok (.aload_n 0, 1) := by decide +kernel
theorem dL_law_1870 : decode cL_law 1870 = .ok (.iload 5, 2) := by decide +kernel
theorem dL_law_1872 : decode cL_law 1872 = .ok (.iconst 1, 1) := by decide +kernel
theorem dL_law_1873 : decode cL_law 1873 = .ok (.iadd, 1) := by decide +kernel
theorem dL_law_1874 : decode cL_law 1874 = .ok (.iaload, 1) := by decide +kernel
theorem dL_law_1875 : decode cL_law 1875 = .ok (.i2c, 1) := by decide +kernel
theorem dL_law_1876 : decode cL_law 1876 = .ok (.invokevirtual 277, 3) := by decide +kernel
theorem dL_law_1879 : decode cL_law 1879 = .ok (.istore 7, 2) := by decide +kernel
theorem dL_law_1881 : decode cL_law 1881 = .ok (.aload_n 2, 1) := by decide +kernel
theorem dL_law_1882 : decode cL_law 1882 = .ok (.invokevirtual 144, 3) := by decide +kernel
theorem dL_law_1885 : decode cL_law 1885 = .ok (.iload 6, 2) := by decide +kernel
theorem dL_law_1887 : decode cL_law 1887 = .ok (.if_icmp .eq 5, 3) := by decide +kernel
theorem dL_law_1890 : decode cL_law 1890 = .ok (.iconst 0, 1) := by decide +kernel
theorem dL_law_1891 : decode cL_law 1891 = .ok (.ireturn, 1) := by decide +kernel
theorem dL_law_1892 : decode cL_law 1892 = .ok (.iload 6, 2) := by decide +kernel
theorem dL_law_1894 : decode cL_law 1894 = .ok (.ifCond .ne 15, 3) := by decide +kernel
theorem dL_law_1897 : decode cL_law 1897 = .ok (.aload_n 3, 1) := by decide +kernel
theorem dL_law_1898 : decode cL_law 1898 = .ok (.iconst 0, 1) := by decide +kernel
theorem dL_law_1899 : decode cL_law 1899 = .ok (.laload, 1) := by decide +kernel
theorem dL_law_1900 : decode cL_law 1900 = .ok (.iload 7, 2) := by decide +kernel
theorem dL_law_1902 : decode cL_law 1902 = .ok (.i2l, 1) := by decide +kernel
theorem dL_law_1903 : decode cL_law 1903 = .ok (.lcmp, 1) := by decide +kernel
theorem dL_law_1904 : decode cL_law 1904 = .ok (.ifCond .eq 5, 3) := by decide +kernel
theorem dL_law_1907 : decode cL_law 1907 = .ok (.iconst 0, 1) := by decide +kernel
theorem dL_law_1908 : decode cL_law 1908 = .ok (.ireturn, 1) := by decide +kernel
theorem dL_law_1909 : decode cL_law 1909 = .ok (.goto 449, 3) := by decide +kernel
theorem dL_law_1912 : decode cL_law 1912 = .ok (.aload_n 1, 1) := by decide +kernel
theorem dL_law_1913 : decode cL_law 1913 = .ok (.aload_n 3, 1) := by decide +kernel
theorem dL_law_1914 : decode cL_law 1914 = .ok (.invokestatic 278, 3) := by decide +kernel
theorem dL_law_1917 : decode cL_law 1917 = .ok (.istore 6, 2) := by decide +kernel
theorem dL_law_1919 : decode cL_law 1919 = .ok (.aload_n 2, 1) := by decide +kernel
theorem dL_law_1920 : decode cL_law 1920 = .ok (.invokevirtual 280, 3) := by decide +kernel
theorem dL_law_1923 : decode cL_law 1923 = .ok (.istore 7, 2) := by decide +kernel
theorem dL_law_1925 : decode cL_law 1925 = .ok (.aload_n 2, 1) := by decide +kernel
theorem dL_law_1926 : decode cL_law 1926 = .ok (.invokevirtual 144, 3) := by decide +kernel
theorem dL_law_1929 : decode cL_law 1929 = .ok (.iload 6, 2) := by decide +kernel
theorem dL_law_1931 : decode cL_law 1931 = .ok (.if_icmp .eq 5, 3) := by decide +kernel
theorem dL_law_1934 : decode cL_law 1934 = .ok (.iconst 0, 1) := by decide +kernel
theorem dL_law_1935 : decode cL_law 1935 = .ok (.ireturn, 1) := by decide +kernel
theorem dL_law_1936 : decode cL_law 1936 = .ok (.iload 6, 2) := by decide +kernel
theorem dL_law_1938 : decode cL_law 1938 = .ok (.ifCond .ne 15, 3) := by decide +kernel
theorem dL_law_1941 : decode cL_law 1941 = .ok (.aload_n 3, 1) := by decide +kernel
theorem dL_law_1942 : decode cL_law 1942 = .ok (.iconst 0, 1) := by decide +kernel
theorem dL_law_1943 : decode cL_law 1943 = .ok (.laload, 1) := by decide +kernel
theorem dL_law_1944 : decode cL_law 1944 = .ok (.iload 7, 2) := by decide +kernel
theorem dL_law_1946 : decode cL_law 1946 = .ok (.i2l, 1) := by decide +kernel
theorem dL_law_1947 : decode cL_law 1947 = .ok (.lcmp, 1) := by decide +kernel
theorem dL_law_1948 : decode cL_law 1948 = .ok (.ifCond .eq 5, 3) := by decide +kernel
theorem dL_law_1951 : decode cL_law 1951 = .ok (.iconst 0, 1) := by decide +kernel
theorem dL_law_1952 : decode cL_law 1952 = .ok (.ireturn, 1) := by decide +kernel
theorem dL_law_1953 : decode cL_law 1953 = .ok (.goto 405, 3) := by decide +kernel
theorem dL_law_1956 : decode cL_law 1956 = .ok (.aload_n 1, 1) := by decide +kernel
theorem dL_law_1957 : decode cL_law 1957 = .ok (.aload_n 3, 1) := by decide +kernel
theorem dL_law_1958 : decode cL_law 1958 = .ok (.invokestatic 281, 3) := by decide +kernel
theorem dL_law_1961 : decode cL_law 1961 = .ok (.istore 6, 2) := by decide +kernel
theorem dL_law_1963 : decode cL_law 1963 = .ok (.aload_n 2, 1) := by decide +kernel
theorem dL_law_1964 : decode cL_law 1964 = .ok (.invokevirtual 283, 3) := by decide +kernel
theorem dL_law_1967 : decode cL_law 1967 = .ok (.istore 7, 2) := by decide +kernel
theorem dL_law_1969 : decode cL_law 1969 = .ok (.aload_n 2, 1) := by decide +kernel
theorem dL_law_1970 : decode cL_law 1970 = .ok (.invokevirtual 144, 3) := by decide +kernel
theorem dL_law_1973 : decode cL_law 1973 = .ok (.iload 6, 2) := by decide +kernel
theorem dL_law_1975 : decode cL_law 1975 = .ok (.if_icmp .eq 5, 3) := by decide +kernel
theorem dL_law_1978 : decode cL_law 1978 = .ok (.iconst 0, 1) := by decide +kernel
theorem dL_law_1979 : decode cL_law 1979 = .ok (.ireturn, 1) := by decide +kernel
theorem dL_law_1980 : decode cL_law 1980 = .ok (.iload 6, 2) := by decide +kernel
theorem dL_law_1982 : decode cL_law 1982 = .ok (.ifCond .ne 15, 3) := by decide +kernel
theorem dL_law_1985 : decode cL_law 1985 = .ok (.aload_n 3, 1) := by decide +kernel
theorem dL_law_1986 : decode cL_law 1986 = .ok (.iconst 0, 1) := by decide +kernel
theorem dL_law_1987 : decode cL_law 1987 = .ok (.laload, 1) := by decide +kernel
theorem dL_law_1988 : decode cL_law 1988 = .ok (.iload 7, 2) := by decide +kernel
theorem dL_law_1990 : decode cL_law 1990 = .ok (.i2l, 1) := by decide +kernel
theorem dL_law_1991 : decode cL_law 1991 = .ok (.lcmp, 1) := by decide +kernel
theorem dL_law_1992 : decode cL_law 1992 = .ok (.ifCond .eq 5, 3) := by decide +kernel
theorem dL_law_1995 : decode cL_law 1995 = .ok (.iconst 0, 1) := by decide +kernel
theorem dL_law_1996 : decode cL_law 1996 = .ok (.ireturn, 1) := by decide +kernel
theorem dL_law_1997 : decode cL_law 1997 = .ok (.goto 361, 3) := by decide +kernel
theorem dL_law_2000 : decode cL_law 2000 = .ok (.aload_n 1, 1) := by decide +kernel
theorem dL_law_2001 : decode cL_law 2001 = .ok (.aload_n 0, 1) := by decide +kernel
theorem dL_law_2002 : decode cL_law 2002 = .ok (.iload 5, 2) := by decide +kernel
theorem dL_law_2004 : decode cL_law 2004 = .ok (.iconst 1, 1) := by decide +kernel
theorem dL_law_2005 : decode cL_law 2005 = .ok (.iadd, 1) := by decide +kernel
theorem dL_law_2006 : decode cL_law 2006 = .ok (.iaload, 1) := by decide +kernel
theorem dL_law_2007 : decode cL_law 2007 = .ok (.aload_n 3, 1) := by decide +kernel
theorem dL_law_2008 : decode cL_law 2008 = .ok (.invokestatic 284, 3) := by decide +kernel
theorem dL_law_2011 : decode cL_law 2011 = .ok (.istore 6, 2) := by decide +kernel
theorem dL_law_2013 : decode cL_law 2013 = .ok (.aload_n 2, 1) := by decide +kernel
theorem dL_law_2014 : decode cL_law 2014 = .ok (.aload_n 0, 1) := by decide +kernel
theorem dL_law_2015 : decode cL_law 2015 = .ok (.iload 5, 2) := by decide +kernel
theorem dL_law_2017 : decode cL_law 2017 = .ok (.iconst 1, 1) := by decide +kernel
theorem dL_law_2018 : decode cL_law 2018 = .ok (.iadd, 1) := by decide +kernel
theorem dL_law_2019 : decode cL_law 2019 = .ok (.iaload, 1) := by decide +kernel
theorem dL_law_2020 : decode cL_law 2020 = .ok (.invokevirtual 286, 3) := by decide +kernel
theorem dL_law_2023 : decode cL_law 2023 = .ok (.istore 7, 2) := by decide +kernel
theorem dL_law_2025 : decode cL_law 2025 = .ok (.aload_n 2, 1) := by decide +kernel
theorem dL_law_2026 : decode cL_law 2026 = .ok (.invokevirtual 144, 3) := by decide +kernel
theorem dL_law_2029 : decode cL_law 2029 = .ok (.iload 6, 2) := by decide +kernel
theorem dL_law_2031 : decode cL_law 2031 = .ok (.if_icmp .eq 5, 3) := by decide +kernel
theorem dL_law_2034 : decode cL_law 2034 = .ok (.iconst 0, 1) := by decide +kernel
theorem dL_law_2035 : decode cL_law 2035 = .ok (.ireturn, 1) := by decide +kernel
theorem dL_law_2036 : decode cL_law 2036 = .ok (.iload 6, 2) := by decide +kernel
theorem dL_law_2038 : decode cL_law 2038 = .ok (.ifCond .ne 15, 3) := by decide +kernel
theorem dL_law_2041 : decode cL_law 2041 = .ok (.aload_n 3, 1) := by decide +kernel
theorem dL_law_2042 : decode cL_law 2042 = .ok (.iconst 0, 1) := by decide +kernel
theorem dL_law_2043 : decode cL_law 2043 = .ok (.laload, 1) := by decide +kernel
theorem dL_law_2044 : decode cL_law 2044 = .ok (.iload 7, 2) := by decide +kernel
theorem dL_law_2046 : decode cL_law 2046 = .ok (.i2l, 1) := by decide +kernel
theorem dL_law_2047 : decode cL_law 2047 = .ok (.lcmp, 1) := by decide +kernel
theorem dL_law_2048 : decode cL_law 2048 = .ok (.ifCond .eq 5, 3) := by decide +kernel
theorem dL_law_2051 : decode cL_law 2051 = .ok (.iconst 0, 1) := by decide +kernel
theorem dL_law_2052 : decode cL_law 2052 = .ok (.ireturn, 1) := by decide +kernel
theorem dL_law_2053 : decode cL_law 2053 = .ok (.goto 305, 3) := by decide +kernel
theorem dL_law_2056 : decode cL_law 2056 = .ok (.aload_n 1, 1) := by decide +kernel
theorem dL_law_2057 : decode cL_law 2057 = .ok (.aload_n 0, 1) := by decide +kernel
theorem dL_law_2058 : decode cL_law 2058 = .ok (.iload 5, 2) := by decide +kernel
theorem dL_law_2060 : decode cL_law 2060 = .ok (.iconst 1, 1) := by decide +kernel
theorem dL_law_2061 : decode cL_law 2061 = .ok (.iadd, 1) := by decide +kernel
theorem dL_law_2062 : decode cL_law 2062 = .ok (.iaload, 1) := by decide +kernel
theorem dL_law_2063 : decode cL_law 2063 = .ok (.aload_n 3, 1) := by decide +kernel
theorem dL_law_2064 : decode cL_law 2064 = .ok (.invokestatic 287, 3) := by decide +kernel
theorem dL_law_2067 : decode cL_law 2067 = .ok (.istore 6, 2) := by decide +kernel
theorem dL_law_2069 : decode cL_law 2069 = .ok (.aload_n 2, 1) := by decide +kernel
theorem dL_law_2070 : decode cL_law 2070 = .ok (.aload_n 0, 1) := by decide +kernel
theorem dL_law_2071 : decode cL_law 2071 = .ok (.iload 5, 2) := by decide +kernel
theorem dL_law_2073 : decode cL_law 2073 = .ok (.iconst 1, 1) := by decide +kernel
theorem dL_law_2074 : decode cL_law 2074 = .ok (.iadd, 1) := by decide +kernel
theorem dL_law_2075 : decode cL_law 2075 = .ok (.iaload, 1) := by decide +kernel
theorem dL_law_2076 : decode cL_law 2076 = .ok (.invokevirtual 289, 3) := by decide +kernel
theorem dL_law_2079 : decode cL_law 2079 = .ok (.istore 7, 2) := by decide +kernel
theorem dL_law_2081 : decode cL_law 2081 = .ok (.aload_n 2, 1) := by decide +kernel
theorem dL_law_2082 : decode cL_law 2082 = .ok (.invokevirtual 144, 3) := by decide +kernel
theorem dL_law_2085 : decode cL_law 2085 = .ok (.iload 6, 2) := by decide +kernel
theorem dL_law_2087 : decode cL_law 2087 = .ok (.if_icmp .eq 5, 3) := by decide +kernel
theorem dL_law_2090 : decode cL_law 2090 = .ok (.iconst 0, 1) := by decide +kernel
theorem dL_law_2091 : decode cL_law 2091 = .ok (.ireturn, 1) := by decide +kernel
theorem dL_law_2092 : decode cL_law 2092 = .ok (.iload 6, 2) := by decide +kernel
theorem dL_law_2094 : decode cL_law 2094 = .ok (.ifCond .ne 15, 3) := by decide +kernel
theorem dL_law_2097 : decode cL_law 2097 = .ok (.aload_n 3, 1) := by decide +kernel
theorem dL_law_2098 : decode cL_law 2098 = .ok (.iconst 0, 1) := by decide +kernel
theorem dL_law_2099 : decode cL_law 2099 = .ok (.laload, 1) := by decide +kernel
theorem dL_law_2100 : decode cL_law 2100 = .ok (.iload 7, 2) := by decide +kernel
theorem dL_law_2102 : decode cL_law 2102 = .ok (.i2l, 1) := by decide +kernel
theorem dL_law_2103 : decode cL_law 2103 = .ok (.lcmp, 1) := by decide +kernel
theorem dL_law_2104 : decode cL_law 2104 = .ok (.ifCond .eq 5, 3) := by decide +kernel
theorem dL_law_2107 : decode cL_law 2107 = .ok (.iconst 0, 1) := by decide +kernel
theorem dL_law_2108 : decode cL_law 2108 = .ok (.ireturn, 1) := by decide +kernel
theorem dL_law_2109 : decode cL_law 2109 = .ok (.goto 249, 3) := by decide +kernel
theorem dL_law_2112 : decode cL_law 2112 = .ok (.aload_n 1, 1) := by decide +kernel
theorem dL_law_2113 : decode cL_law 2113 = .ok (.aload_n 3, 1) := by decide +kernel
theorem dL_law_2114 : decode cL_law 2114 = .ok (.invokestatic 290, 3) := by decide +kernel
theorem dL_law_2117 : decode cL_law 2117 = .ok (.istore 6, 2) := by decide +kernel
theorem dL_law_2119 : decode cL_law 2119 = .ok (.aload_n 2, 1) := by decide +kernel
theorem dL_law_2120 : decode cL_law 2120 = .ok (.invokevirtual 292, 3) := by decide +kernel
theorem dL_law_2123 : decode cL_law 2123 = .ok (.istore 7, 2) := by decide +kernel
theorem dL_law_2125 : decode cL_law 2125 = .ok (.aload_n 2, 1) := by decide +kernel
theorem dL_law_2126 : decode cL_law 2126 = .ok (.invokevirtual 144, 3) := by decide +kernel
theorem dL_law_2129 : decode cL_law 2129 = .ok (.iload 6, 2) := by decide +kernel
theorem dL_law_2131 : decode cL_law 2131 = .ok (.if_icmp .eq 5, 3) := by decide +kernel
theorem dL_law_2134 : decode cL_law 2134 = .ok (.iconst 0, 1) := by decide +kernel
theorem dL_law_2135 : decode cL_law 2135 = .ok (.ireturn, 1) := by decide +kernel
theorem dL_law_2136 : decode cL_law 2136 = .ok (.iload 6, 2) := by decide +kernel
theorem dL_law_2138 : decode cL_law 2138 = .ok (.ifCond .ne 15, 3) := by decide +kernel
theorem dL_law_2141 : decode cL_law 2141 = .ok (.aload_n 3, 1) := by decide +kernel
theorem dL_law_2142 : decode cL_law 2142 = .ok (.iconst 0, 1) := by decide +kernel
theorem dL_law_2143 : decode cL_law 2143 = .ok (.laload, 1) := by decide +kernel
theorem dL_law_2144 : decode cL_law 2144 = .ok (.iload 7, 2) := by decide +kernel
theorem dL_law_2146 : decode cL_law 2146 = .ok (.i2l, 1) := by decide +kernel
theorem dL_law_2147 : decode cL_law 2147 = .ok (.lcmp, 1) := by decide +kernel
theorem dL_law_2148 : decode cL_law 2148 = .ok (.ifCond .eq 5, 3) := by decide +kernel
theorem dL_law_2151 : decode cL_law 2151 = .ok (.iconst 0, 1) := by decide +kernel
theorem dL_law_2152 : decode cL_law 2152 = .ok (.ireturn, 1) := by decide +kernel
theorem dL_law_2153 : decode cL_law 2153 = .ok (.goto 205, 3) := by decide +kernel
theorem dL_law_2156 : decode cL_law 2156 = .ok (.aload_n 1, 1) := by decide +kernel
theorem dL_law_2157 : decode cL_law 2157 = .ok (.aload_n 3, 1) := by decide +kernel
theorem dL_law_2158 : decode cL_law 2158 = .ok (.invokestatic 293, 3) := by decide +kernel
theorem dL_law_2161 : decode cL_law 2161 = .ok (.istore 6, 2) := by decide +kernel
theorem dL_law_2163 : decode cL_law 2163 = .ok (.aload_n 2, 1) := by decide +kernel
theorem dL_law_2164 : decode cL_law 2164 = .ok (.invokevirtual 295, 3) := by decide +kernel
theorem dL_law_2167 : decode cL_law 2167 = .ok (.istore 7, 2) := by decide +kernel
theorem dL_law_2169 : decode cL_law 2169 = .ok (.aload_n 2, 1) := by decide +kernel
theorem dL_law_2170 : decode cL_law 2170 = .ok (.invokevirtual 144, 3) := by decide +kernel
theorem dL_law_2173 : decode cL_law 2173 = .ok (.iload 6, 2) := by decide +kernel
theorem dL_law_2175 : decode cL_law 2175 = .ok (.if_icmp .eq 5, 3) := by decide +kernel
theorem dL_law_2178 : decode cL_law 2178 = .ok (.iconst 0, 1) := by decide +kernel
theorem dL_law_2179 : decode cL_law 2179 = .ok (.ireturn, 1) := by decide +kernel
theorem dL_law_2180 : decode cL_law 2180 = .ok (.iload 6, 2) := by decide +kernel
theorem dL_law_2182 : decode cL_law 2182 = .ok (.ifCond .ne 15, 3) := by decide +kernel
theorem dL_law_2185 : decode cL_law 2185 = .ok (.aload_n 3, 1) := by decide +kernel
theorem dL_law_2186 : decode cL_law 2186 = .ok (.iconst 0, 1) := by decide +kernel
theorem dL_law_2187 : decode cL_law 2187 = .ok (.laload, 1) := by decide +kernel
theorem dL_law_2188 : decode cL_law 2188 = .ok (.iload 7, 2) := by decide +kernel
theorem dL_law_2190 : decode cL_law 2190 = .ok (.i2l, 1) := by decide +kernel
theorem dL_law_2191 : decode cL_law 2191 = .ok (.lcmp, 1) := by decide +kernel
theorem dL_law_2192 : decode cL_law 2192 = .ok (.ifCond .eq 5, 3) := by decide +kernel
theorem dL_law_2195 : decode cL_law 2195 = .ok (.iconst 0, 1) := by decide +kernel
theorem dL_law_2196 : decode cL_law 2196 = .ok (.ireturn, 1) := by decide +kernel
theorem dL_law_2197 : decode cL_law 2197 = .ok (.goto 161, 3) := by decide +kernel
theorem dL_law_2200 : decode cL_law 2200 = .ok (.aload_n 1, 1) := by decide +kernel
theorem dL_law_2201 : decode cL_law 2201 = .ok (.aload_n 3, 1) := by decide +kernel
theorem dL_law_2202 : decode cL_law 2202 = .ok (.invokestatic 296, 3) := by decide +kernel
theorem dL_law_2205 : decode cL_law 2205 = .ok (.istore 6, 2) := by decide +kernel
theorem dL_law_2207 : decode cL_law 2207 = .ok (.aload_n 2, 1) := by decide +kernel
theorem dL_law_2208 : decode cL_law 2208 = .ok (.invokevirtual 298, 3) := by decide +kernel
theorem dL_law_2211 : decode cL_law 2211 = .ok (.istore 7, 2) := by decide +kernel
theorem dL_law_2213 : decode cL_law 2213 = .ok (.aload_n 2, 1) := by decide +kernel
theorem dL_law_2214 : decode cL_law 2214 = .ok (.invokevirtual 144, 3) := by decide +kernel
theorem dL_law_2217 : decode cL_law 2217 = .ok (.iload 6, 2) := by decide +kernel
theorem dL_law_2219 : decode cL_law 2219 = .ok (.if_icmp .eq 5, 3) := by decide +kernel
theorem dL_law_2222 : decode cL_law 2222 = .ok (.iconst 0, 1) := by decide +kernel
theorem dL_law_2223 : decode cL_law 2223 = .ok (.ireturn, 1) := by decide +kernel
theorem dL_law_2224 : decode cL_law 2224 = .ok (.iload 6, 2) := by decide +kernel
theorem dL_law_2226 : decode cL_law 2226 = .ok (.ifCond .ne 15, 3) := by decide +kernel
theorem dL_law_2229 : decode cL_law 2229 = .ok (.aload_n 3, 1) := by decide +kernel
theorem dL_law_2230 : decode cL_law 2230 = .ok (.iconst 0, 1) := by decide +kernel
theorem dL_law_2231 : decode cL_law 2231 = .ok (.laload, 1) := by decide +kernel
theorem dL_law_2232 : decode cL_law 2232 = .ok (.iload 7, 2) := by decide +kernel
theorem dL_law_2234 : decode cL_law 2234 = .ok (.i2l, 1) := by decide +kernel
theorem dL_law_2235 : decode cL_law 2235 = .ok (.lcmp, 1) := by decide +kernel
theorem dL_law_2236 : decode cL_law 2236 = .ok (.ifCond .eq 5, 3) := by decide +kernel
theorem dL_law_2239 : decode cL_law 2239 = .ok (.iconst 0, 1) := by decide +kernel
theorem dL_law_2240 : decode cL_law 2240 = .ok (.ireturn, 1) := by decide +kernel
theorem dL_law_2241 : decode cL_law 2241 = .ok (.goto 117, 3) := by decide +kernel
theorem dL_law_2244 : decode cL_law 2244 = .ok (.aload_n 1, 1) := by decide +kernel
theorem dL_law_2245 : decode cL_law 2245 = .ok (.aload_n 3, 1) := by decide +kernel
theorem dL_law_2246 : decode cL_law 2246 = .ok (.invokestatic 299, 3) := by decide +kernel
theorem dL_law_2249 : decode cL_law 2249 = .ok (.istore 6, 2) := by decide +kernel
theorem dL_law_2251 : decode cL_law 2251 = .ok (.aload_n 2, 1) := by decide +kernel
theorem dL_law_2252 : decode cL_law 2252 = .ok (.invokevirtual 301, 3) := by decide +kernel
theorem dL_law_2255 : decode cL_law 2255 = .ok (.istore 7, 2) := by decide +kernel
theorem dL_law_2257 : decode cL_law 2257 = .ok (.aload_n 2, 1) := by decide +kernel
theorem dL_law_2258 : decode cL_law 2258 = .ok (.invokevirtual 144, 3) := by decide +kernel
theorem dL_law_2261 : decode cL_law 2261 = .ok (.iload 6, 2) := by decide +kernel
theorem dL_law_2263 : decode cL_law 2263 = .ok (.if_icmp .eq 5, 3) := by decide +kernel
theorem dL_law_2266 : decode cL_law 2266 = .ok (.iconst 0, 1) := by decide +kernel
theorem dL_law_2267 : decode cL_law 2267 = .ok (.ireturn, 1) := by decide +kernel
theorem dL_law_2268 : decode cL_law 2268 = .ok (.iload 6, 2) := by decide +kernel
theorem dL_law_2270 : decode cL_law 2270 = .ok (.ifCond .ne 15, 3) := by decide +kernel
theorem dL_law_2273 : decode cL_law 2273 = .ok (.aload_n 3, 1) := by decide +kernel
theorem dL_law_2274 : decode cL_law 2274 = .ok (.iconst 0, 1) := by decide +kernel
theorem dL_law_2275 : decode cL_law 2275 = .ok (.laload, 1) := by decide +kernel
theorem dL_law_2276 : decode cL_law 2276 = .ok (.iload 7, 2) := by decide +kernel
theorem dL_law_2278 : decode cL_law 2278 = .ok (.i2l, 1) := by decide +kernel
theorem dL_law_2279 : decode cL_law 2279 = .ok (.lcmp, 1) := by decide +kernel
theorem dL_law_2280 : decode cL_law 2280 = .ok (.ifCond .eq 5, 3) := by decide +kernel
theorem dL_law_2283 : decode cL_law 2283 = .ok (.iconst 0, 1) := by decide +kernel
theorem dL_law_2284 : decode cL_law 2284 = .ok (.ireturn, 1) := by decide +kernel
theorem dL_law_2285 : decode cL_law 2285 = .ok (.goto 73, 3) := by decide +kernel
theorem dL_law_2288 : decode cL_law 2288 = .ok (.aload_n 1, 1) := by decide +kernel
theorem dL_law_2289 : decode cL_law 2289 = .ok (.invokevirtual 302, 3) := by decide +kernel
theorem dL_law_2292 : decode cL_law 2292 = .ok (.aload_n 2, 1) := by decide +kernel
theorem dL_law_2293 : decode cL_law 2293 = .ok (.invokevirtual 305, 3) := by decide +kernel
theorem dL_law_2296 : decode cL_law 2296 = .ok (.if_icmp .eq 62, 3) := by decide +kernel
theorem dL_law_2299 : decode cL_law 2299 = .ok (.iconst 0, 1) := by decide +kernel
theorem dL_law_2300 : decode cL_law 2300 = .ok (.ireturn, 1) := by decide +kernel
theorem dL_law_2301 : decode cL_law 2301 = .ok (.aload_n 1, 1) := by decide +kernel
theorem dL_law_2302 : decode cL_law 2302 = .ok (.invokevirtual 306, 3) := by decide +kernel
theorem dL_law_2305 : decode cL_law 2305 = .ok (.aload_n 2, 1) := by decide +kernel
theorem dL_law_2306 : decode cL_law 2306 = .ok (.invokevirtual 309, 3) := by decide +kernel
theorem dL_law_2309 : decode cL_law 2309 = .ok (.if_icmp .eq 49, 3) := by decide +kernel
theorem dL_law_2312 : decode cL_law 2312 = .ok (.iconst 0, 1) := by decide +kernel
theorem dL_law_2313 : decode cL_law 2313 = .ok (.ireturn, 1) := by decide +kernel
theorem dL_law_2314 : decode cL_law 2314 = .ok (.aload_n 1, 1) := by decide +kernel
theorem dL_law_2315 : decode cL_law 2315 = .ok (.aload_n 3, 1) := by decide +kernel
theorem dL_law_2316 : decode cL_law 2316 = .ok (.invokestatic 310, 3) := by decide +kernel
theorem dL_law_2319 : decode cL_law 2319 = .ok (.istore 6, 2) := by decide +kernel
theorem dL_law_2321 : decode cL_law 2321 = .ok (.aload_n 2, 1) := by decide +kernel
theorem dL_law_2322 : decode cL_law 2322 = .ok (.invokevirtual 312, 3) := by decide +kernel
theorem dL_law_2325 : decode cL_law 2325 = .ok (.istore 7, 2) := by decide +kernel
theorem dL_law_2327 : decode cL_law 2327 = .ok (.aload_n 2, 1) := by decide +kernel
theorem dL_law_2328 : decode cL_law 2328 = .ok (.invokevirtual 144, 3) := by decide +kernel
theorem dL_law_2331 : decode cL_law 2331 = .ok (.iload 6, 2) := by decide +kernel
theorem dL_law_2333 : decode cL_law 2333 = .ok (.if_icmp .eq 5, 3) := by decide +kernel
theorem dL_law_2336 : decode cL_law 2336 = .ok (.iconst 0, 1) := by decide +kernel
theorem dL_law_2337 : decode cL_law 2337 = .ok (.ireturn, 1) := by decide +kernel
theorem dL_law_2338 : decode cL_law 2338 = .ok (.iload 6, 2) := by decide +kernel
theorem dL_law_2340 : decode cL_law 2340 = .ok (.ifCond .ne 15, 3) := by decide +kernel
theorem dL_law_2343 : decode cL_law 2343 = .ok (.aload_n 3, 1) := by decide +kernel
theorem dL_law_2344 : decode cL_law 2344 = .ok (.iconst 0, 1) := by decide +kernel
theorem dL_law_2345 : decode cL_law 2345 = .ok (.laload, 1) := by decide +kernel
theorem dL_law_2346 : decode cL_law 2346 = .ok (.iload 7, 2) := by decide +kernel
theorem dL_law_2348 : decode cL_law 2348 = .ok (.i2l, 1) := by decide +kernel
theorem dL_law_2349 : decode cL_law 2349 = .ok (.lcmp, 1) := by decide +kernel
theorem dL_law_2350 : decode cL_law 2350 = .ok (.ifCond .eq 5, 3) := by decide +kernel
theorem dL_law_2353 : decode cL_law 2353 = .ok (.iconst 0, 1) := by decide +kernel
theorem dL_law_2354 : decode cL_law 2354 = .ok (.ireturn, 1) := by decide +kernel
theorem dL_law_2355 : decode cL_law 2355 = .ok (.goto 3, 3) := by decide +kernel
theorem dL_law_2358 : decode cL_law 2358 = .ok (.iinc 5 4, 3) := by decide +kernel
theorem dL_law_2361 : decode cL_law 2361 = .ok (.goto (-2333), 3) := by decide +kernel
theorem dL_law_2364 : decode cL_law 2364 = .ok (.iconst 1, 1) := by decide +kernel
theorem dL_law_2365 : decode cL_law 2365 = .ok (.ireturn, 1) := by decide +kernel
end
section
/-! the end -/
theorem zz_end : True := trivial
end
