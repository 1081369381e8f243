section
-- ===== PART A: goes FIRST, ahead of the names: the tables' words, and 'selects' of the private methods out of them =====
/-- a private method of a class that the tables say can be made, by its rows of tables_1 -/
def lw_okq (q : MethodName × Nat) : Prop := (q.1.cls ≠ "java/lang/invoke/MethodHandle" ∧ q.1.cls ≠ "java/lang/invoke/VarHandle") ∧ Cond.instantiable q.1.cls q.2 ∈ tables_1 ∧ Cond.privateMethod q.1 ∈ tables_1 ∧ Cond.instanceMethod q.1 ∈ tables_1
theorem lw_p0 : lw_okq (⟨"LineBalancer$Work", "arrange", "(LLineBalancer$State;I)V"⟩, 8) := ⟨⟨by decide +kernel, by decide +kernel⟩, List.mem_of_getElem? (i := 125) (by decide +kernel), List.mem_of_getElem? (i := 310) (by decide +kernel), List.mem_of_getElem? (i := 311) (by decide +kernel)⟩
theorem lw_p1 : lw_okq (⟨"LineBalancer$Work", "collectTools", "(LLineBalancer$State;)V"⟩, 8) := ⟨⟨by decide +kernel, by decide +kernel⟩, List.mem_of_getElem? (i := 125) (by decide +kernel), List.mem_of_getElem? (i := 314) (by decide +kernel), List.mem_of_getElem? (i := 315) (by decide +kernel)⟩
theorem lw_p2 : lw_okq (⟨"LineBalancer$Work", "countChanges", "(LLineBalancer$State;I)I"⟩, 8) := ⟨⟨by decide +kernel, by decide +kernel⟩, List.mem_of_getElem? (i := 125) (by decide +kernel), List.mem_of_getElem? (i := 318) (by decide +kernel), List.mem_of_getElem? (i := 319) (by decide +kernel)⟩
theorem lw_p3 : lw_okq (⟨"LineBalancer$Work", "sumTimes", "(LLineBalancer$State;I)I"⟩, 8) := ⟨⟨by decide +kernel, by decide +kernel⟩, List.mem_of_getElem? (i := 125) (by decide +kernel), List.mem_of_getElem? (i := 322) (by decide +kernel), List.mem_of_getElem? (i := 323) (by decide +kernel)⟩
theorem lw_p4 : lw_okq (⟨"LineBalancer", "remember", "()V"⟩, 8) := ⟨⟨by decide +kernel, by decide +kernel⟩, List.mem_of_getElem? (i := 30) (by decide +kernel), List.mem_of_getElem? (i := 337) (by decide +kernel), List.mem_of_getElem? (i := 338) (by decide +kernel)⟩
theorem lw_p5 : lw_okq (⟨"java/lang/Throwable", "fillInStackTrace", "(I)Ljava/lang/Throwable;"⟩, 6) := ⟨⟨by decide +kernel, by decide +kernel⟩, List.mem_of_getElem? (i := 436) (by decide +kernel), List.mem_of_getElem? (i := 434) (by decide +kernel), List.mem_of_getElem? (i := 435) (by decide +kernel)⟩
theorem lw_p6 : lw_okq (⟨"LineBalancer$State", "followChains", "()V"⟩, 13) := ⟨⟨by decide +kernel, by decide +kernel⟩, List.mem_of_getElem? (i := 38) (by decide +kernel), List.mem_of_getElem? (i := 649) (by decide +kernel), List.mem_of_getElem? (i := 650) (by decide +kernel)⟩
theorem lw_p7 : lw_okq (⟨"LineBalancer", "keepReason", "(I)V"⟩, 8) := ⟨⟨by decide +kernel, by decide +kernel⟩, List.mem_of_getElem? (i := 30) (by decide +kernel), List.mem_of_getElem? (i := 761) (by decide +kernel), List.mem_of_getElem? (i := 762) (by decide +kernel)⟩
theorem lw_p8 : lw_okq (⟨"LineBalancer$Stations", "nextToFill", "(I)I"⟩, 2) := ⟨⟨by decide +kernel, by decide +kernel⟩, List.mem_of_getElem? (i := 119) (by decide +kernel), List.mem_of_getElem? (i := 890) (by decide +kernel), List.mem_of_getElem? (i := 891) (by decide +kernel)⟩
theorem lw_p9 : lw_okq (⟨"LineBalancer$Plan", "prepare", "()V"⟩, 8) := ⟨⟨by decide +kernel, by decide +kernel⟩, List.mem_of_getElem? (i := 169) (by decide +kernel), List.mem_of_getElem? (i := 914) (by decide +kernel), List.mem_of_getElem? (i := 915) (by decide +kernel)⟩
theorem lw_p10 : lw_okq (⟨"LineBalancer$Plan", "copiesNeeded", "(I)I"⟩, 8) := ⟨⟨by decide +kernel, by decide +kernel⟩, List.mem_of_getElem? (i := 169) (by decide +kernel), List.mem_of_getElem? (i := 919) (by decide +kernel), List.mem_of_getElem? (i := 920) (by decide +kernel)⟩
theorem lw_p11 : lw_okq (⟨"LineBalancer$Plan", "isSplit", "(I)Z"⟩, 8) := ⟨⟨by decide +kernel, by decide +kernel⟩, List.mem_of_getElem? (i := 169) (by decide +kernel), List.mem_of_getElem? (i := 923) (by decide +kernel), List.mem_of_getElem? (i := 924) (by decide +kernel)⟩
theorem lw_p12 : lw_okq (⟨"LineBalancer$Plan", "hasAllAhead", "(I)Z"⟩, 8) := ⟨⟨by decide +kernel, by decide +kernel⟩, List.mem_of_getElem? (i := 169) (by decide +kernel), List.mem_of_getElem? (i := 931) (by decide +kernel), List.mem_of_getElem? (i := 932) (by decide +kernel)⟩
theorem lw_p13 : lw_okq (⟨"LineBalancer$Plan", "addStation", "(I)V"⟩, 8) := ⟨⟨by decide +kernel, by decide +kernel⟩, List.mem_of_getElem? (i := 169) (by decide +kernel), List.mem_of_getElem? (i := 941) (by decide +kernel), List.mem_of_getElem? (i := 942) (by decide +kernel)⟩
theorem lw_p14 : lw_okq (⟨"LineBalancer$Plan", "extend", "(II)V"⟩, 8) := ⟨⟨by decide +kernel, by decide +kernel⟩, List.mem_of_getElem? (i := 169) (by decide +kernel), List.mem_of_getElem? (i := 945) (by decide +kernel), List.mem_of_getElem? (i := 946) (by decide +kernel)⟩
theorem lw_p15 : lw_okq (⟨"LineBalancer$Input", "passWord", "()Z"⟩, 5) := ⟨⟨by decide +kernel, by decide +kernel⟩, List.mem_of_getElem? (i := 224) (by decide +kernel), List.mem_of_getElem? (i := 1002) (by decide +kernel), List.mem_of_getElem? (i := 1003) (by decide +kernel)⟩
def lw_privs_1 : List (MethodName × Nat) := [(⟨"LineBalancer$Work", "arrange", "(LLineBalancer$State;I)V"⟩, 8), (⟨"LineBalancer$Work", "collectTools", "(LLineBalancer$State;)V"⟩, 8), (⟨"LineBalancer$Work", "countChanges", "(LLineBalancer$State;I)I"⟩, 8), (⟨"LineBalancer$Work", "sumTimes", "(LLineBalancer$State;I)I"⟩, 8), (⟨"LineBalancer", "remember", "()V"⟩, 8), (⟨"java/lang/Throwable", "fillInStackTrace", "(I)Ljava/lang/Throwable;"⟩, 6), (⟨"LineBalancer$State", "followChains", "()V"⟩, 13), (⟨"LineBalancer", "keepReason", "(I)V"⟩, 8), (⟨"LineBalancer$Stations", "nextToFill", "(I)I"⟩, 2), (⟨"LineBalancer$Plan", "prepare", "()V"⟩, 8), (⟨"LineBalancer$Plan", "copiesNeeded", "(I)I"⟩, 8), (⟨"LineBalancer$Plan", "isSplit", "(I)Z"⟩, 8), (⟨"LineBalancer$Plan", "hasAllAhead", "(I)Z"⟩, 8), (⟨"LineBalancer$Plan", "addStation", "(I)V"⟩, 8), (⟨"LineBalancer$Plan", "extend", "(II)V"⟩, 8), (⟨"LineBalancer$Input", "passWord", "()Z"⟩, 5)]
theorem lw_r1 : ∀ q ∈ lw_privs_1, lw_okq q := List.forall_mem_cons.mpr ⟨lw_p0, List.forall_mem_cons.mpr ⟨lw_p1, List.forall_mem_cons.mpr ⟨lw_p2, List.forall_mem_cons.mpr ⟨lw_p3, List.forall_mem_cons.mpr ⟨lw_p4, List.forall_mem_cons.mpr ⟨lw_p5, List.forall_mem_cons.mpr ⟨lw_p6, List.forall_mem_cons.mpr ⟨lw_p7, List.forall_mem_cons.mpr ⟨lw_p8, List.forall_mem_cons.mpr ⟨lw_p9, List.forall_mem_cons.mpr ⟨lw_p10, List.forall_mem_cons.mpr ⟨lw_p11, List.forall_mem_cons.mpr ⟨lw_p12, List.forall_mem_cons.mpr ⟨lw_p13, List.forall_mem_cons.mpr ⟨lw_p14, List.forall_mem_cons.mpr ⟨lw_p15, fun _ h => absurd h List.not_mem_nil⟩⟩⟩⟩⟩⟩⟩⟩⟩⟩⟩⟩⟩⟩⟩⟩
theorem lw_p16 : lw_okq (⟨"LineBalancer$Input", "isBetween", "(ICC)Z"⟩, 5) := ⟨⟨by decide +kernel, by decide +kernel⟩, List.mem_of_getElem? (i := 224) (by decide +kernel), List.mem_of_getElem? (i := 1006) (by decide +kernel), List.mem_of_getElem? (i := 1007) (by decide +kernel)⟩
theorem lw_p17 : lw_okq (⟨"LineBalancer$Input", "commandAt", "(II)LLineBalancer$Command;"⟩, 5) := ⟨⟨by decide +kernel, by decide +kernel⟩, List.mem_of_getElem? (i := 224) (by decide +kernel), List.mem_of_getElem? (i := 1010) (by decide +kernel), List.mem_of_getElem? (i := 1011) (by decide +kernel)⟩
theorem lw_p18 : lw_okq (⟨"LineBalancer$Input", "isWord", "(Ljava/lang/String;II)Z"⟩, 5) := ⟨⟨by decide +kernel, by decide +kernel⟩, List.mem_of_getElem? (i := 224) (by decide +kernel), List.mem_of_getElem? (i := 1016) (by decide +kernel), List.mem_of_getElem? (i := 1017) (by decide +kernel)⟩
theorem lw_p19 : lw_okq (⟨"LineBalancer$Input", "passNumber", "(I)Z"⟩, 5) := ⟨⟨by decide +kernel, by decide +kernel⟩, List.mem_of_getElem? (i := 224) (by decide +kernel), List.mem_of_getElem? (i := 1068) (by decide +kernel), List.mem_of_getElem? (i := 1069) (by decide +kernel)⟩
theorem lw_p20 : lw_okq (⟨"LineBalancer", "carryOutAll", "()I"⟩, 8) := ⟨⟨by decide +kernel, by decide +kernel⟩, List.mem_of_getElem? (i := 30) (by decide +kernel), List.mem_of_getElem? (i := 1080) (by decide +kernel), List.mem_of_getElem? (i := 1081) (by decide +kernel)⟩
theorem lw_p21 : lw_okq (⟨"LineBalancer", "isCarriedOut", "()Z"⟩, 8) := ⟨⟨by decide +kernel, by decide +kernel⟩, List.mem_of_getElem? (i := 30) (by decide +kernel), List.mem_of_getElem? (i := 1086) (by decide +kernel), List.mem_of_getElem? (i := 1087) (by decide +kernel)⟩
theorem lw_p22 : lw_okq (⟨"LineBalancer", "isAdded", "(IIII)Z"⟩, 8) := ⟨⟨by decide +kernel, by decide +kernel⟩, List.mem_of_getElem? (i := 30) (by decide +kernel), List.mem_of_getElem? (i := 1092) (by decide +kernel), List.mem_of_getElem? (i := 1093) (by decide +kernel)⟩
theorem lw_p23 : lw_okq (⟨"LineBalancer", "isLinked", "(II)Z"⟩, 8) := ⟨⟨by decide +kernel, by decide +kernel⟩, List.mem_of_getElem? (i := 30) (by decide +kernel), List.mem_of_getElem? (i := 1098) (by decide +kernel), List.mem_of_getElem? (i := 1099) (by decide +kernel)⟩
theorem lw_p24 : lw_okq (⟨"LineBalancer", "isPut", "(II)Z"⟩, 8) := ⟨⟨by decide +kernel, by decide +kernel⟩, List.mem_of_getElem? (i := 30) (by decide +kernel), List.mem_of_getElem? (i := 1104) (by decide +kernel), List.mem_of_getElem? (i := 1105) (by decide +kernel)⟩
theorem lw_p25 : lw_okq (⟨"LineBalancer", "isCycleSet", "(I)Z"⟩, 8) := ⟨⟨by decide +kernel, by decide +kernel⟩, List.mem_of_getElem? (i := 30) (by decide +kernel), List.mem_of_getElem? (i := 1110) (by decide +kernel), List.mem_of_getElem? (i := 1111) (by decide +kernel)⟩
theorem lw_p26 : lw_okq (⟨"LineBalancer", "isPaired", "(IIZ)Z"⟩, 8) := ⟨⟨by decide +kernel, by decide +kernel⟩, List.mem_of_getElem? (i := 30) (by decide +kernel), List.mem_of_getElem? (i := 1116) (by decide +kernel), List.mem_of_getElem? (i := 1117) (by decide +kernel)⟩
theorem lw_p27 : lw_okq (⟨"LineBalancerModel", "remembers", "()V"⟩, 22) := ⟨⟨by decide +kernel, by decide +kernel⟩, List.mem_of_getElem? (i := 1143) (by decide +kernel), List.mem_of_getElem? (i := 1232) (by decide +kernel), List.mem_of_getElem? (i := 1233) (by decide +kernel)⟩
theorem lw_p28 : lw_okq (⟨"LineBalancerModel", "fails", "(I)I"⟩, 22) := ⟨⟨by decide +kernel, by decide +kernel⟩, List.mem_of_getElem? (i := 1143) (by decide +kernel), List.mem_of_getElem? (i := 1239) (by decide +kernel), List.mem_of_getElem? (i := 1240) (by decide +kernel)⟩
theorem lw_p29 : lw_okq (⟨"LineBalancerModel", "done", "(I)I"⟩, 22) := ⟨⟨by decide +kernel, by decide +kernel⟩, List.mem_of_getElem? (i := 1143) (by decide +kernel), List.mem_of_getElem? (i := 1243) (by decide +kernel), List.mem_of_getElem? (i := 1244) (by decide +kernel)⟩
theorem lw_p30 : lw_okq (⟨"LineBalancerModel", "changed", "(I)I"⟩, 22) := ⟨⟨by decide +kernel, by decide +kernel⟩, List.mem_of_getElem? (i := 1143) (by decide +kernel), List.mem_of_getElem? (i := 1247) (by decide +kernel), List.mem_of_getElem? (i := 1248) (by decide +kernel)⟩
theorem lw_p31 : lw_okq (⟨"LineBalancerModel", "keeps", "()V"⟩, 22) := ⟨⟨by decide +kernel, by decide +kernel⟩, List.mem_of_getElem? (i := 1143) (by decide +kernel), List.mem_of_getElem? (i := 1251) (by decide +kernel), List.mem_of_getElem? (i := 1252) (by decide +kernel)⟩
def lw_privs_2 : List (MethodName × Nat) := [(⟨"LineBalancer$Input", "isBetween", "(ICC)Z"⟩, 5), (⟨"LineBalancer$Input", "commandAt", "(II)LLineBalancer$Command;"⟩, 5), (⟨"LineBalancer$Input", "isWord", "(Ljava/lang/String;II)Z"⟩, 5), (⟨"LineBalancer$Input", "passNumber", "(I)Z"⟩, 5), (⟨"LineBalancer", "carryOutAll", "()I"⟩, 8), (⟨"LineBalancer", "isCarriedOut", "()Z"⟩, 8), (⟨"LineBalancer", "isAdded", "(IIII)Z"⟩, 8), (⟨"LineBalancer", "isLinked", "(II)Z"⟩, 8), (⟨"LineBalancer", "isPut", "(II)Z"⟩, 8), (⟨"LineBalancer", "isCycleSet", "(I)Z"⟩, 8), (⟨"LineBalancer", "isPaired", "(IIZ)Z"⟩, 8), (⟨"LineBalancerModel", "remembers", "()V"⟩, 22), (⟨"LineBalancerModel", "fails", "(I)I"⟩, 22), (⟨"LineBalancerModel", "done", "(I)I"⟩, 22), (⟨"LineBalancerModel", "changed", "(I)I"⟩, 22), (⟨"LineBalancerModel", "keeps", "()V"⟩, 22)]
theorem lw_r2 : ∀ q ∈ lw_privs_2, lw_okq q := List.forall_mem_cons.mpr ⟨lw_p16, List.forall_mem_cons.mpr ⟨lw_p17, List.forall_mem_cons.mpr ⟨lw_p18, List.forall_mem_cons.mpr ⟨lw_p19, List.forall_mem_cons.mpr ⟨lw_p20, List.forall_mem_cons.mpr ⟨lw_p21, List.forall_mem_cons.mpr ⟨lw_p22, List.forall_mem_cons.mpr ⟨lw_p23, List.forall_mem_cons.mpr ⟨lw_p24, List.forall_mem_cons.mpr ⟨lw_p25, List.forall_mem_cons.mpr ⟨lw_p26, List.forall_mem_cons.mpr ⟨lw_p27, List.forall_mem_cons.mpr ⟨lw_p28, List.forall_mem_cons.mpr ⟨lw_p29, List.forall_mem_cons.mpr ⟨lw_p30, List.forall_mem_cons.mpr ⟨lw_p31, fun _ h => absurd h List.not_mem_nil⟩⟩⟩⟩⟩⟩⟩⟩⟩⟩⟩⟩⟩⟩⟩⟩
theorem lw_p32 : lw_okq (⟨"LineBalancerModel", "setsRule", "(II)I"⟩, 22) := ⟨⟨by decide +kernel, by decide +kernel⟩, List.mem_of_getElem? (i := 1143) (by decide +kernel), List.mem_of_getElem? (i := 1263) (by decide +kernel), List.mem_of_getElem? (i := 1264) (by decide +kernel)⟩
theorem lw_p33 : lw_okq (⟨"LineBalancerModel", "totalDemand", "()I"⟩, 22) := ⟨⟨by decide +kernel, by decide +kernel⟩, List.mem_of_getElem? (i := 1143) (by decide +kernel), List.mem_of_getElem? (i := 1274) (by decide +kernel), List.mem_of_getElem? (i := 1275) (by decide +kernel)⟩
theorem lw_p34 : lw_okq (⟨"LineBalancerModel", "addsTask", "(IIII)I"⟩, 22) := ⟨⟨by decide +kernel, by decide +kernel⟩, List.mem_of_getElem? (i := 1143) (by decide +kernel), List.mem_of_getElem? (i := 1289) (by decide +kernel), List.mem_of_getElem? (i := 1290) (by decide +kernel)⟩
theorem lw_p35 : lw_okq (⟨"LineBalancerModel", "sets", "(III)V"⟩, 22) := ⟨⟨by decide +kernel, by decide +kernel⟩, List.mem_of_getElem? (i := 1143) (by decide +kernel), List.mem_of_getElem? (i := 1293) (by decide +kernel), List.mem_of_getElem? (i := 1294) (by decide +kernel)⟩
theorem lw_p36 : lw_okq (⟨"LineBalancerModel", "isTask", "(I)Z"⟩, 22) := ⟨⟨by decide +kernel, by decide +kernel⟩, List.mem_of_getElem? (i := 1143) (by decide +kernel), List.mem_of_getElem? (i := 1301) (by decide +kernel), List.mem_of_getElem? (i := 1302) (by decide +kernel)⟩
theorem lw_p37 : lw_okq (⟨"LineBalancerModel", "of", "(II)I"⟩, 22) := ⟨⟨by decide +kernel, by decide +kernel⟩, List.mem_of_getElem? (i := 1143) (by decide +kernel), List.mem_of_getElem? (i := 1305) (by decide +kernel), List.mem_of_getElem? (i := 1306) (by decide +kernel)⟩
theorem lw_p38 : lw_okq (⟨"LineBalancerModel", "putsBefore", "(II)I"⟩, 22) := ⟨⟨by decide +kernel, by decide +kernel⟩, List.mem_of_getElem? (i := 1143) (by decide +kernel), List.mem_of_getElem? (i := 1317) (by decide +kernel), List.mem_of_getElem? (i := 1318) (by decide +kernel)⟩
theorem lw_p39 : lw_okq (⟨"LineBalancerModel", "aheadOf", "(I)I"⟩, 22) := ⟨⟨by decide +kernel, by decide +kernel⟩, List.mem_of_getElem? (i := 1143) (by decide +kernel), List.mem_of_getElem? (i := 1324) (by decide +kernel), List.mem_of_getElem? (i := 1325) (by decide +kernel)⟩
theorem lw_p40 : lw_okq (⟨"LineBalancerModel", "pairs", "(IIZ)I"⟩, 22) := ⟨⟨by decide +kernel, by decide +kernel⟩, List.mem_of_getElem? (i := 1143) (by decide +kernel), List.mem_of_getElem? (i := 1335) (by decide +kernel), List.mem_of_getElem? (i := 1336) (by decide +kernel)⟩
theorem lw_p41 : lw_okq (⟨"LineBalancerModel", "pairOf", "(II)I"⟩, 22) := ⟨⟨by decide +kernel, by decide +kernel⟩, List.mem_of_getElem? (i := 1143) (by decide +kernel), List.mem_of_getElem? (i := 1339) (by decide +kernel), List.mem_of_getElem? (i := 1340) (by decide +kernel)⟩
theorem lw_p42 : lw_okq (⟨"LineBalancerModel", "parts", "(II)V"⟩, 22) := ⟨⟨by decide +kernel, by decide +kernel⟩, List.mem_of_getElem? (i := 1143) (by decide +kernel), List.mem_of_getElem? (i := 1343) (by decide +kernel), List.mem_of_getElem? (i := 1344) (by decide +kernel)⟩
theorem lw_p43 : lw_okq (⟨"LineBalancerModel", "weighted", "(I)I"⟩, 22) := ⟨⟨by decide +kernel, by decide +kernel⟩, List.mem_of_getElem? (i := 1143) (by decide +kernel), List.mem_of_getElem? (i := 1355) (by decide +kernel), List.mem_of_getElem? (i := 1356) (by decide +kernel)⟩
theorem lw_p44 : lw_okq (⟨"LineBalancerModel", "behind", "(I)I"⟩, 22) := ⟨⟨by decide +kernel, by decide +kernel⟩, List.mem_of_getElem? (i := 1143) (by decide +kernel), List.mem_of_getElem? (i := 1359) (by decide +kernel), List.mem_of_getElem? (i := 1360) (by decide +kernel)⟩
theorem lw_p45 : lw_okq (⟨"LineBalancerModel", "lowest", "(I)I"⟩, 22) := ⟨⟨by decide +kernel, by decide +kernel⟩, List.mem_of_getElem? (i := 1143) (by decide +kernel), List.mem_of_getElem? (i := 1363) (by decide +kernel), List.mem_of_getElem? (i := 1364) (by decide +kernel)⟩
theorem lw_p46 : lw_okq (⟨"LineBalancerModel", "refuses", "(II)I"⟩, 22) := ⟨⟨by decide +kernel, by decide +kernel⟩, List.mem_of_getElem? (i := 1143) (by decide +kernel), List.mem_of_getElem? (i := 1367) (by decide +kernel), List.mem_of_getElem? (i := 1368) (by decide +kernel)⟩
theorem lw_p47 : lw_okq (⟨"LineBalancerModel", "inStation", "(I)I"⟩, 22) := ⟨⟨by decide +kernel, by decide +kernel⟩, List.mem_of_getElem? (i := 1143) (by decide +kernel), List.mem_of_getElem? (i := 1371) (by decide +kernel), List.mem_of_getElem? (i := 1372) (by decide +kernel)⟩
def lw_privs_3 : List (MethodName × Nat) := [(⟨"LineBalancerModel", "setsRule", "(II)I"⟩, 22), (⟨"LineBalancerModel", "totalDemand", "()I"⟩, 22), (⟨"LineBalancerModel", "addsTask", "(IIII)I"⟩, 22), (⟨"LineBalancerModel", "sets", "(III)V"⟩, 22), (⟨"LineBalancerModel", "isTask", "(I)Z"⟩, 22), (⟨"LineBalancerModel", "of", "(II)I"⟩, 22), (⟨"LineBalancerModel", "putsBefore", "(II)I"⟩, 22), (⟨"LineBalancerModel", "aheadOf", "(I)I"⟩, 22), (⟨"LineBalancerModel", "pairs", "(IIZ)I"⟩, 22), (⟨"LineBalancerModel", "pairOf", "(II)I"⟩, 22), (⟨"LineBalancerModel", "parts", "(II)V"⟩, 22), (⟨"LineBalancerModel", "weighted", "(I)I"⟩, 22), (⟨"LineBalancerModel", "behind", "(I)I"⟩, 22), (⟨"LineBalancerModel", "lowest", "(I)I"⟩, 22), (⟨"LineBalancerModel", "refuses", "(II)I"⟩, 22), (⟨"LineBalancerModel", "inStation", "(I)I"⟩, 22)]
theorem lw_r3 : ∀ q ∈ lw_privs_3, lw_okq q := List.forall_mem_cons.mpr ⟨lw_p32, List.forall_mem_cons.mpr ⟨lw_p33, List.forall_mem_cons.mpr ⟨lw_p34, List.forall_mem_cons.mpr ⟨lw_p35, List.forall_mem_cons.mpr ⟨lw_p36, List.forall_mem_cons.mpr ⟨lw_p37, List.forall_mem_cons.mpr ⟨lw_p38, List.forall_mem_cons.mpr ⟨lw_p39, List.forall_mem_cons.mpr ⟨lw_p40, List.forall_mem_cons.mpr ⟨lw_p41, List.forall_mem_cons.mpr ⟨lw_p42, List.forall_mem_cons.mpr ⟨lw_p43, List.forall_mem_cons.mpr ⟨lw_p44, List.forall_mem_cons.mpr ⟨lw_p45, List.forall_mem_cons.mpr ⟨lw_p46, List.forall_mem_cons.mpr ⟨lw_p47, fun _ h => absurd h List.not_mem_nil⟩⟩⟩⟩⟩⟩⟩⟩⟩⟩⟩⟩⟩⟩⟩⟩
theorem lw_p48 : lw_okq (⟨"LineBalancerModel", "toolsOf", "(I)I"⟩, 22) := ⟨⟨by decide +kernel, by decide +kernel⟩, List.mem_of_getElem? (i := 1143) (by decide +kernel), List.mem_of_getElem? (i := 1375) (by decide +kernel), List.mem_of_getElem? (i := 1376) (by decide +kernel)⟩
theorem lw_p49 : lw_okq (⟨"LineBalancerModel", "fits", "(II)Z"⟩, 22) := ⟨⟨by decide +kernel, by decide +kernel⟩, List.mem_of_getElem? (i := 1143) (by decide +kernel), List.mem_of_getElem? (i := 1379) (by decide +kernel), List.mem_of_getElem? (i := 1380) (by decide +kernel)⟩
theorem lw_p50 : lw_okq (⟨"LineBalancerModel", "loadOf", "(I)I"⟩, 22) := ⟨⟨by decide +kernel, by decide +kernel⟩, List.mem_of_getElem? (i := 1143) (by decide +kernel), List.mem_of_getElem? (i := 1383) (by decide +kernel), List.mem_of_getElem? (i := 1384) (by decide +kernel)⟩
theorem lw_p51 : lw_okq (⟨"LineBalancerModel", "tellRow", "(I)V"⟩, 22) := ⟨⟨by decide +kernel, by decide +kernel⟩, List.mem_of_getElem? (i := 1143) (by decide +kernel), List.mem_of_getElem? (i := 1387) (by decide +kernel), List.mem_of_getElem? (i := 1388) (by decide +kernel)⟩
theorem lw_p52 : lw_okq (⟨"LineBalancerModel", "timeOf", "(I)I"⟩, 22) := ⟨⟨by decide +kernel, by decide +kernel⟩, List.mem_of_getElem? (i := 1143) (by decide +kernel), List.mem_of_getElem? (i := 1391) (by decide +kernel), List.mem_of_getElem? (i := 1392) (by decide +kernel)⟩
theorem lw_p53 : lw_okq (⟨"LineBalancerModel", "changes", "(I)I"⟩, 22) := ⟨⟨by decide +kernel, by decide +kernel⟩, List.mem_of_getElem? (i := 1143) (by decide +kernel), List.mem_of_getElem? (i := 1395) (by decide +kernel), List.mem_of_getElem? (i := 1396) (by decide +kernel)⟩
theorem lw_p54 : lw_okq (⟨"LineBalancerModel", "worth", "(II)I"⟩, 22) := ⟨⟨by decide +kernel, by decide +kernel⟩, List.mem_of_getElem? (i := 1143) (by decide +kernel), List.mem_of_getElem? (i := 1403) (by decide +kernel), List.mem_of_getElem? (i := 1404) (by decide +kernel)⟩
theorem lw_p55 : lw_okq (⟨"LineBalancerModel", "assigns", "(II)I"⟩, 22) := ⟨⟨by decide +kernel, by decide +kernel⟩, List.mem_of_getElem? (i := 1143) (by decide +kernel), List.mem_of_getElem? (i := 1415) (by decide +kernel), List.mem_of_getElem? (i := 1416) (by decide +kernel)⟩
theorem lw_p56 : lw_okq (⟨"LineBalancerModel", "lacks", "(I)I"⟩, 22) := ⟨⟨by decide +kernel, by decide +kernel⟩, List.mem_of_getElem? (i := 1143) (by decide +kernel), List.mem_of_getElem? (i := 1431) (by decide +kernel), List.mem_of_getElem? (i := 1432) (by decide +kernel)⟩
theorem lw_p57 : lw_okq (⟨"LineBalancerModel", "most", "(I)I"⟩, 22) := ⟨⟨by decide +kernel, by decide +kernel⟩, List.mem_of_getElem? (i := 1143) (by decide +kernel), List.mem_of_getElem? (i := 1435) (by decide +kernel), List.mem_of_getElem? (i := 1436) (by decide +kernel)⟩
theorem lw_p58 : lw_okq (⟨"LineBalancerModel", "overAll", "(I)I"⟩, 22) := ⟨⟨by decide +kernel, by decide +kernel⟩, List.mem_of_getElem? (i := 1143) (by decide +kernel), List.mem_of_getElem? (i := 1451) (by decide +kernel), List.mem_of_getElem? (i := 1452) (by decide +kernel)⟩
theorem lw_p59 : lw_okq (⟨"LineBalancerModel", "busiest", "()I"⟩, 22) := ⟨⟨by decide +kernel, by decide +kernel⟩, List.mem_of_getElem? (i := 1143) (by decide +kernel), List.mem_of_getElem? (i := 1455) (by decide +kernel), List.mem_of_getElem? (i := 1456) (by decide +kernel)⟩
theorem lw_p60 : lw_okq (⟨"LineBalancerModel", "refused", "()I"⟩, 22) := ⟨⟨by decide +kernel, by decide +kernel⟩, List.mem_of_getElem? (i := 1143) (by decide +kernel), List.mem_of_getElem? (i := 1459) (by decide +kernel), List.mem_of_getElem? (i := 1460) (by decide +kernel)⟩
theorem lw_p61 : lw_okq (⟨"LineBalancerModel", "sumOfAll", "()I"⟩, 22) := ⟨⟨by decide +kernel, by decide +kernel⟩, List.mem_of_getElem? (i := 1143) (by decide +kernel), List.mem_of_getElem? (i := 1463) (by decide +kernel), List.mem_of_getElem? (i := 1464) (by decide +kernel)⟩
theorem lw_p62 : lw_okq (⟨"LineBalancerModel", "nextTask", "(I)I"⟩, 22) := ⟨⟨by decide +kernel, by decide +kernel⟩, List.mem_of_getElem? (i := 1143) (by decide +kernel), List.mem_of_getElem? (i := 1483) (by decide +kernel), List.mem_of_getElem? (i := 1484) (by decide +kernel)⟩
theorem lw_p63 : lw_okq (⟨"LineBalancerModel", "brings", "()V"⟩, 22) := ⟨⟨by decide +kernel, by decide +kernel⟩, List.mem_of_getElem? (i := 1143) (by decide +kernel), List.mem_of_getElem? (i := 1487) (by decide +kernel), List.mem_of_getElem? (i := 1488) (by decide +kernel)⟩
def lw_privs_4 : List (MethodName × Nat) := [(⟨"LineBalancerModel", "toolsOf", "(I)I"⟩, 22), (⟨"LineBalancerModel", "fits", "(II)Z"⟩, 22), (⟨"LineBalancerModel", "loadOf", "(I)I"⟩, 22), (⟨"LineBalancerModel", "tellRow", "(I)V"⟩, 22), (⟨"LineBalancerModel", "timeOf", "(I)I"⟩, 22), (⟨"LineBalancerModel", "changes", "(I)I"⟩, 22), (⟨"LineBalancerModel", "worth", "(II)I"⟩, 22), (⟨"LineBalancerModel", "assigns", "(II)I"⟩, 22), (⟨"LineBalancerModel", "lacks", "(I)I"⟩, 22), (⟨"LineBalancerModel", "most", "(I)I"⟩, 22), (⟨"LineBalancerModel", "overAll", "(I)I"⟩, 22), (⟨"LineBalancerModel", "busiest", "()I"⟩, 22), (⟨"LineBalancerModel", "refused", "()I"⟩, 22), (⟨"LineBalancerModel", "sumOfAll", "()I"⟩, 22), (⟨"LineBalancerModel", "nextTask", "(I)I"⟩, 22), (⟨"LineBalancerModel", "brings", "()V"⟩, 22)]
theorem lw_r4 : ∀ q ∈ lw_privs_4, lw_okq q := List.forall_mem_cons.mpr ⟨lw_p48, List.forall_mem_cons.mpr ⟨lw_p49, List.forall_mem_cons.mpr ⟨lw_p50, List.forall_mem_cons.mpr ⟨lw_p51, List.forall_mem_cons.mpr ⟨lw_p52, List.forall_mem_cons.mpr ⟨lw_p53, List.forall_mem_cons.mpr ⟨lw_p54, List.forall_mem_cons.mpr ⟨lw_p55, List.forall_mem_cons.mpr ⟨lw_p56, List.forall_mem_cons.mpr ⟨lw_p57, List.forall_mem_cons.mpr ⟨lw_p58, List.forall_mem_cons.mpr ⟨lw_p59, List.forall_mem_cons.mpr ⟨lw_p60, List.forall_mem_cons.mpr ⟨lw_p61, List.forall_mem_cons.mpr ⟨lw_p62, List.forall_mem_cons.mpr ⟨lw_p63, fun _ h => absurd h List.not_mem_nil⟩⟩⟩⟩⟩⟩⟩⟩⟩⟩⟩⟩⟩⟩⟩⟩
theorem lw_p64 : lw_okq (⟨"LineBalancerModel", "leastOf", "()I"⟩, 22) := ⟨⟨by decide +kernel, by decide +kernel⟩, List.mem_of_getElem? (i := 1143) (by decide +kernel), List.mem_of_getElem? (i := 1495) (by decide +kernel), List.mem_of_getElem? (i := 1496) (by decide +kernel)⟩
theorem lw_p65 : lw_okq (⟨"LineBalancerModel", "tellSets", "()V"⟩, 22) := ⟨⟨by decide +kernel, by decide +kernel⟩, List.mem_of_getElem? (i := 1143) (by decide +kernel), List.mem_of_getElem? (i := 1499) (by decide +kernel), List.mem_of_getElem? (i := 1500) (by decide +kernel)⟩
theorem lw_p66 : lw_okq (⟨"LineBalancerModel", "isSet", "(I)Z"⟩, 22) := ⟨⟨by decide +kernel, by decide +kernel⟩, List.mem_of_getElem? (i := 1143) (by decide +kernel), List.mem_of_getElem? (i := 1503) (by decide +kernel), List.mem_of_getElem? (i := 1504) (by decide +kernel)⟩
theorem lw_p67 : lw_okq (⟨"LineBalancerModel", "tellsNothing", "()V"⟩, 22) := ⟨⟨by decide +kernel, by decide +kernel⟩, List.mem_of_getElem? (i := 1143) (by decide +kernel), List.mem_of_getElem? (i := 1507) (by decide +kernel), List.mem_of_getElem? (i := 1508) (by decide +kernel)⟩
theorem lw_p68 : lw_okq (⟨"LineBalancerModel", "linesOf", "(I)J"⟩, 22) := ⟨⟨by decide +kernel, by decide +kernel⟩, List.mem_of_getElem? (i := 1143) (by decide +kernel), List.mem_of_getElem? (i := 1511) (by decide +kernel), List.mem_of_getElem? (i := 1512) (by decide +kernel)⟩
theorem lw_p69 : lw_okq (⟨"LineBalancerModel", "isTold", "(II)Z"⟩, 22) := ⟨⟨by decide +kernel, by decide +kernel⟩, List.mem_of_getElem? (i := 1143) (by decide +kernel), List.mem_of_getElem? (i := 1515) (by decide +kernel), List.mem_of_getElem? (i := 1516) (by decide +kernel)⟩
theorem lw_p70 : lw_okq (⟨"LineBalancerModel", "readsCommand", "()Z"⟩, 22) := ⟨⟨by decide +kernel, by decide +kernel⟩, List.mem_of_getElem? (i := 1143) (by decide +kernel), List.mem_of_getElem? (i := 1535) (by decide +kernel), List.mem_of_getElem? (i := 1536) (by decide +kernel)⟩
theorem lw_p71 : lw_okq (⟨"LineBalancerModel", "readsWord", "()I"⟩, 22) := ⟨⟨by decide +kernel, by decide +kernel⟩, List.mem_of_getElem? (i := 1143) (by decide +kernel), List.mem_of_getElem? (i := 1539) (by decide +kernel), List.mem_of_getElem? (i := 1540) (by decide +kernel)⟩
theorem lw_p72 : lw_okq (⟨"LineBalancerModel", "readsNumber", "(I)Z"⟩, 22) := ⟨⟨by decide +kernel, by decide +kernel⟩, List.mem_of_getElem? (i := 1143) (by decide +kernel), List.mem_of_getElem? (i := 1545) (by decide +kernel), List.mem_of_getElem? (i := 1546) (by decide +kernel)⟩
theorem lw_p73 : lw_okq (⟨"LineBalancerModel", "here", "()I"⟩, 22) := ⟨⟨by decide +kernel, by decide +kernel⟩, List.mem_of_getElem? (i := 1143) (by decide +kernel), List.mem_of_getElem? (i := 1549) (by decide +kernel), List.mem_of_getElem? (i := 1550) (by decide +kernel)⟩
theorem lw_p74 : lw_okq (⟨"LineBalancerModel", "eatsEnd", "()Z"⟩, 22) := ⟨⟨by decide +kernel, by decide +kernel⟩, List.mem_of_getElem? (i := 1143) (by decide +kernel), List.mem_of_getElem? (i := 1553) (by decide +kernel), List.mem_of_getElem? (i := 1554) (by decide +kernel)⟩
theorem lw_p75 : lw_okq (⟨"LineBalancerModel", "does", "()I"⟩, 22) := ⟨⟨by decide +kernel, by decide +kernel⟩, List.mem_of_getElem? (i := 1143) (by decide +kernel), List.mem_of_getElem? (i := 1557) (by decide +kernel), List.mem_of_getElem? (i := 1558) (by decide +kernel)⟩
def lw_privs_5 : List (MethodName × Nat) := [(⟨"LineBalancerModel", "leastOf", "()I"⟩, 22), (⟨"LineBalancerModel", "tellSets", "()V"⟩, 22), (⟨"LineBalancerModel", "isSet", "(I)Z"⟩, 22), (⟨"LineBalancerModel", "tellsNothing", "()V"⟩, 22), (⟨"LineBalancerModel", "linesOf", "(I)J"⟩, 22), (⟨"LineBalancerModel", "isTold", "(II)Z"⟩, 22), (⟨"LineBalancerModel", "readsCommand", "()Z"⟩, 22), (⟨"LineBalancerModel", "readsWord", "()I"⟩, 22), (⟨"LineBalancerModel", "readsNumber", "(I)Z"⟩, 22), (⟨"LineBalancerModel", "here", "()I"⟩, 22), (⟨"LineBalancerModel", "eatsEnd", "()Z"⟩, 22), (⟨"LineBalancerModel", "does", "()I"⟩, 22)]
theorem lw_r5 : ∀ q ∈ lw_privs_5, lw_okq q := List.forall_mem_cons.mpr ⟨lw_p64, List.forall_mem_cons.mpr ⟨lw_p65, List.forall_mem_cons.mpr ⟨lw_p66, List.forall_mem_cons.mpr ⟨lw_p67, List.forall_mem_cons.mpr ⟨lw_p68, List.forall_mem_cons.mpr ⟨lw_p69, List.forall_mem_cons.mpr ⟨lw_p70, List.forall_mem_cons.mpr ⟨lw_p71, List.forall_mem_cons.mpr ⟨lw_p72, List.forall_mem_cons.mpr ⟨lw_p73, List.forall_mem_cons.mpr ⟨lw_p74, List.forall_mem_cons.mpr ⟨lw_p75, fun _ h => absurd h List.not_mem_nil⟩⟩⟩⟩⟩⟩⟩⟩⟩⟩⟩⟩
def lw_privs : List (MethodName × Nat) := lw_privs_1 ++ (lw_privs_2 ++ (lw_privs_3 ++ (lw_privs_4 ++ (lw_privs_5))))
def lw_tbl : List Cond := k2_sels lw_privs ++ tables_1
theorem lw_privs_ok : ∀ q ∈ lw_privs, lw_okq q := by
  show ∀ q ∈ lw_privs_1 ++ (lw_privs_2 ++ (lw_privs_3 ++ (lw_privs_4 ++ (lw_privs_5)))), lw_okq q
  exact List.forall_mem_append.mpr ⟨lw_r1, List.forall_mem_append.mpr ⟨lw_r2, List.forall_mem_append.mpr ⟨lw_r3, List.forall_mem_append.mpr ⟨lw_r4, lw_r5⟩⟩⟩⟩
/-- the streams that the claim lets the run draw from -/
abbrev lw_cs : List Choice := [Jvm.Choice.named "NaN.bits"]
theorem lw_bits : nanBits ∈ lw_cs := by first | decide | exact List.mem_cons_self | simp [lw_cs, nanBits]
/-! ===== BEGIN words of one list among another's, by their places ===== -/
theorem goodIn_r {big : List Cond} (ws : List Cond) (ps : List Nat) (hp : ws = ps.filterMap (fun i => big[i]?)) (h : ws.all goodWord = true) : GoodIn big ws := by
  intro w hw
  have h1 := List.all_eq_true.mp h w hw
  rw [hp] at hw
  obtain ⟨i, -, hi⟩ := List.mem_filterMap.mp hw
  have hm : w ∈ big := by first | exact List.mem_of_getElem? hi | exact List.getElem?_mem hi
  exact ⟨hm, good_of_word h1⟩
theorem goodIn_app {big a b : List Cond} (ha : GoodIn big a) (hb : GoodIn big b) : GoodIn big (a ++ b) := fun w h => (List.mem_append.mp h).elim (ha w) (hb w)
theorem goodIn_ca {big a b : List Cond} {c : Cond} (ha : GoodIn big (c :: a)) (hb : GoodIn big b) : GoodIn big (c :: (a ++ b)) := fun w h => (List.mem_cons.mp h).elim (fun e => ha w (List.mem_cons.mpr (Or.inl e))) (fun h => (List.mem_append.mp h).elim (fun h => ha w (List.mem_cons.mpr (Or.inr h))) (hb w))
theorem goodIn_sub {big ws : List Cond} (hm : ∀ w ∈ ws, w ∈ big) (h : ws.all goodWord = true) : GoodIn big ws := fun w hw => ⟨hm w hw, good_of_word (List.all_eq_true.mp h w hw)⟩
/-! ===== END ===== -/

/-! ===== BEGIN exceptions that leave a method, and their catching by the caller (launches without stack traces) ===== -/
section VXA
/-! The laws vx_back, vx_callV, vx_callS, vx_callSW, vx_throw0, vx_throwS follow proofs of the library, with one case more: JvmDerived/Free/Laws.lean (Back.of_free), Shelf42/LK1.lean (callV, callS), Shelf/KitTraced.lean (throwNew0V, throwNewS). -/
/-- where a method has thrown q: the class by its name, the cell, what was written, the world -/
def vx_T (XC : String → State → State → Prop) (st : State) (q : Addr) (t : State) (mc ms : Nat) (free : Addr → Prop) : Prop :=
  ∃ (E : String) (ce : Cell) (L : List Loc), XC E st t ∧ t.heap[q]? = some ce ∧ ce.vm = .none ∧ st.vm.findClass E = some ce.cls ∧ st.WarmedH t.vm ∧ st.sameButNew ({ t with vm := st.vm } : State) L mc ms ∧ ∀ z ∈ L, free z.base
def vx_Q (Qc : Array Value → State → Outcome → State → Prop) (XC : String → State → State → Prop) (mc ms : Nat) (free : Addr → Prop) : Array Value → State → Outcome → State → Prop := fun a st o t =>
  (Qc a st o t ∧ ∃ L, FrameEnd st o t L mc ms ∧ ∀ q ∈ L, free q.base) ∨ ∃ q, o = .threw q ∧ vx_T XC st q t mc ms free
/-- a callee that returns or throws -/
def vx_Met (l : Launch) (y : MethodName) (ws : List Cond) (rm : Room) (Pc : Array Value → State → Prop) (Qc : Array Value → State → Outcome → State → Prop) (XC : String → State → State → Prop) (mc ms : Nat) (free : Addr → Prop) : Prop :=
  MetFree l y (headSpec ws rm) Pc (fun _ _ _ _ _ => True) (vx_Q Qc XC mc ms free)
def vx_Post (XC : String → State → State → Prop) (mc ms : Nat) (free : Addr → Prop) : Pt → Array Value → Addr → Pt → Prop := fun A a q B =>
  ∃ (g : JFrame) (mk : MethodId) (t : State) (L : List Loc) (E : String) (ce : Cell), B.U.heap = t.heap ∧ B.U.vm = t.vm ∧ XC E (A.U.calling g mk a) t ∧ t.heap[q]? = some ce ∧ ce.vm = .none ∧ A.U.vm.findClass E = some ce.cls ∧ B.locs = A.locs ++ L ∧ (∀ z ∈ L, free z.base) ∧ B.cells = A.cells + mc ∧ B.slots = A.slots + ms
def vx_Back (l : Launch) (R : Room) (p : Program) (e : Env) (below : List Frame) (s : State) (sargs : Array Value) (y : MethodName) (len W9 : Nat)
    (Pre : Pt → Array Value → Prop) (Post : Pt → Array Value → Option Value → Pt → Prop) (PostX : Pt → Array Value → Addr → Pt → Prop) : Prop :=
  ∀ (m : MethodId) (meth : Method) (c : Code) (A : Pt) (g : JFrame) (ig : Instr) (mk : MethodId) (a : Array Value),
    Stand p l e R s m sargs below meth c A.U A.locs A.cells A.slots → g.method = m → g.locals.size = c.maxLocals → decode c.code g.pc = .ok (ig, len) →
    2 * g.monitorRoom + (g.stack.map fun v => v.category).sum ≤ W9 → A.U.methodNamed? y = some mk → Pre A a →
    (∃ (v : Option Value) (B : Pt), Stand p l e R s m sargs below meth c B.U B.locs B.cells B.slots ∧ Post A a v B ∧
      Steps p.tables e below (doInvoke e (A.U.setTop g) [] mk a).1 (B.U.setTop { g with pc := g.pc + len, stack := v.toList ++ g.stack })) ∨
    (∃ (q : Addr) (B : Pt), Stand p l e R s m sargs below meth c B.U B.locs B.cells B.slots ∧ PostX A a q B ∧
      Steps p.tables e below (doInvoke e (A.U.setTop g) [] mk a).1 ((B.U.setTop g).pushFrame (.throwing q)))
section Payer
variable {l : Launch} {R : Room} {p : Program} {e : Env} {below : List Frame} {s : State} {sargs : Array Value} {y : MethodName} {len W9 : Nat}
theorem vx_back {ws : List Cond} {rm : Room} {Pc : Array Value → State → Prop} {Qc : Array Value → State → Outcome → State → Prop} {XC : String → State → State → Prop} {mc ms : Nat} {free : Addr → Prop} {bytes : ByteArray} {maxL : Nat} {ret : Option FieldType}
    (hM : vx_Met l y ws rm Pc Qc XC mc ms free) (hblind : FrameBlind Pc) (hrc : rm.cells = mc) (hrs : rm.slots = ms)
    (hframes : rm.frames + 1 ≤ R.frames) (hlocals : W9 + (maxL + 11) + rm.locals ≤ R.locals)
    (hws : ∀ w ∈ ws, ∀ a' U, s.WarmedH U.vm → w.before a' U = true) (hcode : Cond.code y bytes maxL ret ∈ ws) (hinit : ∀ a' U, s.WarmedH U.vm → (Cond.initialized y.cls).before a' U = true) :
    vx_Back l R p e below s sargs y len W9 (PreOf R mc ms Pc) (PostOf Qc mc ms free) (vx_Post XC mc ms free) := by
  intro m meth c A g ig mk a X hg hsize hdg hW hn hp
  have h1 : (headSpec ws rm).pre.before a A.U = true := atoms_intro fun w hw => hws w hw _ _ X.warmed
  have h2 : (Cond.code y bytes maxL ret).before a A.U = true := hws _ hcode _ _ X.warmed
  have h3 : (Cond.initialized y.cls).before a A.U = true := hinit _ _ X.warmed
  have h4 : A.cells + (headSpec ws rm).room.cells ≤ R.cells := by rw [show (headSpec ws rm).room.cells = mc from hrc]; exact hp.1
  have h5 : A.slots + (headSpec ws rm).room.slots ≤ R.slots := by rw [show (headSpec ws rm).room.slots = ms from hrs]; exact hp.2.1
  have hPc : Pc a (A.U.calling g mk a) := hblind _ _ _ _ hp.2.2
  obtain ⟨U, Ls, c0, s0⟩ := A
  dsimp only [Pt.U, Pt.locs, Pt.cells, Pt.slots] at h1 h2 h3 h4 h5 X hn hPc ⊢
  obtain ⟨methY, cY, hmY, hcY, -, hlY, -, -, -, -⟩ := Cond.code_spec hn h2
  obtain ⟨kY, hkY, -⟩ := className_of_methodNamed hn
  have hinitY : kY.init = .initialized := Cond.initialized_spec (findClass_of_methodNamed hn) hkY h3
  have h : At U g.method c below := by rw [hg]; exact X.here
  have hlocals9 : W9 + (maxL + 11) + (headSpec ws rm).room.locals ≤ R.locals := hlocals
  have happ : (headSpec ws rm).appliesLoose y e.platform (U.calling g mk a) = true :=
    Spec.appliesLoose_calling (g := g) h hdg hn hkY hinitY
      (X.room_calling (g := g) (R' := (headSpec ws rm).room) hsize hmY hcY hframes (by rw [hlY]; omega) h4 h5) h1
  obtain ⟨mid, hmid⟩ := h.above
  have hfr : (U.setTop g).frames = (.java g :: mid) ++ below := by rw [State.frames_setTop' g h.top, hmid]; rfl
  obtain ⟨o, s₂, hsteps, -, hend, hq⟩ := Steps.callFree hM p X.admits X.cas X.clock (acts := []) hfr happ hPc trivial
  have hq' : vx_Q Qc XC mc ms free a (U.calling g mk a) o s₂ := hq
  rw [State.frames_setTop' g h.top] at hend
  obtain ⟨g₀, hg0⟩ := Option.isSome_iff_exists.mp h.top
  obtain ⟨r, hr⟩ := State.topJava?_eq_some.mp hg0
  have hr' : (({ U with heap := s₂.heap, slotsUsed := s₂.slotsUsed } : State).setVm s₂.vm).frames = .java g₀ :: r := hr
  rcases hq' with ⟨hqc, L, hfe, hL⟩ | ⟨q, rfl, E, ce, L, hx, hce, hcv, hcl, hW₂, hsm, hL⟩
  · obtain ⟨⟨v, rfl⟩, hW₂, e2, q2, q3, q4, q5, q6⟩ := id hfe
    have e3 : s₂ = ({ (U.calling g mk a).setFrames s₂.frames with heap := s₂.heap, slotsUsed := s₂.slotsUsed } : State).setVm s₂.vm := by
      have : s₂ = ({ s₂ with vm := (U.calling g mk a).vm } : State).setVm s₂.vm := rfl
      rw [e2] at this
      exact this
    obtain ⟨c₂, i₂, len₂, hc₂, hd₂, hf₂⟩ := hend
    have hW' : U.WarmedH s₂.vm := hW₂
    have hcc : c₂ = c := by
      have h1 : s₂.code? g.method = U.code? g.method := by
        rw [State.code?_eq, State.code?_eq, hW'.alike.method?]
      exact Option.some.inj (hc₂.symm.trans (h1.trans h.code))
    subst hcc
    have hlen : len₂ = len := by rw [hdg] at hd₂; cases hd₂; rfl
    subst hlen
    have hs₂ : s₂ = (({ U with heap := s₂.heap, slotsUsed := s₂.slotsUsed } : State).setVm s₂.vm).setTop { g with pc := g.pc + len₂, stack := v.toList ++ g.stack } := by
      refine e3.trans ?_
      rw [hf₂, State.calling_eq h.top, State.setFrames_setFrames, State.setTop_of_frames _ hr', hr]
      rfl
    have hsame : U.sameButNew ({ U with heap := s₂.heap, slotsUsed := s₂.slotsUsed } : State) L mc ms := by
      refine ⟨?_, q2, q3, q4, q5, q6⟩
      obtain ⟨t, ht, -⟩ := State.frames_cons hr
      show ({ U with heap := s₂.heap, slotsUsed := s₂.slotsUsed } : State) = { U.setFrames U.frames with heap := s₂.heap, slotsUsed := s₂.slotsUsed }
      rw [State.setFrames_self ht]
    subst hg
    refine Or.inl ⟨v, ⟨(({ U with heap := s₂.heap, slotsUsed := s₂.slotsUsed } : State).setVm s₂.vm), Ls ++ L, c0 + mc, s0 + ms⟩,
      ⟨X.admits, X.cas, X.clock, X.frames, X.room, X.hears, X.method, X.code, (X.here.setHeapUsed s₂.heap s₂.slotsUsed).setVm hW'.alike, X.tail, State.WarmedH.trans X.warmed hW', X.limits, X.bytes, X.same.trans (hsame.setVm s.vm)⟩,
      ⟨g, mk, s₂, L, rfl, rfl, hqc, rfl, hL, rfl, rfl⟩, ?_⟩
    show Steps p.tables e below _ ((({ U with heap := s₂.heap, slotsUsed := s₂.slotsUsed } : State).setVm s₂.vm).setTop { g with pc := g.pc + len₂, stack := v.toList ++ g.stack })
    rw [← hs₂]
    exact hsteps
  · obtain ⟨e2, q2, q3, q4, q5, q6⟩ := id hsm
    have e3 : s₂ = ({ (U.calling g mk a).setFrames s₂.frames with heap := s₂.heap, slotsUsed := s₂.slotsUsed } : State).setVm s₂.vm := by
      have : s₂ = ({ s₂ with vm := (U.calling g mk a).vm } : State).setVm s₂.vm := rfl
      rw [e2] at this
      exact this
    have hf₂ : s₂.frames = .throwing q :: .java g :: U.frames.tail := hend
    have hW' : U.WarmedH s₂.vm := hW₂
    have hs₂ : s₂ = ((({ U with heap := s₂.heap, slotsUsed := s₂.slotsUsed } : State).setVm s₂.vm).setTop g).pushFrame (.throwing q) := by
      refine e3.trans ?_
      rw [hf₂, State.calling_eq h.top, State.setFrames_setFrames, State.pushFrame, State.frames_setTop _ hr', State.setTop_of_frames _ hr', State.setFrames_setFrames, hr]
      rfl
    have hsame : U.sameButNew ({ U with heap := s₂.heap, slotsUsed := s₂.slotsUsed } : State) L mc ms := by
      refine ⟨?_, q2, q3, q4, q5, q6⟩
      obtain ⟨t, ht, -⟩ := State.frames_cons hr
      show ({ U with heap := s₂.heap, slotsUsed := s₂.slotsUsed } : State) = { U.setFrames U.frames with heap := s₂.heap, slotsUsed := s₂.slotsUsed }
      rw [State.setFrames_self ht]
    subst hg
    refine Or.inr ⟨q, ⟨(({ U with heap := s₂.heap, slotsUsed := s₂.slotsUsed } : State).setVm s₂.vm), Ls ++ L, c0 + mc, s0 + ms⟩,
      ⟨X.admits, X.cas, X.clock, X.frames, X.room, X.hears, X.method, X.code, (X.here.setHeapUsed s₂.heap s₂.slotsUsed).setVm hW'.alike, X.tail, State.WarmedH.trans X.warmed hW', X.limits, X.bytes, X.same.trans (hsame.setVm s.vm)⟩,
      ⟨g, mk, s₂, L, E, ce, rfl, rfl, hx, hce, hcv, hcl, rfl, hL, rfl, rfl⟩, ?_⟩
    show Steps p.tables e below _ (((({ U with heap := s₂.heap, slotsUsed := s₂.slotsUsed } : State).setVm s₂.vm).setTop g).pushFrame (.throwing q))
    rw [← hs₂]
    exact hsteps
end Payer
section Calls
variable {p : Program} {l : Launch} {e : Env} {R : Room} {s : State} {m : MethodId} {args : Array Value} {below : List Frame} {meth : Method} {c : Code} {T : State} {locs : List Loc} {cells slots : Nat}
theorem vx_callV (X : Stand p l e R s m args below meth c T locs cells slots) (hexec : p.tables.exec = Jvm.exec) {own C : String} {index : Nat} {y : MethodName} {bytes : ByteArray} {maxL : Nat} {ret : Option FieldType}
    (hown : s.vm.findClass own = some m.cls) (hlink : (Cond.methodLink own index y).before args s = true) (hinst : (Cond.instanceMethod y).before args s = true) (hsel : (Cond.selects C y y).before args s = true)
    (hcode : (Cond.code y bytes maxL ret).before args s = true) (hy : y.cls ≠ "java/lang/invoke/MethodHandle" ∧ y.cls ≠ "java/lang/invoke/VarHandle")
    {W9 : Nat} {Pre : Pt → Array Value → Prop} {Post : Pt → Array Value → Option Value → Pt → Prop} {PostX : Pt → Array Value → Addr → Pt → Prop} (hK : vx_Back l R p e below s args y 3 W9 Pre Post PostX)
    {b : Addr} {cellB : Cell} (hcell : T.heap[b]? = some cellB) (hobj : cellB.vm.isStatics = false) (hcls : s.vm.findClass C = some cellB.cls)
    {g : JFrame} (hg : g.method = m) (hsize : g.locals.size = c.maxLocals) {argsL rest : List Value} (hlen : ∀ sig, parseMethodDescriptor y.desc = some sig → argsL.length = sig.parameters.length)
    (hstack : g.stack = argsL.reverse ++ .ref b :: rest) (hW : 2 * g.monitorRoom + (rest.map fun v => v.category).sum ≤ W9) (hdg : decode c.code g.pc = .ok (.invokevirtual index, 3))
    (hpre : ∀ vm₁, s.WarmedH vm₁ → Pre ⟨T.setVm vm₁, locs, cells, slots⟩ (Value.ref b :: argsL).toArray) :
    (∃ (v : Option Value) (vm₁ : Vm) (B : Pt), s.WarmedH vm₁ ∧ Stand p l e R s m args below meth c B.U B.locs B.cells B.slots ∧ Post ⟨T.setVm vm₁, locs, cells, slots⟩ (Value.ref b :: argsL).toArray v B ∧
      ∀ target, Steps p.tables e below (B.U.setTop { g with pc := g.pc + 3, stack := v.toList ++ rest }) target → Steps p.tables e below (T.setTop g) target) ∨
    (∃ (q : Addr) (vm₁ : Vm) (B : Pt), s.WarmedH vm₁ ∧ Stand p l e R s m args below meth c B.U B.locs B.cells B.slots ∧ PostX ⟨T.setVm vm₁, locs, cells, slots⟩ (Value.ref b :: argsL).toArray q B ∧
      Steps p.tables e below (T.setTop g) ((B.U.setTop { g with stack := rest }).pushFrame (.throwing q))) := by
  obtain ⟨mk, methM, hnamed, hmethM, hstM, habM⟩ := Cond.instanceMethod_spec hinst
  obtain ⟨methM', cM, hmethM', -, -, -, -, -, -, hsigM⟩ := Cond.code_spec hnamed hcode
  cases hmethM.symm.trans hmethM'
  obtain ⟨c2, r2, m2, q1, q2, q3, q4, kP, hkP, hkPi⟩ := Cond.selects_spec hsel
  cases hcls.symm.trans q1
  cases (State.methodFound?_of_named hnamed hy).symm.trans q2
  cases hnamed.symm.trans q3
  have hselP : selectMethod e.platform s.vm cellB.cls mk = .method mk := by rw [Launch.admits_selectMethod X.admits]; exact q4
  obtain ⟨vm₁, X₁, hstep₁⟩ := X.invokevirtual hexec hown hlink hnamed hmethM hstM hkP hkPi hy (a := b) (cell := cellB) hcell
    (fun z h => by rw [h] at hobj; cases hobj) hselP hmethM habM hkP hkPi (g := g) hg (argsL := argsL) (rest := rest) (hlen _ hsigM) hstack hdg
  rcases hK m meth c ⟨T.setVm vm₁, locs, cells, slots⟩ { g with stack := rest } (.invokevirtual index) mk (Value.ref b :: argsL).toArray X₁ hg hsize hdg hW (X₁.named hnamed) (hpre vm₁ X₁.warmed) with ⟨v, B, X', hpost, hsteps⟩ | ⟨q, B, X', hpost, hsteps⟩
  · exact Or.inl ⟨v, vm₁, B, X₁.warmed, X', hpost, fun target h => hstep₁ _ fun acts => by rw [doInvoke_state]; exact hsteps.trans h⟩
  · exact Or.inr ⟨q, vm₁, B, X₁.warmed, X', hpost, hstep₁ _ fun acts => by rw [doInvoke_state]; exact hsteps⟩
theorem vx_callS (X : Stand p l e R s m args below meth c T locs cells slots) (hexec : p.tables.exec = Jvm.exec) {own : String} {index : Nat} {y : MethodName} {bytes : ByteArray} {maxL : Nat} {ret : Option FieldType}
    (hown : s.vm.findClass own = some m.cls) (hlink : (Cond.methodLink own index y).before args s = true) (hstat : (Cond.static y).before args s = true) (hinit : (Cond.initialized y.cls).before args s = true)
    (hcode : (Cond.code y bytes maxL ret).before args s = true) (hy : y.cls ≠ "java/lang/invoke/MethodHandle" ∧ y.cls ≠ "java/lang/invoke/VarHandle")
    {W9 : Nat} {Pre : Pt → Array Value → Prop} {Post : Pt → Array Value → Option Value → Pt → Prop} {PostX : Pt → Array Value → Addr → Pt → Prop} (hK : vx_Back l R p e below s args y 3 W9 Pre Post PostX)
    {g : JFrame} (hg : g.method = m) (hsize : g.locals.size = c.maxLocals) {argsL rest : List Value} (hlen : ∀ sig, parseMethodDescriptor y.desc = some sig → argsL.length = sig.parameters.length)
    (hstack : g.stack = argsL.reverse ++ rest) (hW : 2 * g.monitorRoom + (rest.map fun v => v.category).sum ≤ W9) (hdg : decode c.code g.pc = .ok (.invokestatic index, 3))
    (hpre : ∀ vm₁, s.WarmedH vm₁ → Pre ⟨T.setVm vm₁, locs, cells, slots⟩ argsL.toArray) :
    (∃ (v : Option Value) (vm₁ : Vm) (B : Pt), s.WarmedH vm₁ ∧ Stand p l e R s m args below meth c B.U B.locs B.cells B.slots ∧ Post ⟨T.setVm vm₁, locs, cells, slots⟩ argsL.toArray v B ∧
      ∀ target, Steps p.tables e below (B.U.setTop { g with pc := g.pc + 3, stack := v.toList ++ rest }) target → Steps p.tables e below (T.setTop g) target) ∨
    (∃ (q : Addr) (vm₁ : Vm) (B : Pt), s.WarmedH vm₁ ∧ Stand p l e R s m args below meth c B.U B.locs B.cells B.slots ∧ PostX ⟨T.setVm vm₁, locs, cells, slots⟩ argsL.toArray q B ∧
      Steps p.tables e below (T.setTop g) ((B.U.setTop { g with stack := rest }).pushFrame (.throwing q))) := by
  obtain ⟨mk, hnamed⟩ := Cond.code_named hcode
  obtain ⟨methM, cM, hmethM, -, -, -, -, -, -, hsigM⟩ := Cond.code_spec hnamed hcode
  have hstatic : methM.isStatic = true := Cond.static_spec hnamed hmethM hstat
  obtain ⟨kP, hkP, -⟩ := className_of_methodNamed hnamed
  have hinitP : kP.init = .initialized := Cond.initialized_spec (findClass_of_methodNamed hnamed) hkP hinit
  obtain ⟨vm₁, X₁, hstep₁⟩ := X.invokestatic hexec hown hlink hnamed hmethM hstatic hkP hinitP hy (g := g) hg (argsL := argsL) (rest := rest) (hlen _ hsigM) hstack hdg
  rcases hK m meth c ⟨T.setVm vm₁, locs, cells, slots⟩ { g with stack := rest } (.invokestatic index) mk argsL.toArray X₁ hg hsize hdg hW (X₁.named hnamed) (hpre vm₁ X₁.warmed) with ⟨v, B, X', hpost, hsteps⟩ | ⟨q, B, X', hpost, hsteps⟩
  · exact Or.inl ⟨v, vm₁, B, X₁.warmed, X', hpost, fun target h => hstep₁ _ fun acts => by rw [doInvoke_state]; exact hsteps.trans h⟩
  · exact Or.inr ⟨q, vm₁, B, X₁.warmed, X', hpost, hstep₁ _ fun acts => by rw [doInvoke_state]; exact hsteps⟩
end Calls
theorem vx_cls {s : State} {T : State} {vm₁ : Vm} {E : String} {k : ClassId} (hW : s.WarmedH vm₁) (h : (T.setVm vm₁).vm.findClass E = some k) : s.vm.findClass E = some k := by
  have h1 : vm₁.findClass E = some k := h
  rw [hW.alike.findClass] at h1
  exact h1
/-- the method's frame g, with q thrown over it -/
def vx_W (p : Program) (l : Launch) (e : Env) (R : Room) (s : State) (m : MethodId) (args : Array Value) (below : List Frame) (meth : Method) (c : Code) (H : Heap) (locs : List Loc) (cells slots : Nat) (Q : State → Prop) (g : JFrame) (q : Addr) : Prop :=
  ∀ T : State, T.heap = H → Stand p l e R s m args below meth c T locs cells slots → ∃ t, Steps p.tables e below ((T.setTop g).pushFrame (.throwing q)) t ∧ Q t
def vx_Run (p : Program) (l : Launch) (e : Env) (R : Room) (s : State) (m : MethodId) (args : Array Value) (below : List Frame) (meth : Method) (c : Code) (H : Heap) (locs : List Loc) (cells slots mc ms : Nat) (g : JFrame) (rest : List Value) (Qa : State → Outcome → State → Prop) (XC : String → State → State → Prop) (free : Addr → Prop) : Prop :=
  ∀ T : State, T.heap = H → Stand p l e R s m args below meth c T locs cells slots →
    (∃ (v : Option Value) (st₀ t T' : State) (L : List Loc), st₀.heap = H ∧ Stand p l e R s m args below meth c T' (locs ++ L) (cells + mc) (slots + ms) ∧ (∀ q ∈ L, free q.base) ∧ T'.heap = t.heap ∧ T'.vm = t.vm ∧ Qa st₀ (.returned v) t ∧
      Goes p e below T g T' { g with pc := g.pc + 3, stack := v.toList ++ rest }) ∨
    (∃ (q : Addr) (st₀ t T' : State) (L : List Loc) (E : String) (ce : Cell), st₀.heap = H ∧ Stand p l e R s m args below meth c T' (locs ++ L) (cells + mc) (slots + ms) ∧ (∀ z ∈ L, free z.base) ∧ T'.heap = t.heap ∧ T'.vm = t.vm ∧ XC E st₀ t ∧ t.heap[q]? = some ce ∧ ce.vm = .none ∧ s.vm.findClass E = some ce.cls ∧
      Steps p.tables e below (T.setTop g) ((T'.setTop { g with stack := rest }).pushFrame (.throwing q)))
def vx_X {S : Type} (px : S → Prop) (B : String → S → State → Prop) (A : Nat → Prop) : String → State → State → Prop := fun E st t => ∃ u : S, px u ∧ B E u t ∧ va_F A st t
section Runs
variable {p : Program} {l : Launch} {e : Env} {R : Room} {s : State} {m : MethodId} {args : Array Value} {below : List Frame} {meth : Method} {c : Code} {H : Heap} {locs : List Loc} {cells slots : Nat}
variable {y : MethodName} {bytes cc : ByteArray} {maxL nL mc ms n index : Nat} {ret : Option FieldType} {ws : List Cond} {rm : Room} {Pc : Array Value → State → Prop} {Qc : Array Value → State → Outcome → State → Prop} {XC : String → State → State → Prop} {free : Addr → Prop} {Ts : List Cond} {own C : String} {b : Addr} {As rest : List Value} {g : JFrame}
theorem vx_callBack (cb : CallB R s args own index y bytes maxL ret ws rm mc ms n) (hM : vx_Met l y ws rm Pc Qc XC mc ms free) (hbl : FrameBlind Pc) : vx_Back l R p e below s args y 3 8 (PreOf R mc ms Pc) (PostOf Qc mc ms free) (vx_Post XC mc ms free) := by
  obtain ⟨hrc, hrs, hfr, hlo, hws, hcw, -, hini, -⟩ := cb
  exact vx_back (bytes := bytes) (maxL := maxL) (ret := ret) hM hbl hrc hrs hfr hlo hws hcw (fun a' U hW => word_at hW (Or.inl (by first | rfl | simp [Cond.onTables, Cond.keeps, Cond.steady])) hini)
theorem vx_runV (S : CallFix p m c cc nL s args Ts own) (hM : vx_Met l y ws rm Pc Qc XC mc ms free) (cw : CallW R s args own C index y bytes maxL ret ws rm mc ms n) (hp : PreV s H C b Pc As)
    (hg : g.method = m) (hn : As.length = n) (hsize : g.locals.size = nL) (hstack : g.stack = As.reverse ++ .ref b :: rest) (hW : 2 * g.monitorRoom + (rest.map fun v => v.category).sum ≤ 8) (hdg : decode cc g.pc = .ok (.invokevirtual index, 3)) (hf : cells + mc ≤ R.cells ∧ slots + ms ≤ R.slots) :
    vx_Run p l e R s m args below meth c H locs cells slots mc ms g rest (Qc (Value.ref b :: As).toArray) XC free := by
  have hK : vx_Back l R p e below s args y 3 8 (PreOf R mc ms Pc) (PostOf Qc mc ms free) (vx_Post XC mc ms free) := vx_callBack cw.1 hM hp.1
  obtain ⟨⟨-, -, -, -, -, -, hcode, -, hy, hlen, hl⟩, hin, hse⟩ := cw
  obtain ⟨hx, hb, hml, ho, -⟩ := S
  obtain ⟨-, ⟨cellB, hcB, hoB, hclB⟩, hPc⟩ := hp
  intro T hT X
  rcases vx_callV X hx (C := C) (bytes := bytes) (maxL := maxL) (ret := ret) ho hl hin hse hcode hy hK (by rw [hT]; exact hcB) hoB hclB hg (hsize.trans hml.symm) (argsL := As) (rest := rest) (fun sig h => hn.trans (hlen sig h)) hstack hW (by rw [hb]; exact hdg)
    (fun vm₁ hW₁ => ⟨hf.1, hf.2, hPc (T.setVm vm₁) hT hW₁⟩) with ⟨v, vm₁, ⟨U', l2, c2, s2⟩, hW₁, X', ⟨g', mk, t, L, e1, e2, hq, h1, hL, h2, h3⟩, st⟩ | ⟨q, vm₁, ⟨U', l2, c2, s2⟩, hW₁, X', ⟨g', mk, t, L, E, ce, e1, e2, hq, hce, hcv, hcl, h1, hL, h2, h3⟩, st⟩
  · dsimp only [Pt.U, Pt.locs, Pt.cells, Pt.slots] at X' e1 e2 h1 h2 h3 st
    subst h1; subst h2; subst h3
    exact Or.inl ⟨v, (T.setVm vm₁).calling g' mk (Value.ref b :: As).toArray, t, U', L, hT, X', hL, e1, e2, hq, st⟩
  · dsimp only [Pt.U, Pt.locs, Pt.cells, Pt.slots] at X' e1 e2 h1 h2 h3 st hcl
    subst h1; subst h2; subst h3
    exact Or.inr ⟨q, (T.setVm vm₁).calling g' mk (Value.ref b :: As).toArray, t, U', L, E, ce, hT, X', hL, e1, e2, hq, hce, hcv, vx_cls hW₁ hcl, st⟩
theorem vx_runS (S : CallFix p m c cc nL s args Ts own) (hM : vx_Met l y ws rm Pc Qc XC mc ms free) (cw : CallB R s args own index y bytes maxL ret ws rm mc ms n ∧ (Cond.static y).before args s = true) (hp : PreS s H Pc As)
    (hg : g.method = m) (hn : As.length = n) (hsize : g.locals.size = nL) (hstack : g.stack = As.reverse ++ rest) (hW : 2 * g.monitorRoom + (rest.map fun v => v.category).sum ≤ 8) (hdg : decode cc g.pc = .ok (.invokestatic index, 3)) (hf : cells + mc ≤ R.cells ∧ slots + ms ≤ R.slots) :
    vx_Run p l e R s m args below meth c H locs cells slots mc ms g rest (Qc As.toArray) XC free := by
  have hK : vx_Back l R p e below s args y 3 8 (PreOf R mc ms Pc) (PostOf Qc mc ms free) (vx_Post XC mc ms free) := vx_callBack cw.1 hM hp.1
  obtain ⟨⟨-, -, -, -, -, -, hcode, hini, hy, hlen, hl⟩, hstt⟩ := cw
  obtain ⟨hx, hb, hml, ho, -⟩ := S
  intro T hT X
  rcases vx_callS X hx (bytes := bytes) (maxL := maxL) (ret := ret) ho hl hstt hini hcode hy hK hg (hsize.trans hml.symm) (argsL := As) (rest := rest) (fun sig h => hn.trans (hlen sig h)) hstack hW (by rw [hb]; exact hdg)
    (fun vm₁ hW₁ => ⟨hf.1, hf.2, hp.2 (T.setVm vm₁) hT hW₁⟩) with ⟨v, vm₁, ⟨U', l2, c2, s2⟩, hW₁, X', ⟨g', mk, t, L, e1, e2, hq, h1, hL, h2, h3⟩, st⟩ | ⟨q, vm₁, ⟨U', l2, c2, s2⟩, hW₁, X', ⟨g', mk, t, L, E, ce, e1, e2, hq, hce, hcv, hcl, h1, hL, h2, h3⟩, st⟩
  · dsimp only [Pt.U, Pt.locs, Pt.cells, Pt.slots] at X' e1 e2 h1 h2 h3 st
    subst h1; subst h2; subst h3
    exact Or.inl ⟨v, (T.setVm vm₁).calling g' mk As.toArray, t, U', L, hT, X', hL, e1, e2, hq, st⟩
  · dsimp only [Pt.U, Pt.locs, Pt.cells, Pt.slots] at X' e1 e2 h1 h2 h3 st hcl
    subst h1; subst h2; subst h3
    exact Or.inr ⟨q, (T.setVm vm₁).calling g' mk As.toArray, t, U', L, E, ce, hT, X', hL, e1, e2, hq, hce, hcv, vx_cls hW₁ hcl, st⟩
end Runs
section Rows
variable {p : Program} {l : Launch} {e : Env} {R : Room} {s : State} {m : MethodId} {args : Array Value} {below : List Frame} {meth : Method} {c : Code} {H : Heap} {locs : List Loc} {cells slots : Nat} {Q : State → Prop}
variable {mc ms : Nat} {free : Addr → Prop} {A0 A1 : Nat → Prop} {H0 : Heap} {a : Array Value} {pc : Nat} {ls : Array Slot} {st0 rest : List Value}
theorem vx_keep {st₀ t T' : State} {L : List Loc} (h0 : st₀.heap = H) (e1 : T'.heap = t.heap) (hS : va_S A0 H0 H locs) (hA : ∀ q, q < H.size → A1 q → A0 q) (hf : ∀ q, free q → A0 q) (hL : ∀ q ∈ L, free q.base) (hF : va_F A1 st₀ t) :
    H.size ≤ T'.heap.size ∧ (∀ q : Nat, q < H.size → ¬ A1 q → T'.heap[q]? = H[q]?) ∧ va_S A0 H0 T'.heap (locs ++ L) := by
  obtain ⟨hz, hk⟩ := hF
  rw [h0] at hz hk
  exact ⟨by rw [e1]; exact hz, fun q h1 h2 => by rw [e1]; exact hk q h1 h2,
    ⟨Nat.le_trans hS.1 (by rw [e1]; exact hz), fun q h1 h2 => by rw [e1, hk q (Nat.lt_of_lt_of_le h1 hS.1) (fun z => h2 (hA q (Nat.lt_of_lt_of_le h1 hS.1) z))]; exact hS.2.1 q h1 h2, fun q hq => by
      rcases List.mem_append.mp hq with h | h
      · exact hS.2.2 q h
      · exact hf _ (hL q h)⟩⟩
theorem vx_calli {S SX : Type} {post : Int32 → S → Prop} {px : SX → Prop} {B : S → State → Prop} {BX : String → SX → State → Prop} {AX : Nat → Prop} (hr : vx_Run p l e R s m args below meth c H locs cells slots mc ms (F0 m pc ls st0) rest (va_Qi post B A1 a) (vx_X px BX AX) free) (hS : va_S A0 H0 H locs) (hA : ∀ q, q < H.size → A1 q → A0 q) (hf : ∀ q, free q → A0 q) (hAX : ∀ q, q < H.size → AX q → A0 q)
    (kx : ∀ (E : String) (ce : Cell) (q9 : Addr) (u : SX) (t : State) (H1 : Heap) (locs1 : List Loc), t.heap = H1 → s.vm.Alike t.vm → px u → BX E u t → H.size ≤ H1.size → (∀ q : Nat, q < H.size → ¬ AX q → H1[q]? = H[q]?) → va_S A0 H0 H1 locs1 → H1[q9]? = some ce → ce.vm = .none → s.vm.findClass E = some ce.cls → vx_W p l e R s m args below meth c H1 locs1 (cells + mc) (slots + ms) Q (F0 m pc ls rest) q9)
    (kk : ∀ (r : Int32) (u : S) (t : State) (H1 : Heap) (locs1 : List Loc), t.heap = H1 → s.vm.Alike t.vm → post r u → B u t → H.size ≤ H1.size → (∀ q : Nat, q < H.size → ¬ A1 q → H1[q]? = H[q]?) → va_S A0 H0 H1 locs1 → W p l e R s m args below meth c H1 locs1 (cells + mc) (slots + ms) Q (F0 m (pc + 3) ls (.int r :: rest))) : W p l e R s m args below meth c H locs cells slots Q (F0 m pc ls st0) := by
  intro T hT X
  rcases hr T hT X with ⟨v, st₀, t, T', L, h0, X', hL, e1, e2, ⟨⟨r, u, hv, hp, hb⟩, hF⟩, st⟩ | ⟨q, st₀, t, T', L, E, ce, h0, X', hL, e1, e2, ⟨u, hp, hb, hF⟩, hce, hcv, hcl, st⟩
  · cases hv
    obtain ⟨k1, k2, k3⟩ := vx_keep h0 e1 hS hA hf hL hF
    obtain ⟨t2, a1, b1⟩ := kk r u t T'.heap (locs ++ L) e1.symm (by rw [← e2]; exact X'.warmed.alike) hp hb k1 k2 k3 T' rfl X'
    exact ⟨t2, st t2 a1, b1⟩
  · obtain ⟨k1, k2, k3⟩ := vx_keep h0 e1 hS hAX hf hL hF
    obtain ⟨t2, a1, b1⟩ := kx E ce q u t T'.heap (locs ++ L) e1.symm (by rw [← e2]; exact X'.warmed.alike) hp hb k1 k2 k3 (by rw [e1]; exact hce) hcv hcl T' rfl X'
    exact ⟨t2, st.trans a1, b1⟩
theorem vx_calll {S SX : Type} {post : Int64 → S → Prop} {px : SX → Prop} {B : S → State → Prop} {BX : String → SX → State → Prop} {AX : Nat → Prop} (hr : vx_Run p l e R s m args below meth c H locs cells slots mc ms (F0 m pc ls st0) rest (va_Ql post B A1 a) (vx_X px BX AX) free) (hS : va_S A0 H0 H locs) (hA : ∀ q, q < H.size → A1 q → A0 q) (hf : ∀ q, free q → A0 q) (hAX : ∀ q, q < H.size → AX q → A0 q)
    (kx : ∀ (E : String) (ce : Cell) (q9 : Addr) (u : SX) (t : State) (H1 : Heap) (locs1 : List Loc), t.heap = H1 → s.vm.Alike t.vm → px u → BX E u t → H.size ≤ H1.size → (∀ q : Nat, q < H.size → ¬ AX q → H1[q]? = H[q]?) → va_S A0 H0 H1 locs1 → H1[q9]? = some ce → ce.vm = .none → s.vm.findClass E = some ce.cls → vx_W p l e R s m args below meth c H1 locs1 (cells + mc) (slots + ms) Q (F0 m pc ls rest) q9)
    (kk : ∀ (r : Int64) (u : S) (t : State) (H1 : Heap) (locs1 : List Loc), t.heap = H1 → s.vm.Alike t.vm → post r u → B u t → H.size ≤ H1.size → (∀ q : Nat, q < H.size → ¬ A1 q → H1[q]? = H[q]?) → va_S A0 H0 H1 locs1 → W p l e R s m args below meth c H1 locs1 (cells + mc) (slots + ms) Q (F0 m (pc + 3) ls (.long r :: rest))) : W p l e R s m args below meth c H locs cells slots Q (F0 m pc ls st0) := by
  intro T hT X
  rcases hr T hT X with ⟨v, st₀, t, T', L, h0, X', hL, e1, e2, ⟨⟨r, u, hv, hp, hb⟩, hF⟩, st⟩ | ⟨q, st₀, t, T', L, E, ce, h0, X', hL, e1, e2, ⟨u, hp, hb, hF⟩, hce, hcv, hcl, st⟩
  · cases hv
    obtain ⟨k1, k2, k3⟩ := vx_keep h0 e1 hS hA hf hL hF
    obtain ⟨t2, a1, b1⟩ := kk r u t T'.heap (locs ++ L) e1.symm (by rw [← e2]; exact X'.warmed.alike) hp hb k1 k2 k3 T' rfl X'
    exact ⟨t2, st t2 a1, b1⟩
  · obtain ⟨k1, k2, k3⟩ := vx_keep h0 e1 hS hAX hf hL hF
    obtain ⟨t2, a1, b1⟩ := kx E ce q u t T'.heap (locs ++ L) e1.symm (by rw [← e2]; exact X'.warmed.alike) hp hb k1 k2 k3 (by rw [e1]; exact hce) hcv hcl T' rfl X'
    exact ⟨t2, st.trans a1, b1⟩
theorem vx_callf {S SX : Type} {post : UInt32 → S → Prop} {px : SX → Prop} {B : S → State → Prop} {BX : String → SX → State → Prop} {AX : Nat → Prop} (hr : vx_Run p l e R s m args below meth c H locs cells slots mc ms (F0 m pc ls st0) rest (va_Qf post B A1 a) (vx_X px BX AX) free) (hS : va_S A0 H0 H locs) (hA : ∀ q, q < H.size → A1 q → A0 q) (hf : ∀ q, free q → A0 q) (hAX : ∀ q, q < H.size → AX q → A0 q)
    (kx : ∀ (E : String) (ce : Cell) (q9 : Addr) (u : SX) (t : State) (H1 : Heap) (locs1 : List Loc), t.heap = H1 → s.vm.Alike t.vm → px u → BX E u t → H.size ≤ H1.size → (∀ q : Nat, q < H.size → ¬ AX q → H1[q]? = H[q]?) → va_S A0 H0 H1 locs1 → H1[q9]? = some ce → ce.vm = .none → s.vm.findClass E = some ce.cls → vx_W p l e R s m args below meth c H1 locs1 (cells + mc) (slots + ms) Q (F0 m pc ls rest) q9)
    (kk : ∀ (r : UInt32) (u : S) (t : State) (H1 : Heap) (locs1 : List Loc), t.heap = H1 → s.vm.Alike t.vm → post r u → B u t → H.size ≤ H1.size → (∀ q : Nat, q < H.size → ¬ A1 q → H1[q]? = H[q]?) → va_S A0 H0 H1 locs1 → W p l e R s m args below meth c H1 locs1 (cells + mc) (slots + ms) Q (F0 m (pc + 3) ls (.float r :: rest))) : W p l e R s m args below meth c H locs cells slots Q (F0 m pc ls st0) := by
  intro T hT X
  rcases hr T hT X with ⟨v, st₀, t, T', L, h0, X', hL, e1, e2, ⟨⟨r, u, hv, hp, hb⟩, hF⟩, st⟩ | ⟨q, st₀, t, T', L, E, ce, h0, X', hL, e1, e2, ⟨u, hp, hb, hF⟩, hce, hcv, hcl, st⟩
  · cases hv
    obtain ⟨k1, k2, k3⟩ := vx_keep h0 e1 hS hA hf hL hF
    obtain ⟨t2, a1, b1⟩ := kk r u t T'.heap (locs ++ L) e1.symm (by rw [← e2]; exact X'.warmed.alike) hp hb k1 k2 k3 T' rfl X'
    exact ⟨t2, st t2 a1, b1⟩
  · obtain ⟨k1, k2, k3⟩ := vx_keep h0 e1 hS hAX hf hL hF
    obtain ⟨t2, a1, b1⟩ := kx E ce q u t T'.heap (locs ++ L) e1.symm (by rw [← e2]; exact X'.warmed.alike) hp hb k1 k2 k3 (by rw [e1]; exact hce) hcv hcl T' rfl X'
    exact ⟨t2, st.trans a1, b1⟩
theorem vx_calld {S SX : Type} {post : UInt64 → S → Prop} {px : SX → Prop} {B : S → State → Prop} {BX : String → SX → State → Prop} {AX : Nat → Prop} (hr : vx_Run p l e R s m args below meth c H locs cells slots mc ms (F0 m pc ls st0) rest (va_Qd post B A1 a) (vx_X px BX AX) free) (hS : va_S A0 H0 H locs) (hA : ∀ q, q < H.size → A1 q → A0 q) (hf : ∀ q, free q → A0 q) (hAX : ∀ q, q < H.size → AX q → A0 q)
    (kx : ∀ (E : String) (ce : Cell) (q9 : Addr) (u : SX) (t : State) (H1 : Heap) (locs1 : List Loc), t.heap = H1 → s.vm.Alike t.vm → px u → BX E u t → H.size ≤ H1.size → (∀ q : Nat, q < H.size → ¬ AX q → H1[q]? = H[q]?) → va_S A0 H0 H1 locs1 → H1[q9]? = some ce → ce.vm = .none → s.vm.findClass E = some ce.cls → vx_W p l e R s m args below meth c H1 locs1 (cells + mc) (slots + ms) Q (F0 m pc ls rest) q9)
    (kk : ∀ (r : UInt64) (u : S) (t : State) (H1 : Heap) (locs1 : List Loc), t.heap = H1 → s.vm.Alike t.vm → post r u → B u t → H.size ≤ H1.size → (∀ q : Nat, q < H.size → ¬ A1 q → H1[q]? = H[q]?) → va_S A0 H0 H1 locs1 → W p l e R s m args below meth c H1 locs1 (cells + mc) (slots + ms) Q (F0 m (pc + 3) ls (.double r :: rest))) : W p l e R s m args below meth c H locs cells slots Q (F0 m pc ls st0) := by
  intro T hT X
  rcases hr T hT X with ⟨v, st₀, t, T', L, h0, X', hL, e1, e2, ⟨⟨r, u, hv, hp, hb⟩, hF⟩, st⟩ | ⟨q, st₀, t, T', L, E, ce, h0, X', hL, e1, e2, ⟨u, hp, hb, hF⟩, hce, hcv, hcl, st⟩
  · cases hv
    obtain ⟨k1, k2, k3⟩ := vx_keep h0 e1 hS hA hf hL hF
    obtain ⟨t2, a1, b1⟩ := kk r u t T'.heap (locs ++ L) e1.symm (by rw [← e2]; exact X'.warmed.alike) hp hb k1 k2 k3 T' rfl X'
    exact ⟨t2, st t2 a1, b1⟩
  · obtain ⟨k1, k2, k3⟩ := vx_keep h0 e1 hS hAX hf hL hF
    obtain ⟨t2, a1, b1⟩ := kx E ce q u t T'.heap (locs ++ L) e1.symm (by rw [← e2]; exact X'.warmed.alike) hp hb k1 k2 k3 (by rw [e1]; exact hce) hcv hcl T' rfl X'
    exact ⟨t2, st.trans a1, b1⟩
theorem vx_callv {S SX : Type} {post : S → Prop} {px : SX → Prop} {B : S → State → Prop} {BX : String → SX → State → Prop} {AX : Nat → Prop} (hr : vx_Run p l e R s m args below meth c H locs cells slots mc ms (F0 m pc ls st0) rest (va_Qv post B A1 a) (vx_X px BX AX) free) (hS : va_S A0 H0 H locs) (hA : ∀ q, q < H.size → A1 q → A0 q) (hf : ∀ q, free q → A0 q) (hAX : ∀ q, q < H.size → AX q → A0 q)
    (kx : ∀ (E : String) (ce : Cell) (q9 : Addr) (u : SX) (t : State) (H1 : Heap) (locs1 : List Loc), t.heap = H1 → s.vm.Alike t.vm → px u → BX E u t → H.size ≤ H1.size → (∀ q : Nat, q < H.size → ¬ AX q → H1[q]? = H[q]?) → va_S A0 H0 H1 locs1 → H1[q9]? = some ce → ce.vm = .none → s.vm.findClass E = some ce.cls → vx_W p l e R s m args below meth c H1 locs1 (cells + mc) (slots + ms) Q (F0 m pc ls rest) q9)
    (kk : ∀ (u : S) (t : State) (H1 : Heap) (locs1 : List Loc), t.heap = H1 → s.vm.Alike t.vm → post u → B u t → H.size ≤ H1.size → (∀ q : Nat, q < H.size → ¬ A1 q → H1[q]? = H[q]?) → va_S A0 H0 H1 locs1 → W p l e R s m args below meth c H1 locs1 (cells + mc) (slots + ms) Q (F0 m (pc + 3) ls (rest))) : W p l e R s m args below meth c H locs cells slots Q (F0 m pc ls st0) := by
  intro T hT X
  rcases hr T hT X with ⟨v, st₀, t, T', L, h0, X', hL, e1, e2, ⟨⟨u, hv, hp, hb⟩, hF⟩, st⟩ | ⟨q, st₀, t, T', L, E, ce, h0, X', hL, e1, e2, ⟨u, hp, hb, hF⟩, hce, hcv, hcl, st⟩
  · cases hv
    obtain ⟨k1, k2, k3⟩ := vx_keep h0 e1 hS hA hf hL hF
    obtain ⟨t2, a1, b1⟩ := kk u t T'.heap (locs ++ L) e1.symm (by rw [← e2]; exact X'.warmed.alike) hp hb k1 k2 k3 T' rfl X'
    exact ⟨t2, st t2 a1, b1⟩
  · obtain ⟨k1, k2, k3⟩ := vx_keep h0 e1 hS hAX hf hL hF
    obtain ⟨t2, a1, b1⟩ := kx E ce q u t T'.heap (locs ++ L) e1.symm (by rw [← e2]; exact X'.warmed.alike) hp hb k1 k2 k3 (by rw [e1]; exact hce) hcv hcl T' rfl X'
    exact ⟨t2, st.trans a1, b1⟩
/-- caught by the row x of this method's table; the rows ahead don't take it -/
theorem vx_catch {own name : String} {E : String} {ce : Cell} {q : Addr} (hown : s.vm.findClass own = some m.cls) (pre : List ExceptionTableEntry) (x : ExceptionTableEntry) (suf : List ExceptionTableEntry) (hsplit : c.exceptionTable.toList = pre ++ x :: suf)
    (hpass : ∀ z ∈ pre, covers z pc = false ∨ (z.catchType ≠ 0 ∧ ∃ nm : String, (Cond.classLink own z.catchType nm).before args s = true ∧ va_Nc E nm s)) (hx : covers x pc = true) (h0 : x.catchType ≠ 0)
    (hlink : (Cond.classLink own x.catchType name).before args s = true) (hcast : (Cond.castable E name).before args s = true) (hcell : H[q]? = some ce) (hv : ce.vm = .none) (hcl : s.vm.findClass E = some ce.cls)
    (kk : W p l e R s m args below meth c H locs cells slots Q (F0 m x.handlerPc ls [.ref q])) : vx_W p l e R s m args below meth c H locs cells slots Q (F0 m pc ls rest) q := by
  intro T hT X
  have hpl : e.platform.magicAccessors = ({} : Platform).magicAccessors := by rw [X.admits.platform]
  obtain ⟨c3, c4, hc3, hc4, hasg⟩ := Cond.castable_spec hcast
  cases Option.some.inj (hc3.symm.trans hcl)
  obtain ⟨c5, hc5, hcl5⟩ := Cond.classLink_spec hown hlink e.platform hpl
  cases Option.some.inj (hc4.symm.trans hc5)
  obtain ⟨vm', X', st⟩ := X.thenCaughtThrough q (g := F0 m pc ls rest) rfl (Steps.refl _) (by rw [hT]; exact hcell) (by rw [hv]; rfl) (by obtain ⟨k9, h9, -⟩ := Vm.findClass_spec hcl; exact ⟨k9, h9⟩) pre x suf hsplit
    (fun z hz => by
      rcases hpass z hz with h | ⟨hz0, nm, hl1, hn1⟩
      · exact Or.inl h
      · obtain ⟨c6, hc6, hcl6⟩ := Cond.classLink_spec hown hl1 e.platform hpl
        obtain ⟨a8, b8, h1, h2, h3⟩ := hn1
        cases Option.some.inj (h1.symm.trans hcl)
        cases Option.some.inj (h2.symm.trans hc6)
        exact Or.inr ⟨hz0, _, hcl6, h3⟩) hx (Or.inr ⟨h0, c4, hcl5, hasg⟩)
  obtain ⟨t, a1, b1⟩ := kk (T.setVm vm') hT X'
  exact ⟨t, st.trans a1, b1⟩
end Rows
section Ends
variable {p : Program} {l : Launch} {e : Env} {R : Room} {s : State} {m : MethodId} {args : Array Value} {below : List Frame} {meth : Method} {c : Code} {H : Heap} {locs : List Loc} {cells slots : Nat} {Q : State → Prop}
variable {mc ms : Nat} {free : Addr → Prop} {A0 A1 : Nat → Prop} {H0 : Heap} {a : Array Value} {ls : Array Slot} {st0 rest : List Value}
variable {Qc : Array Value → State → Outcome → State → Prop} {XC : String → State → State → Prop}
/-- what a body that may throw owes at its end -/
def vx_MQ (below : List Frame) (Qc : Array Value → State → Outcome → State → Prop) (XC : String → State → State → Prop) (a : Array Value) (s : State) (mc ms : Nat) (free : Addr → Prop) : State → Prop := fun t =>
  ∃ o, t.status = .running ∧ Ended t below o ∧ vx_Q Qc XC mc ms free a s o t
theorem vx_ret {g : JFrame} {mc ms : Nat} (k : W p l e R s m args below meth c H locs cells slots (MQ below Qc args s mc ms free) g) : W p l e R s m args below meth c H locs cells slots (vx_MQ below Qc XC args s mc ms free) g := by
  intro T hT X
  obtain ⟨t, a1, o, b1, b2, b3, b4⟩ := k T hT X
  exact ⟨t, a1, o, b1, b2, Or.inl ⟨b3, b4⟩⟩
/-- not caught here: it goes on to the caller -/
theorem vx_widen {g : JFrame} {q : Addr} {k n : Nat} (h1 : cells ≤ k) (h2 : slots ≤ n) (kk : vx_W p l e R s m args below meth c H locs k n Q g q) : vx_W p l e R s m args below meth c H locs cells slots Q g q := fun T hT X => kk T hT (stand_widen X h1 h2)
theorem vx_out {pc : Nat} {E : String} {ce : Cell} {q : Addr} {mc ms : Nat} (hout : ∀ x ∈ c.exceptionTable.toList, covers x pc = false) (hlocks : meth.locks = false) (hcell : H[q]? = some ce) (hv : ce.vm = .none) (hcl : s.vm.findClass E = some ce.cls)
    (hx : ∀ t : State, t.heap = H → s.vm.Alike t.vm → XC E s t) (hf : ∀ z ∈ locs, free z.base) (hc : cells ≤ mc) (hs : slots ≤ ms) :
    vx_W p l e R s m args below meth c H locs cells slots (vx_MQ below Qc XC args s mc ms free) (F0 m pc ls rest) q := by
  intro T hT X
  obtain ⟨st1, hrun, hend, hW, hsm⟩ := X.leaveThrown q (g := F0 m pc ls rest) rfl rfl rfl hout hlocks
  have hcell9 : (T.setFrames (.throwing q :: below)).heap[q]? = some ce := by
    show T.heap[q]? = some ce
    rw [hT]; exact hcell
  exact ⟨_, st1, .threw q, hrun, hend, Or.inr ⟨q, rfl, E, ce, locs, hx _ hT hW.alike, hcell9, hv, hcl, hW, hsm.mono hc hs, hf⟩⟩
theorem vx_frame {U : State} {k n : Nat} (h : s.sameButNew ({ U with vm := s.vm } : State) locs k n) : s.heap.size ≤ U.heap.size ∧ ∀ q : Nat, q < s.heap.size → (∀ z ∈ locs, z.base ≠ q) → U.heap[q]? = s.heap[q]? := by
  obtain ⟨-, h2, -, -, -, h6⟩ := h
  refine ⟨h2, fun q hq hz => ?_⟩
  obtain ⟨c9, e1, e2, e3, e4⟩ := h6 q _ (Array.getElem?_eq_getElem hq)
  have hs : c9.slots = (s.heap[q]).slots := Array.ext_getElem? fun i => e4 i fun hm => hz _ hm rfl
  have h9 : c9 = s.heap[q] := by
    rw [hs] at e2
    exact e2
  have e5 : U.heap[q]? = some c9 := e1
  rw [e5, h9, Array.getElem?_eq_getElem hq]
/-- the words of a throw but the four that speak of the heap -/
def vx_no (w : Cond) : Bool := decide (w ≠ .isRef (.static Bundle.tN "UNASSIGNED_STACK" Bundle.steD)) && decide (w ≠ .isRef (.static Bundle.tN "SUPPRESSED_SENTINEL" Bundle.listD)) && decide (w ≠ .laysStatic Bundle.tN "UNASSIGNED_STACK" Bundle.steD) && decide (w ≠ .laysStatic Bundle.tN "SUPPRESSED_SENTINEL" Bundle.listD)
def vx_at0 (own : String) (ic : Nat) (X : String) (names : List String) : List Cond := (Bundle.ownAtoms0 own ic X names).filter vx_no
def vx_atS (own : String) (ic : Nat) (X : String) (names : List String) : List Cond := (Bundle.ownAtoms own ic X names).filter vx_no
/-- a word that the tables alone decide, or a good one -/
def vx_ot (w : Cond) : Bool := w.onTables || goodWord w
theorem vx_ot_at {args a' : Array Value} {s U : State} {w : Cond} (hW : s.WarmedH U.vm) (hvm : s.vm = U.vm) (hg : vx_ot w = true) (h : w.before args s = true) : w.before a' U = true := by
  simp only [vx_ot, Bool.or_eq_true] at hg
  rcases hg with hg | hg
  · exact va_tabs hg hvm h
  · exact word_at hW (good_of_word hg) h
/-- a list's words: the good ones out of the method's own list, the others by premises of their own -/
theorem vx_hat {args : Array Value} {s : State} {L B : List Cond} (h1 : ∀ w ∈ L.filter goodWord, w.before args s = true) (h2 : ∀ w ∈ L.filter (fun w => !goodWord w), w ∈ B) (h3 : ∀ w ∈ B, w.before args s = true) : ∀ w ∈ L, w.before args s = true := by
  intro w hw
  by_cases g : goodWord w = true
  · exact h1 w (List.mem_filter.mpr ⟨hw, g⟩)
  · refine h3 w (h2 w (List.mem_filter.mpr ⟨hw, ?_⟩))
    show (!goodWord w) = true
    cases hgw : goodWord w
    · rfl
    · exact absurd hgw g
theorem vx_c {args : Array Value} {s : State} {w : Cond} {B : List Cond} (h : w.before args s = true) (t : ∀ w ∈ B, w.before args s = true) : ∀ w' ∈ w :: B, w'.before args s = true := fun w' h' => (List.mem_cons.mp h').elim (fun e => by rw [e]; exact h) (t w')
theorem vx_n {args : Array Value} {s : State} : ∀ w ∈ ([] : List Cond), w.before args s = true := fun _ h => nomatch h
theorem vx_own {args : Array Value} {s : State} {L : List Cond} (h1 : ∀ w ∈ L.filter vx_no, w.before args s = true)
    (hU : (Cond.isRef (.static Bundle.tN "UNASSIGNED_STACK" Bundle.steD)).before args s = true) (hN : (Cond.isRef (.static Bundle.tN "SUPPRESSED_SENTINEL" Bundle.listD)).before args s = true)
    (lU : (Cond.laysStatic Bundle.tN "UNASSIGNED_STACK" Bundle.steD).before args s = true) (lN : (Cond.laysStatic Bundle.tN "SUPPRESSED_SENTINEL" Bundle.listD).before args s = true) : ∀ w ∈ L, w.before args s = true := by
  intro w hw
  by_cases e1 : w = .isRef (.static Bundle.tN "UNASSIGNED_STACK" Bundle.steD)
  · rw [e1]; exact hU
  · by_cases e2 : w = .isRef (.static Bundle.tN "SUPPRESSED_SENTINEL" Bundle.listD)
    · rw [e2]; exact hN
    · by_cases e3 : w = .laysStatic Bundle.tN "UNASSIGNED_STACK" Bundle.steD
      · rw [e3]; exact lU
      · by_cases e4 : w = .laysStatic Bundle.tN "SUPPRESSED_SENTINEL" Bundle.listD
        · rw [e4]; exact lN
        · exact h1 w (List.mem_filter.mpr ⟨hw, by unfold vx_no; rw [decide_eq_true e1, decide_eq_true e2, decide_eq_true e3, decide_eq_true e4]; rfl⟩)
/-- where a static field lies, its class's statics cell in H -/
def vx_L (C n d : String) (A : Nat → Prop) (U : State) (H : Heap) : Prop := ∃ (c : ClassId) (k : Class) (i : Nat) (f : Field) (a : Nat) (cell : Cell), U.vm.findClass C = some c ∧ U.fieldFound? C n d = some (c, k, i, f) ∧ f.isStatic = true ∧ k.statics = some a ∧ H[a]? = some cell ∧ cell.vm.isStatics = true ∧ cell.cls = c ∧ f.slot < cell.slots.size ∧ k.staticTypes[f.slot]? = some f.type ∧ ¬ A a
theorem vx_L.moved {C n d : String} {A : Nat → Prop} {u U : State} {H : Heap} (hvm : u.vm.Alike U.vm) (h : vx_L C n d A u H) : vx_L C n d A U H := by
  obtain ⟨c, k, i, f, a, cell, h1, h2, h3, h4, h5, h6, h7, h8, h9, h10⟩ := h
  obtain ⟨k', hi', he⟩ := State.fieldFound?_setVm hvm h2
  exact ⟨c, k', i, f, a, cell, by rw [hvm.findClass]; exact h1, hi', h3, by rw [he]; exact h4, h5, h6, h7, h8, by rw [he]; exact h9, h10⟩
theorem vx_L.kept {C n d : String} {A : Nat → Prop} {U : State} {H H1 : Heap} (h : vx_L C n d A U H) (hq : ∀ a : Nat, a < H.size → ¬ A a → H1[a]? = H[a]?) : vx_L C n d A U H1 := by
  obtain ⟨c, k, i, f, a, cell, h1, h2, h3, h4, h5, h6, h7, h8, h9, h10⟩ := h
  exact ⟨c, k, i, f, a, cell, h1, h2, h3, h4, by rw [hq a (Array.getElem?_eq_some_iff.mp h5).1 h10]; exact h5, h6, h7, h8, h9, h10⟩
theorem vx_L.narrow {C n d : String} {A B : Nat → Prop} {U : State} {H : Heap} (h : vx_L C n d A U H) (hAB : ∀ q, B q → A q) : vx_L C n d B U H := by
  obtain ⟨c, k, i, f, a, cell, h1, h2, h3, h4, h5, h6, h7, h8, h9, h10⟩ := h
  exact ⟨c, k, i, f, a, cell, h1, h2, h3, h4, h5, h6, h7, h8, h9, fun z => h10 (hAB _ z)⟩
theorem vx_L.word {C n d : String} {A : Nat → Prop} {s : State} {args : Array Value} (h : vx_L C n d A s s.heap) : (Cond.laysStatic C n d).before args s = true := by
  obtain ⟨c, k, i, f, a, cell, h1, h2, h3, h4, h5, h6, h7, h8, h9, -⟩ := h
  show (Cond.laysStatic C n d).holds args s none s [] = true
  exact Cond.laysStatic_of h1 h2 h3 h4 h5 h6 h7 h8 h9
/-- .. and what it holds: null or some reference -/
def vx_Zq (C n d : String) (A : Nat → Prop) (U : State) (H : Heap) : Prop := va_Zq C n d A U H ∧ vx_L C n d A U H
theorem vx_Zq.moved {C n d : String} {A : Nat → Prop} {u U : State} {H : Heap} (hvm : u.vm.Alike U.vm) (h : vx_Zq C n d A u H) : vx_Zq C n d A U H := ⟨va_Zq.moved hvm h.1, vx_L.moved hvm h.2⟩
theorem vx_Zq.kept {C n d : String} {A : Nat → Prop} {U : State} {H H1 : Heap} (h : vx_Zq C n d A U H) (hq : ∀ a : Nat, a < H.size → ¬ A a → H1[a]? = H[a]?) : vx_Zq C n d A U H1 := ⟨va_Zq.kept h.1 hq, vx_L.kept h.2 hq⟩
theorem vx_Zq.narrow {C n d : String} {A B : Nat → Prop} {U : State} {H : Heap} (h : vx_Zq C n d A U H) (hAB : ∀ q, B q → A q) : vx_Zq C n d B U H := ⟨va_Zq.narrow h.1 hAB, vx_L.narrow h.2 hAB⟩
theorem vx_Zqof {args : Array Value} {s : State} {C n d : String} {A : Nat → Prop} (hl : (Cond.laysStatic C n d).before args s = true) (hini : (Cond.initialized C).before args s = true) (h : (Cond.isRef (.static C n d)).before args s = true) (hA : ∀ a : Nat, a < s.heap.size → ¬ A a) : vx_Zq C n d A s s.heap := by
  refine ⟨va_Zqof hl hini h hA, ?_⟩
  obtain ⟨c, k, i, f, a, cell, h1, h2, h3, h4, h5, h6, h7, h8, h9⟩ := Cond.laysStatic_spec hl
  exact ⟨c, k, i, f, a, cell, h1, h2, h3, h4, h5, h6, h7, h8, h9, hA a (Array.getElem?_eq_some_iff.mp h5).1⟩
theorem vx_isRef {C n d : String} {v : Value} {A : Nat → Prop} {s : State} {args : Array Value} (h : va_Z C n d v A s s.heap) (hv : v.isRef = true) : (Cond.isRef (.static C n d)).before args s = true := by
  obtain ⟨cf, kf, fi, f, a, cell, h1, h2, h3, h4, h5, h6, h7, -⟩ := h
  have he : (Term.static C n d).eval args s none [] s = some v := by
    simp [Term.eval, State.fieldNamed?, h1, h2, h4, h5, h6, h7]
  simp only [Cond.before, Cond.holds, Cond.value, he]
  cases v <;> simp_all [Value.isRef]
theorem vx_isRefq {C n d : String} {A : Nat → Prop} {s : State} {args : Array Value} (h : va_Zq C n d A s s.heap) : (Cond.isRef (.static C n d)).before args s = true := by
  rcases h with h | ⟨t, h⟩
  · exact vx_isRef h rfl
  · exact vx_isRef h rfl
/-- the same frame, seen from here: as if the method were called anew in this heap -/
theorem vx_rebase {T : State} (X : Stand p l e R s m args below meth c T locs cells slots) {R' : Room} (hf : R'.frames ≤ R.frames) (hl : R'.locals ≤ R.locals) (hc : cells + R'.cells ≤ R.cells) (hs : slots + R'.slots ≤ R.slots) :
    Stand p l e R' ((T.setVm s.vm).setFrames (.invoking m args :: below)) m args below meth c T [] 0 0 := by
  have htop : (T.setVm s.vm).topJava?.isSome := X.here.top
  have hF : ((T.setVm s.vm).setFrames (.invoking m args :: below)).frames = .invoking m args :: below := State.frames_setFrames _ (State.cur_lt_of_top htop)
  obtain ⟨g₀, hg0⟩ := Option.isSome_iff_exists.mp htop
  obtain ⟨r, hr⟩ := State.topJava?_eq_some.mp hg0
  have hl9 : e.platform.stackLimits (T.setVm s.vm).me = e.platform.stackLimits s.me := X.limits
  have hb9 : (T.setVm s.vm).me.stackBytes = s.me.stackBytes := X.bytes
  refine ⟨X.admits, X.cas, X.clock, hF, ?_, X.hears, X.method, X.code, X.here, X.tail, X.warmed, ?_, ?_, ?_⟩
  · have h := X.room
    have hU : ((T.setVm s.vm).setFrames (.invoking m args :: below)).localsInUse = s.localsInUse := by
      rw [State.localsInUse_invoking hF (meth := meth) (c := c) X.method X.code, State.localsInUse_invoking X.frames X.method X.code]
    simp only [State.hasRoom, Bool.and_eq_true, decide_eq_true_eq] at h ⊢
    obtain ⟨⟨⟨⟨h1, h2, h3, h4, h5, h6⟩, h7⟩, h8⟩, h9⟩ := h
    rw [X.frames, List.length_cons] at h2 h3
    have q1 := X.heapSize
    have q2 := X.used
    simp only [hF, hU, List.length_cons, State.stackLimits_setFrames, State.stackBytes_setFrames, hl9, hb9]
    refine ⟨⟨⟨⟨by omega, by omega, by omega, by omega, by omega, h6⟩, ?_⟩, ?_⟩, X.book⟩
    · show T.heap.size + R'.cells ≤ e.platform.maxCells
      omega
    · show T.slotsUsed + R'.slots ≤ e.platform.maxSlots
      omega
  · rw [State.stackLimits_setFrames]; rfl
  · rw [State.stackBytes_setFrames]; rfl
  · refine ⟨?_, Nat.le_refl _, Nat.le_refl _, ?_, ?_, fun a c9 h9 => ⟨c9, h9, rfl, rfl, fun _ _ => rfl⟩⟩
    · obtain ⟨t, ht, -⟩ := State.frames_cons hr
      show T.setVm s.vm = { ((T.setVm s.vm).setFrames (.invoking m args :: below)).setFrames (T.setVm s.vm).frames with heap := T.heap, slotsUsed := T.slotsUsed }
      rw [State.setFrames_setFrames, State.setFrames_self ht]
      rfl
    · show T.slotsUsed = T.slotsUsed + ((T.heap.toList.drop T.heap.size).map (·.slots.size)).sum
      rw [List.drop_eq_nil_of_le (Nat.le_of_eq Array.length_toList)]
      rfl
    · show ((T.heap.toList.drop T.heap.size).map (·.slots.size)).sum ≤ 0
      rw [List.drop_eq_nil_of_le (Nat.le_of_eq Array.length_toList)]
      exact Nat.le_refl _
/-- 'throw new E()': new; dup; invokespecial; athrow -/
theorem vx_throw0 {cc : ByteArray} {pc : Nat} (hexec : p.tables.exec = Jvm.exec) (hb : c.code = cc) (hl : l.stackTraces = false) {own cls : String} {names : List String} {ik ic mc ms : Nat} {A : Nat → Prop}
    (hown : s.vm.findClass own = some m.cls) (hcls : Bundle.fit cls = true) (hnames : ∀ n ∈ names, Bundle.fit n = true)
    (hk : (Cond.classLink own ik cls).before args s = true) (hini : (Cond.initialized cls).before args s = true) (hat : ∀ w ∈ vx_at0 own ic cls names, w.before args s = true)
    (hgood : ∀ w ∈ Cond.classLink own ik cls :: Cond.initialized cls :: vx_at0 own ic cls names, vx_ot w = true)
    (hU : vx_Zq Bundle.tN "UNASSIGNED_STACK" Bundle.steD A s s.heap) (hN : vx_Zq Bundle.tN "SUPPRESSED_SENTINEL" Bundle.listD A s s.heap) (hS : va_S A s.heap H locs) (hsize : ls.size = c.maxLocals)
    (d0 : decode cc pc = .ok (.new ik, 3)) (d3 : decode cc (pc + 3) = .ok (.dup, 1)) (d4 : decode cc (pc + 4) = .ok (.invokespecial ic, 3)) (d7 : decode cc (pc + 7) = .ok (.athrow, 1))
    (hout : ∀ x ∈ c.exceptionTable.toList, covers x (pc + 7) = false)
    (hRframes : names.length + 3 < R.frames) (hRlocals : (rest.map fun v => v.category).sum + (13 * (names.length + 1) + 42) ≤ R.locals) (hRcells : cells + 1 ≤ R.cells) (hRslots : slots + 6 ≤ R.slots) (hlocks : meth.locks = false)
    (hx : ∀ t : State, s.vm.Alike t.vm → H.size ≤ t.heap.size → (∀ q : Nat, q < H.size → t.heap[q]? = H[q]?) → XC cls s t)
    (hf : ∀ z ∈ locs, free z.base) (hc : cells + 1 ≤ mc) (hs : slots + 6 ≤ ms) :
    W p l e R s m args below meth c H locs cells slots (vx_MQ below Qc XC args s mc ms free) (F0 m pc ls rest) := by
  intro T hT X
  have htr : e.platform.stackTraces = false := (show e.platform.stackTraces = l.stackTraces by rw [X.admits.platform]).trans hl
  have Y := vx_rebase X (R' := { frames := R.frames, locals := R.locals, cells := 1, slots := 6 }) (Nat.le_refl _) (Nat.le_refl _) hRcells hRslots
  obtain ⟨s', hA⟩ : ∃ z, z = (T.setVm s.vm).setFrames (.invoking m args :: below) := ⟨_, rfl⟩
  rw [← hA] at Y
  have hvm : s'.vm = s.vm := by rw [hA]; rfl
  have hhp : s'.heap = H := by rw [hA]; exact hT
  have hW0 : s.WarmedH s'.vm := by rw [hvm]; exact State.WarmedH.refl s
  have hat' : ∀ w ∈ vx_at0 own ic cls names, w.before args s' = true := fun w hw => vx_ot_at hW0 hvm.symm (hgood w (List.mem_cons_of_mem _ (List.mem_cons_of_mem _ hw))) (hat w hw)
  have hk' : (Cond.classLink own ik cls).before args s' = true := vx_ot_at hW0 hvm.symm (hgood _ List.mem_cons_self) hk
  have hini' : (Cond.initialized cls).before args s' = true := vx_ot_at hW0 hvm.symm (hgood _ (List.mem_cons_of_mem _ List.mem_cons_self)) hini
  have hU' : vx_Zq Bundle.tN "UNASSIGNED_STACK" Bundle.steD A s' s'.heap := by rw [hhp]; exact vx_Zq.moved hW0.alike (hU.kept hS.2.1)
  have hN' : vx_Zq Bundle.tN "SUPPRESSED_SENTINEL" Bundle.listD A s' s'.heap := by rw [hhp]; exact vx_Zq.moved hW0.alike (hN.kept hS.2.1)
  have h : ∀ w ∈ Bundle.ownAtoms0 own ic cls names, w.before args s' = true := vx_own hat' (vx_isRefq hU'.1) (vx_isRefq hN'.1) hU'.2.word hN'.2.word
  have hown' : s'.vm.findClass own = some m.cls := by rw [hvm]; exact hown
  have hins : (Cond.instantiable cls 6).before args s' = true := h _ (by simp [Bundle.ownAtoms0])
  obtain ⟨vm₁, cX, kX, hfX, hkX, -, -, X₁, st1⟩ := Y.newCold hexec (own := own) (C := cls) (index := ik) (n := 6) hown' hk' hins hini'
    (g := F0 m pc ls rest) rfl (by rw [hb]; exact d0) (Nat.le_refl _) (Nat.le_refl _)
  generalize hT1 : (T.setVm vm₁).pushCell { cls := cX, slots := kX.instanceTypes.map defaultValue, vm := .none } = T1 at X₁ st1
  have hcat : (Value.ref T.heap.size).category = 1 := rfl
  have hcellA : T1.heap[T.heap.size]? = some (freshCell cX kX) := by rw [← hT1]; exact State.heap_pushCell_size _ _
  have d3' : decode c.code (pc + 3) = .ok (.dup, 1) := by rw [hb]; exact d3
  obtain ⟨U, hsteps, hrun, hend, hW, hsame, ce, hce, hO⟩ := X₁.ctorThrow0 hexec htr (own := own) (cls := cls) (names := names) (ic := ic) hown' hcls hnames h (fun x hx => nomatch hx) hfX hkX hcellA (by rw [hhp, hT]; exact Nat.le_refl _)
    (g := { method := m, pc := pc + 4, locals := ls, stack := .ref T.heap.size :: .ref T.heap.size :: rest, locked := none }) rfl hsize rfl rfl (rest := rest) rfl
    (by rw [hb]; exact d4) (by rw [hb]; exact d7) hout hRframes (by simp only [List.map_cons, List.sum_cons, hcat]; omega) hlocks
  obtain ⟨f1, f2⟩ := vx_frame hsame
  rw [hhp] at f1 f2
  have hWs : s.WarmedH U.vm := State.WarmedH.trans hW0 hW
  have hcl : s.vm.findClass cls = some ce.cls := by
    have h9 := hO.cls
    rw [hvm] at h9
    exact h9
  have hall : s.sameButNew ({ U with vm := s.vm } : State) locs mc ms := by
    subst hA
    obtain ⟨e1, e2⟩ := hsame
    rw [State.setFrames_setFrames] at e1
    have h2 : (T.setVm s.vm).sameButNew ({ U with vm := s.vm } : State) [] (0 + 1) (0 + 6) := ⟨e1, e2⟩
    have h3 := X.same.trans h2
    rw [List.append_nil] at h3
    exact h3.mono hc hs
  refine ⟨U, ?_, .threw T.heap.size, hrun, hend, Or.inr ⟨T.heap.size, rfl, cls, ce, locs, hx U hWs.alike f1 (fun q hq => f2 q hq (fun z hz => nomatch hz)), hce, hO.vm, hcl, hWs, hall, hf⟩⟩
  refine st1 _ ?_
  show Steps p.tables e below (T1.setTop { method := m, pc := pc + 3, locals := ls, stack := .ref T.heap.size :: rest, locked := none }) _
  jvm_step X₁.here [X₁.here.top, hexec, d3', Value.category]
  exact hsteps
/-- 'throw new E("text")': new; dup; ldc; invokespecial; athrow -/
theorem vx_throwS {cc : ByteArray} {pc : Nat} (hexec : p.tables.exec = Jvm.exec) (hb : c.code = cc) (hl : l.stackTraces = false) {own cls text : String} {names : List String} {ik is ic mc ms sa : Nat} {A : Nat → Prop}
    (hown : s.vm.findClass own = some m.cls) (hcls : Bundle.fit cls = true) (hnames : ∀ n ∈ names, Bundle.fit n = true)
    (hk : (Cond.classLink own ik cls).before args s = true) (hini : (Cond.initialized cls).before args s = true) (hstr : vk_R own is text sa s) (hat : ∀ w ∈ vx_atS own ic cls names, w.before args s = true)
    (hgood : ∀ w ∈ Cond.classLink own ik cls :: Cond.initialized cls :: vx_atS own ic cls names, vx_ot w = true)
    (hU : vx_Zq Bundle.tN "UNASSIGNED_STACK" Bundle.steD A s s.heap) (hN : vx_Zq Bundle.tN "SUPPRESSED_SENTINEL" Bundle.listD A s s.heap) (hS : va_S A s.heap H locs) (hsize : ls.size = c.maxLocals)
    (d0 : decode cc pc = .ok (.new ik, 3)) (d3 : decode cc (pc + 3) = .ok (.dup, 1)) (d4 : decode cc (pc + 4) = .ok (.ldc is, 2)) (d6 : decode cc (pc + 6) = .ok (.invokespecial ic, 3)) (d9 : decode cc (pc + 9) = .ok (.athrow, 1))
    (hout : ∀ x ∈ c.exceptionTable.toList, covers x (pc + 9) = false)
    (hRframes : names.length + 3 < R.frames) (hRlocals : (rest.map fun v => v.category).sum + (13 * (names.length + 1) + 43) ≤ R.locals) (hRcells : cells + 1 ≤ R.cells) (hRslots : slots + 6 ≤ R.slots) (hlocks : meth.locks = false)
    (hx : ∀ t : State, s.vm.Alike t.vm → H.size ≤ t.heap.size → (∀ q : Nat, q < H.size → t.heap[q]? = H[q]?) → XC cls s t)
    (hf : ∀ z ∈ locs, free z.base) (hc : cells + 1 ≤ mc) (hs : slots + 6 ≤ ms) :
    W p l e R s m args below meth c H locs cells slots (vx_MQ below Qc XC args s mc ms free) (F0 m pc ls rest) := by
  intro T hT X
  have htr : e.platform.stackTraces = false := (show e.platform.stackTraces = l.stackTraces by rw [X.admits.platform]).trans hl
  have Y := vx_rebase X (R' := { frames := R.frames, locals := R.locals, cells := 1, slots := 6 }) (Nat.le_refl _) (Nat.le_refl _) hRcells hRslots
  obtain ⟨s', hA⟩ : ∃ z, z = (T.setVm s.vm).setFrames (.invoking m args :: below) := ⟨_, rfl⟩
  rw [← hA] at Y
  have hvm : s'.vm = s.vm := by rw [hA]; rfl
  have hhp : s'.heap = H := by rw [hA]; exact hT
  have hW0 : s.WarmedH s'.vm := by rw [hvm]; exact State.WarmedH.refl s
  have hat' : ∀ w ∈ vx_atS own ic cls names, w.before args s' = true := fun w hw => vx_ot_at hW0 hvm.symm (hgood w (List.mem_cons_of_mem _ (List.mem_cons_of_mem _ hw))) (hat w hw)
  have hk' : (Cond.classLink own ik cls).before args s' = true := vx_ot_at hW0 hvm.symm (hgood _ List.mem_cons_self) hk
  have hini' : (Cond.initialized cls).before args s' = true := vx_ot_at hW0 hvm.symm (hgood _ (List.mem_cons_of_mem _ List.mem_cons_self)) hini
  have hU' : vx_Zq Bundle.tN "UNASSIGNED_STACK" Bundle.steD A s' s'.heap := by rw [hhp]; exact vx_Zq.moved hW0.alike (hU.kept hS.2.1)
  have hN' : vx_Zq Bundle.tN "SUPPRESSED_SENTINEL" Bundle.listD A s' s'.heap := by rw [hhp]; exact vx_Zq.moved hW0.alike (hN.kept hS.2.1)
  have h : ∀ w ∈ Bundle.ownAtoms own ic cls names, w.before args s' = true := vx_own hat' (vx_isRefq hU'.1) (vx_isRefq hN'.1) hU'.2.word hN'.2.word
  have hown' : s'.vm.findClass own = some m.cls := by rw [hvm]; exact hown
  have hins : (Cond.instantiable cls 6).before args s' = true := h _ (by simp [Bundle.ownAtoms])
  obtain ⟨vm₁, cX, kX, hfX, hkX, -, -, X₁, st1⟩ := Y.newCold hexec (own := own) (C := cls) (index := ik) (n := 6) hown' hk' hins hini'
    (g := F0 m pc ls rest) rfl (by rw [hb]; exact d0) (Nat.le_refl _) (Nat.le_refl _)
  generalize hT1 : (T.setVm vm₁).pushCell { cls := cX, slots := kX.instanceTypes.map defaultValue, vm := .none } = T1 at X₁ st1
  have hcat : (Value.ref T.heap.size).category = 1 := rfl
  have hcellA : T1.heap[T.heap.size]? = some (freshCell cX kX) := by rw [← hT1]; exact State.heap_pushCell_size _ _
  have d3' : decode c.code (pc + 3) = .ok (.dup, 1) := by rw [hb]; exact d3
  have d4' : decode c.code (pc + 4) = .ok (.ldc is, 2) := by rw [hb]; exact d4
  have hstr' : vk_R own is text sa s' := vk_R.warm hW0 hstr
  obtain ⟨U, hsteps, hrun, hend, hW, hsame, ce, hce, hO⟩ := X₁.ctorThrowS hexec htr (own := own) (cls := cls) (names := names) (ic := ic) hown' hcls hnames h (fun x hx => nomatch hx) hfX hkX hcellA (by rw [hhp, hT]; exact Nat.le_refl _) (msg := .ref sa) rfl
    (g := { method := m, pc := pc + 6, locals := ls, stack := .ref sa :: .ref T.heap.size :: .ref T.heap.size :: rest, locked := none }) rfl hsize rfl rfl (rest := rest) rfl
    (by rw [hb]; exact d6) (by rw [hb]; exact d9) hout hRframes (by simp only [List.map_cons, List.sum_cons, hcat]; omega) hlocks
  obtain ⟨f1, f2⟩ := vx_frame hsame
  rw [hhp] at f1 f2
  have hWs : s.WarmedH U.vm := State.WarmedH.trans hW0 hW
  have hcl : s.vm.findClass cls = some ce.cls := by
    have h9 := hO.cls
    rw [hvm] at h9
    exact h9
  have hall : s.sameButNew ({ U with vm := s.vm } : State) locs mc ms := by
    subst hA
    obtain ⟨e1, e2⟩ := hsame
    rw [State.setFrames_setFrames] at e1
    have h2 : (T.setVm s.vm).sameButNew ({ U with vm := s.vm } : State) [] (0 + 1) (0 + 6) := ⟨e1, e2⟩
    have h3 := X.same.trans h2
    rw [List.append_nil] at h3
    exact h3.mono hc hs
  refine ⟨U, ?_, .threw T.heap.size, hrun, hend, Or.inr ⟨T.heap.size, rfl, cls, ce, locs, hx U hWs.alike f1 (fun q hq => f2 q hq (fun z hz => nomatch hz)), hce, hO.vm, hcl, hWs, hall, hf⟩⟩
  refine st1 _ ?_
  show Steps p.tables e below (T1.setTop { method := m, pc := pc + 3, locals := ls, stack := .ref T.heap.size :: rest, locked := none }) _
  jvm_step X₁.here [X₁.here.top, hexec, d3', Value.category]
  exact X₁.ldcString hexec (own := own) (text := text) (index := is) (a := sa) hown' hstr'.1 hstr'.2
    (g := { method := m, pc := pc + 4, locals := ls, stack := .ref T.heap.size :: .ref T.heap.size :: rest, locked := none }) rfl d4' _ hsteps
/-- 'throw new E("text")', the text by a wide index -/
theorem vx_throwSW {cc : ByteArray} {pc : Nat} (hexec : p.tables.exec = Jvm.exec) (hb : c.code = cc) (hl : l.stackTraces = false) {own cls text : String} {names : List String} {ik is ic mc ms sa : Nat} {A : Nat → Prop}
    (hown : s.vm.findClass own = some m.cls) (hcls : Bundle.fit cls = true) (hnames : ∀ n ∈ names, Bundle.fit n = true)
    (hk : (Cond.classLink own ik cls).before args s = true) (hini : (Cond.initialized cls).before args s = true) (hstr : vk_R own is text sa s) (hat : ∀ w ∈ vx_atS own ic cls names, w.before args s = true)
    (hgood : ∀ w ∈ Cond.classLink own ik cls :: Cond.initialized cls :: vx_atS own ic cls names, vx_ot w = true)
    (hU : vx_Zq Bundle.tN "UNASSIGNED_STACK" Bundle.steD A s s.heap) (hN : vx_Zq Bundle.tN "SUPPRESSED_SENTINEL" Bundle.listD A s s.heap) (hS : va_S A s.heap H locs) (hsize : ls.size = c.maxLocals)
    (d0 : decode cc pc = .ok (.new ik, 3)) (d3 : decode cc (pc + 3) = .ok (.dup, 1)) (d4 : decode cc (pc + 4) = .ok (.ldc_w is, 3)) (d7 : decode cc (pc + 7) = .ok (.invokespecial ic, 3)) (d10 : decode cc (pc + 10) = .ok (.athrow, 1))
    (hout : ∀ x ∈ c.exceptionTable.toList, covers x (pc + 10) = false)
    (hRframes : names.length + 3 < R.frames) (hRlocals : (rest.map fun v => v.category).sum + (13 * (names.length + 1) + 43) ≤ R.locals) (hRcells : cells + 1 ≤ R.cells) (hRslots : slots + 6 ≤ R.slots) (hlocks : meth.locks = false)
    (hx : ∀ t : State, s.vm.Alike t.vm → H.size ≤ t.heap.size → (∀ q : Nat, q < H.size → t.heap[q]? = H[q]?) → XC cls s t)
    (hf : ∀ z ∈ locs, free z.base) (hc : cells + 1 ≤ mc) (hs : slots + 6 ≤ ms) :
    W p l e R s m args below meth c H locs cells slots (vx_MQ below Qc XC args s mc ms free) (F0 m pc ls rest) := by
  intro T hT X
  have htr : e.platform.stackTraces = false := (show e.platform.stackTraces = l.stackTraces by rw [X.admits.platform]).trans hl
  have Y := vx_rebase X (R' := { frames := R.frames, locals := R.locals, cells := 1, slots := 6 }) (Nat.le_refl _) (Nat.le_refl _) hRcells hRslots
  obtain ⟨s', hA⟩ : ∃ z, z = (T.setVm s.vm).setFrames (.invoking m args :: below) := ⟨_, rfl⟩
  rw [← hA] at Y
  have hvm : s'.vm = s.vm := by rw [hA]; rfl
  have hhp : s'.heap = H := by rw [hA]; exact hT
  have hW0 : s.WarmedH s'.vm := by rw [hvm]; exact State.WarmedH.refl s
  have hat' : ∀ w ∈ vx_atS own ic cls names, w.before args s' = true := fun w hw => vx_ot_at hW0 hvm.symm (hgood w (List.mem_cons_of_mem _ (List.mem_cons_of_mem _ hw))) (hat w hw)
  have hk' : (Cond.classLink own ik cls).before args s' = true := vx_ot_at hW0 hvm.symm (hgood _ List.mem_cons_self) hk
  have hini' : (Cond.initialized cls).before args s' = true := vx_ot_at hW0 hvm.symm (hgood _ (List.mem_cons_of_mem _ List.mem_cons_self)) hini
  have hU' : vx_Zq Bundle.tN "UNASSIGNED_STACK" Bundle.steD A s' s'.heap := by rw [hhp]; exact vx_Zq.moved hW0.alike (hU.kept hS.2.1)
  have hN' : vx_Zq Bundle.tN "SUPPRESSED_SENTINEL" Bundle.listD A s' s'.heap := by rw [hhp]; exact vx_Zq.moved hW0.alike (hN.kept hS.2.1)
  have h : ∀ w ∈ Bundle.ownAtoms own ic cls names, w.before args s' = true := vx_own hat' (vx_isRefq hU'.1) (vx_isRefq hN'.1) hU'.2.word hN'.2.word
  have hown' : s'.vm.findClass own = some m.cls := by rw [hvm]; exact hown
  have hins : (Cond.instantiable cls 6).before args s' = true := h _ (by simp [Bundle.ownAtoms])
  obtain ⟨vm₁, cX, kX, hfX, hkX, -, -, X₁, st1⟩ := Y.newCold hexec (own := own) (C := cls) (index := ik) (n := 6) hown' hk' hins hini'
    (g := F0 m pc ls rest) rfl (by rw [hb]; exact d0) (Nat.le_refl _) (Nat.le_refl _)
  generalize hT1 : (T.setVm vm₁).pushCell { cls := cX, slots := kX.instanceTypes.map defaultValue, vm := .none } = T1 at X₁ st1
  have hcat : (Value.ref T.heap.size).category = 1 := rfl
  have hcellA : T1.heap[T.heap.size]? = some (freshCell cX kX) := by rw [← hT1]; exact State.heap_pushCell_size _ _
  have d3' : decode c.code (pc + 3) = .ok (.dup, 1) := by rw [hb]; exact d3
  have d4' : decode c.code (pc + 4) = .ok (.ldc_w is, 3) := by rw [hb]; exact d4
  have hstr' : vk_R own is text sa s' := vk_R.warm hW0 hstr
  obtain ⟨U, hsteps, hrun, hend, hW, hsame, ce, hce, hO⟩ := X₁.ctorThrowS hexec htr (own := own) (cls := cls) (names := names) (ic := ic) hown' hcls hnames h (fun x hx => nomatch hx) hfX hkX hcellA (by rw [hhp, hT]; exact Nat.le_refl _) (msg := .ref sa) rfl
    (g := { method := m, pc := pc + 7, locals := ls, stack := .ref sa :: .ref T.heap.size :: .ref T.heap.size :: rest, locked := none }) rfl hsize rfl rfl (rest := rest) rfl
    (by rw [hb]; exact d7) (by rw [hb]; exact d10) hout hRframes (by simp only [List.map_cons, List.sum_cons, hcat]; omega) hlocks
  obtain ⟨f1, f2⟩ := vx_frame hsame
  rw [hhp] at f1 f2
  have hWs : s.WarmedH U.vm := State.WarmedH.trans hW0 hW
  have hcl : s.vm.findClass cls = some ce.cls := by
    have h9 := hO.cls
    rw [hvm] at h9
    exact h9
  have hall : s.sameButNew ({ U with vm := s.vm } : State) locs mc ms := by
    subst hA
    obtain ⟨e1, e2⟩ := hsame
    rw [State.setFrames_setFrames] at e1
    have h2 : (T.setVm s.vm).sameButNew ({ U with vm := s.vm } : State) [] (0 + 1) (0 + 6) := ⟨e1, e2⟩
    have h3 := X.same.trans h2
    rw [List.append_nil] at h3
    exact h3.mono hc hs
  refine ⟨U, ?_, .threw T.heap.size, hrun, hend, Or.inr ⟨T.heap.size, rfl, cls, ce, locs, hx U hWs.alike f1 (fun q hq => f2 q hq (fun z hz => nomatch hz)), hce, hO.vm, hcl, hWs, hall, hf⟩⟩
  refine st1 _ ?_
  show Steps p.tables e below (T1.setTop { method := m, pc := pc + 3, locals := ls, stack := .ref T.heap.size :: rest, locked := none }) _
  jvm_step X₁.here [X₁.here.top, hexec, d3', Value.category]
  exact X₁.ldcStringW hexec (own := own) (text := text) (index := is) (a := sa) hown' hstr'.1 hstr'.2
    (g := { method := m, pc := pc + 4, locals := ls, stack := .ref T.heap.size :: .ref T.heap.size :: rest, locked := none }) rfl d4' _ hsteps
end Ends
section Bodies
variable {l : Launch}
theorem vx_ofW {y : MethodName} {ws ws' : List Cond} {rm : Room} {Pc : Array Value → State → Prop} {Qc : Array Value → State → Outcome → State → Prop} {XC : String → State → State → Prop} {mc ms : Nat} {free : Addr → Prop} {cc : ByteArray} {maxL : Nat} {ret : Option FieldType}
    (hy : plainName y.cls = true) (hw : ws = Cond.code y cc maxL ret :: ws')
    (body : ∀ p e s m args below meth c s₁, BodyLoose p l y (headSpec ws rm) cc maxL ret e s m args below meth c s₁ → c.maxLocals = maxL → (∀ x ∈ c.exceptionTable.toList, False) → Pc args s →
      W p l e (headSpec ws rm).room s m args below meth c s.heap [] 0 0 (vx_MQ below Qc XC args s mc ms free) (entryFrame m args maxL)) : vx_Met l y ws rm Pc Qc XC mc ms free := by
  refine MetFree.of_bodyS (code := cc) (maxLocals := maxL) (ret := ret) hy ?_ ?_
  · intro args s m h hn
    obtain ⟨meth, c, h1, h2, h3, h4, h5, h6, -, -⟩ := Cond.code_spec hn (atoms_spec (ws := ws) h _ (by rw [hw]; exact List.mem_cons_self))
    exact ⟨meth, c, h1, h2, h3, h4, h5, h6⟩
  · intro p e s m args below meth c s₁ B hml hP _
    have hh0 : s₁.heap = s.heap := by rw [B.state]; rfl
    have ht : ∀ x ∈ c.exceptionTable.toList, False := by
      obtain ⟨meth9, c9, h1, h2, -, -, -, -, h7, -⟩ := Cond.code_spec B.named (atoms_spec (ws := ws) B.pre _ (by rw [hw]; exact List.mem_cons_self))
      cases Option.some.inj (h1.symm.trans B.method)
      cases Option.some.inj (h2.symm.trans (Stand.of_body B).code)
      intro x hx
      rw [Array.isEmpty_iff.mp h7] at hx
      cases hx
    obtain ⟨t, a1, o, b1, b2, b3⟩ := body p e s m args below meth c s₁ B hml ht hP s₁ hh0 (Stand.of_body B)
    exact ⟨t, o, a1, b1, b2, b3⟩
/-- the table of a body with handlers -/
theorem vx_table {p : Program} {x y : MethodName} {S : Spec} {cc bytes : ByteArray} {maxL maxL' : Nat} {ret ret' : Option FieldType} {e : Env} {s s₁ : State} {m : MethodId} {args : Array Value} {below : List Frame} {meth : Method} {c : Code} {hh : List (Nat × Nat × Nat × Nat)}
    (B : BodyLoose p l y S cc maxL ret e s m args below meth c s₁) (h : (Cond.codeWith y bytes maxL' ret' hh).before args s = true) : c.exceptionTable.toList = tableOf hh := by
  obtain ⟨m9, meth9, c9, hn9, h1, h2, -, -, h6, -⟩ := Cond.codeWith_spec h
  cases Option.some.inj (hn9.symm.trans B.named)
  cases Option.some.inj (h1.symm.trans B.method)
  cases Option.some.inj (h2.symm.trans (Stand.of_body B).code)
  rw [← h6, table_eq]
end Bodies
end VXA
/-! ===== END ===== -/
/-! ===== BEGIN a static call of a method with an exception table ===== -/
section VXS
variable {p : Program} {l : Launch} {e : Env} {R : Room} {s : State} {m : MethodId} {args : Array Value} {below : List Frame} {meth : Method} {c : Code} {T : State} {H : Heap} {locs : List Loc} {cells slots : Nat}
abbrev vx_CSW (R : Room) (s : State) (args : Array Value) (own : String) (index : Nat) (y : MethodName) (bytes : ByteArray) (maxL : Nat) (ret : Option FieldType) (hh : List (Nat × Nat × Nat × Nat)) (ws : List Cond) (rm : Room) (mc ms n : Nat) : Prop :=
  (rm.cells = mc ∧ rm.slots = ms ∧ rm.frames + 1 ≤ R.frames ∧ 8 + (maxL + 11) + rm.locals ≤ R.locals ∧ (∀ w ∈ ws, ∀ (a' : Array Value) (U : State), s.WarmedH U.vm → w.before a' U = true) ∧ Cond.codeWith y bytes maxL ret hh ∈ ws) ∧
  (Cond.codeWith y bytes maxL ret hh).before args s = true ∧ (Cond.initialized y.cls).before args s = true ∧ (y.cls ≠ "java/lang/invoke/MethodHandle" ∧ y.cls ≠ "java/lang/invoke/VarHandle") ∧
  (∀ sig, parseMethodDescriptor y.desc = some sig → n = sig.parameters.length) ∧ (Cond.methodLink own index y).before args s = true ∧ (Cond.static y).before args s = true
theorem vx_cwSW {own : String} {index maxL mc ms : Nat} {y : MethodName} {bytes : ByteArray} {ret : Option FieldType} {hh : List (Nat × Nat × Nat × Nat)} {Ts ws ws' : List Cond} {rm : Room} (n : Nat) (ht : ∀ w ∈ Ts, w.before args s = true) (hT : GoodIn Ts (va_wsS own index y ws)) (hw : ws = Cond.codeWith y bytes maxL ret hh :: ws') (hrc : rm.cells = mc) (hrs : rm.slots = ms)
    (hd : y.cls ≠ "java/lang/invoke/MethodHandle" ∧ y.cls ≠ "java/lang/invoke/VarHandle" ∧ (parseMethodDescriptor y.desc).map (fun d => d.parameters.length) = some n) (hR : rm.frames + 1 ≤ R.frames ∧ 8 + (maxL + 11) + rm.locals ≤ R.locals) :
    vx_CSW R s args own index y bytes maxL ret hh ws rm mc ms n := by
  have ok : ∀ w ∈ va_wsS own index y ws, w.before args s = true := fun w h => ht w (hT w h).1
  have hG : GoodIn Ts ws := fun w h => hT w (by unfold va_wsS; exact List.mem_append_right _ h)
  have hc : Cond.codeWith y bytes maxL ret hh ∈ ws := by rw [hw]; exact List.mem_cons_self
  refine ⟨⟨hrc, hrs, hR.1, hR.2, pay_in ht hG, hc⟩, ht _ (hG _ hc).1, ok _ (by simp [va_wsS]), ⟨hd.1, hd.2.1⟩, fun sig h => ?_, ok _ (by simp [va_wsS]), ok _ (by simp [va_wsS])⟩
  have h2 := hd.2.2
  rw [h] at h2
  exact (Option.some.inj h2).symm
theorem vx_callSW (X : Stand p l e R s m args below meth c T locs cells slots) (hexec : p.tables.exec = Jvm.exec) {own : String} {index : Nat} {y : MethodName} {bytes : ByteArray} {maxL : Nat} {ret : Option FieldType} {hh : List (Nat × Nat × Nat × Nat)}
    (hown : s.vm.findClass own = some m.cls) (hlink : (Cond.methodLink own index y).before args s = true) (hstat : (Cond.static y).before args s = true) (hinit : (Cond.initialized y.cls).before args s = true)
    (hcode : (Cond.codeWith y bytes maxL ret hh).before args s = true) (hy : y.cls ≠ "java/lang/invoke/MethodHandle" ∧ y.cls ≠ "java/lang/invoke/VarHandle")
    {W9 : Nat} {Pre : Pt → Array Value → Prop} {Post : Pt → Array Value → Option Value → Pt → Prop} (hK : Back l R p e below s args y 3 W9 Pre Post)
    {g : JFrame} (hg : g.method = m) (hsize : g.locals.size = c.maxLocals) {argsL rest : List Value} (hlen : ∀ sig, parseMethodDescriptor y.desc = some sig → argsL.length = sig.parameters.length)
    (hstack : g.stack = argsL.reverse ++ rest) (hW : 2 * g.monitorRoom + (rest.map fun v => v.category).sum ≤ W9) (hdg : decode c.code g.pc = .ok (.invokestatic index, 3))
    (hpre : ∀ vm₁, s.WarmedH vm₁ → Pre ⟨T.setVm vm₁, locs, cells, slots⟩ argsL.toArray) :
    ∃ (v : Option Value) (vm₁ : Vm) (B : Pt), s.WarmedH vm₁ ∧ Stand p l e R s m args below meth c B.U B.locs B.cells B.slots ∧ Post ⟨T.setVm vm₁, locs, cells, slots⟩ argsL.toArray v B ∧
      ∀ target, Steps p.tables e below (B.U.setTop { g with pc := g.pc + 3, stack := v.toList ++ rest }) target → Steps p.tables e below (T.setTop g) target := by
  obtain ⟨mk, methM, cM, hnamed, hmethM, -, -, -, -, -, -, hsigM⟩ := Cond.codeWith_spec hcode
  have hstatic : methM.isStatic = true := Cond.static_spec hnamed hmethM hstat
  obtain ⟨kP, hkP, -⟩ := className_of_methodNamed hnamed
  have hinitP : kP.init = .initialized := Cond.initialized_spec (findClass_of_methodNamed hnamed) hkP hinit
  obtain ⟨vm₁, X₁, hstep₁⟩ := X.invokestatic hexec hown hlink hnamed hmethM hstatic hkP hinitP hy (g := g) hg (argsL := argsL) (rest := rest) (hlen _ hsigM) hstack hdg
  obtain ⟨v, B, X', hpost, hsteps⟩ := hK m meth c ⟨T.setVm vm₁, locs, cells, slots⟩ { g with stack := rest } (.invokestatic index) mk argsL.toArray X₁ hg hsize hdg hW (X₁.named hnamed) (hpre vm₁ X₁.warmed)
  exact ⟨v, vm₁, B, X₁.warmed, X', hpost, fun target h => hstep₁ _ fun acts => by rw [doInvoke_state]; exact hsteps.trans h⟩
theorem vx_runSW {y : MethodName} {bytes cc : ByteArray} {maxL nL mc ms n index : Nat} {ret : Option FieldType} {hh : List (Nat × Nat × Nat × Nat)} {ws : List Cond} {rm : Room} {Pc : Array Value → State → Prop} {Qc : Array Value → State → Outcome → State → Prop} {free : Addr → Prop} {Ts : List Cond} {own : String} {As rest : List Value} {g : JFrame}
    (S : CallFix p m c cc nL s args Ts own) (hM : Met l y ws rm Pc Qc mc ms free) (cw : vx_CSW R s args own index y bytes maxL ret hh ws rm mc ms n) (hp : PreS s H Pc As)
    (hg : g.method = m) (hn : As.length = n) (hsize : g.locals.size = nL) (hstack : g.stack = As.reverse ++ rest) (hW : 2 * g.monitorRoom + (rest.map fun v => v.category).sum ≤ 8) (hdg : decode cc g.pc = .ok (.invokestatic index, 3)) (hf : cells + mc ≤ R.cells ∧ slots + ms ≤ R.slots) :
    va_Run p l e R s m args below meth c H locs cells slots mc ms g rest (Qc As.toArray) (free) := by
  obtain ⟨⟨hrc, hrs, hfr, hlo, hws, hcw⟩, hcode, hini, hy, hlen, hl, hstt⟩ := cw
  have hK : Back l R p e below s args y 3 8 (PreOf R mc ms Pc) (PostOf Qc mc ms free) := va_backW (hh := hh) (bytes := bytes) (maxL := maxL) (ret := ret) hM hp.1 hrc hrs hfr hlo hws hcw (fun a' U hW => word_at hW (Or.inl (by first | rfl | simp [Cond.onTables, Cond.keeps, Cond.steady])) hini)
  obtain ⟨hx, hb, hml, ho, -⟩ := S
  intro T hT X
  obtain ⟨v, vm₁, ⟨U', l2, c2, s2⟩, hW₁, X', ⟨g', mk, t, L, e1, e2, hq, h1, hL, h2, h3⟩, st⟩ := vx_callSW X hx (hh := hh) (bytes := bytes) (maxL := maxL) (ret := ret) ho hl hstt hini hcode hy hK hg (hsize.trans hml.symm) (argsL := As) (rest := rest) (fun sig h => hn.trans (hlen sig h)) hstack hW (by rw [hb]; exact hdg)
    (fun vm₁ hW₁ => ⟨hf.1, hf.2, hp.2 (T.setVm vm₁) hT hW₁⟩)
  dsimp only [Pt.U, Pt.locs, Pt.cells, Pt.slots] at X' e1 e2 h1 h2 h3 st
  subst h1; subst h2; subst h3
  exact ⟨v, (T.setVm vm₁).calling g' mk As.toArray, t, U', L, hT, X', hL, e1, e2, hq, st⟩
/-- not caught here, past rows that name other classes: it goes on to the caller -/
theorem vx_outP {p : Program} {l : Launch} {e : Env} {R : Room} {s : State} {m : MethodId} {args : Array Value} {below : List Frame} {meth : Method} {c : Code} {H : Heap} {locs : List Loc} {cells slots : Nat} {free : Addr → Prop} {ls : Array Slot} {rest : List Value} {Qc : Array Value → State → Outcome → State → Prop} {XC : String → State → State → Prop}
    {pc : Nat} {own E : String} {ce : Cell} {q : Addr} {mc ms : Nat} (hown : s.vm.findClass own = some m.cls) (hlocks : meth.locks = false)
    (hpass : ∀ z ∈ c.exceptionTable.toList, covers z pc = false ∨ (z.catchType ≠ 0 ∧ ∃ nm : String, (Cond.classLink own z.catchType nm).before args s = true ∧ va_Nc E nm s)) (hcell : H[q]? = some ce) (hv : ce.vm = .none) (hcl : s.vm.findClass E = some ce.cls)
    (hx : ∀ t : State, t.heap = H → s.vm.Alike t.vm → XC E s t) (hf : ∀ z ∈ locs, free z.base) (hc : cells ≤ mc) (hs : slots ≤ ms) :
    vx_W p l e R s m args below meth c H locs cells slots (vx_MQ below Qc XC args s mc ms free) (F0 m pc ls rest) q := by
  intro T hT X
  have hpl : e.platform.magicAccessors = ({} : Platform).magicAccessors := by rw [X.admits.platform]
  obtain ⟨vm', hW', X', st⟩ := X.outThrough hlocks q (g := F0 m pc ls rest) rfl rfl rfl (cell := ce) (by rw [hT]; exact hcell) (by rw [hv]; rfl)
    (by obtain ⟨k9, h9, -⟩ := Vm.findClass_spec hcl; exact ⟨k9, h9⟩) (fun z hz => by
      rcases hpass z hz with h | ⟨hz0, nm, hl1, hn1⟩
      · exact Or.inl h
      · obtain ⟨c6, hc6, hcl6⟩ := Cond.classLink_spec hown hl1 e.platform hpl
        obtain ⟨a8, b8, h1, h2, h3⟩ := hn1
        cases Option.some.inj (h1.symm.trans hcl)
        cases Option.some.inj (h2.symm.trans hc6)
        exact Or.inr ⟨hz0, _, hcl6, h3⟩)
  obtain ⟨g₀, hfr⟩ := X'.frames_eq
  have hcell9 : ((T.setVm vm').setFrames (.throwing q :: below)).heap[q]? = some ce := by
    show T.heap[q]? = some ce
    rw [hT]; exact hcell
  have hend : Ended ((T.setVm vm').setFrames (.throwing q :: below)) below (.threw q) := State.frames_setFrames _ (State.cur_lt_of_frames hfr)
  refine ⟨(T.setVm vm').setFrames (.throwing q :: below), ?_, .threw q, X'.here.running, hend, Or.inr ⟨q, rfl, E, ce, locs, hx _ hT (X'.ends _).1.alike, hcell9, hv, hcl, (X'.ends _).1, (X'.ends _).2.mono hc hs, hf⟩⟩
  rw [X.pushThrowing_eq]
  exact st
/-- a thing of a world lies in the heap -/
theorem vx_lt {D : va_G} {cl : List vw_C} {ws : va_W} {H1 : Heap} (h : va_P D cl ws H1) {k : Nat} {q : Nat × va_E} (hk : ws[k]? = some q) : q.1 < H1.size := (h k q hk).lt
end VXS
/-! ===== END ===== -/
/-! ===== BEGIN methods with a table of their own: called by a name, returning or throwing ===== -/
section VXH
/-! vx_backW, vx_callVX, vx_callSX, vx_callVW, vx_runVW, vx_runVX, vx_runSX, vx_ofWH follow the same proofs as their sisters above (Free/Laws.lean, Shelf42/LK1.lean); vx_outP calls Shelf42/NT130.lean (outThrough). -/
section
variable {l : Launch} {R : Room} {p : Program} {e : Env} {below : List Frame} {s : State} {sargs : Array Value} {y : MethodName} {len W9 : Nat}
theorem vx_backW {ws : List Cond} {rm : Room} {Pc : Array Value → State → Prop} {Qc : Array Value → State → Outcome → State → Prop} {XC : String → State → State → Prop} {mc ms : Nat} {free : Addr → Prop} {bytes : ByteArray} {maxL : Nat} {ret : Option FieldType} {hh : List (Nat × Nat × Nat × Nat)}
    (hM : vx_Met l y ws rm Pc Qc XC mc ms free) (hblind : FrameBlind Pc) (hrc : rm.cells = mc) (hrs : rm.slots = ms)
    (hframes : rm.frames + 1 ≤ R.frames) (hlocals : W9 + (maxL + 11) + rm.locals ≤ R.locals)
    (hws : ∀ w ∈ ws, ∀ a' U, s.WarmedH U.vm → w.before a' U = true) (hcode : Cond.codeWith y bytes maxL ret hh ∈ ws) (hinit : ∀ a' U, s.WarmedH U.vm → (Cond.initialized y.cls).before a' U = true) :
    vx_Back l R p e below s sargs y len W9 (PreOf R mc ms Pc) (PostOf Qc mc ms free) (vx_Post XC mc ms free) := by
  intro m meth c A g ig mk a X hg hsize hdg hW hn hp
  have h1 : (headSpec ws rm).pre.before a A.U = true := atoms_intro fun w hw => hws w hw _ _ X.warmed
  have h2 : (Cond.codeWith y bytes maxL ret hh).before a A.U = true := hws _ hcode _ _ X.warmed
  have h3 : (Cond.initialized y.cls).before a A.U = true := hinit _ _ X.warmed
  have h4 : A.cells + (headSpec ws rm).room.cells ≤ R.cells := by rw [show (headSpec ws rm).room.cells = mc from hrc]; exact hp.1
  have h5 : A.slots + (headSpec ws rm).room.slots ≤ R.slots := by rw [show (headSpec ws rm).room.slots = ms from hrs]; exact hp.2.1
  have hPc : Pc a (A.U.calling g mk a) := hblind _ _ _ _ hp.2.2
  obtain ⟨U, Ls, c0, s0⟩ := A
  dsimp only [Pt.U, Pt.locs, Pt.cells, Pt.slots] at h1 h2 h3 h4 h5 X hn hPc ⊢
  obtain ⟨m9, methY, cY, hn9, hmY, hcY, -, hlY, -⟩ := Cond.codeWith_spec h2
  cases Option.some.inj (hn9.symm.trans hn)
  obtain ⟨kY, hkY, -⟩ := className_of_methodNamed hn
  have hinitY : kY.init = .initialized := Cond.initialized_spec (findClass_of_methodNamed hn) hkY h3
  have h : At U g.method c below := by rw [hg]; exact X.here
  have hlocals9 : W9 + (maxL + 11) + (headSpec ws rm).room.locals ≤ R.locals := hlocals
  have happ : (headSpec ws rm).appliesLoose y e.platform (U.calling g mk a) = true :=
    Spec.appliesLoose_calling (g := g) h hdg hn hkY hinitY
      (X.room_calling (g := g) (R' := (headSpec ws rm).room) hsize hmY hcY hframes (by rw [hlY]; omega) h4 h5) h1
  obtain ⟨mid, hmid⟩ := h.above
  have hfr : (U.setTop g).frames = (.java g :: mid) ++ below := by rw [State.frames_setTop' g h.top, hmid]; rfl
  obtain ⟨o, s₂, hsteps, -, hend, hq⟩ := Steps.callFree hM p X.admits X.cas X.clock (acts := []) hfr happ hPc trivial
  have hq' : vx_Q Qc XC mc ms free a (U.calling g mk a) o s₂ := hq
  rw [State.frames_setTop' g h.top] at hend
  obtain ⟨g₀, hg0⟩ := Option.isSome_iff_exists.mp h.top
  obtain ⟨r, hr⟩ := State.topJava?_eq_some.mp hg0
  have hr' : (({ U with heap := s₂.heap, slotsUsed := s₂.slotsUsed } : State).setVm s₂.vm).frames = .java g₀ :: r := hr
  rcases hq' with ⟨hqc, L, hfe, hL⟩ | ⟨q, rfl, E, ce, L, hx, hce, hcv, hcl, hW₂, hsm, hL⟩
  · obtain ⟨⟨v, rfl⟩, hW₂, e2, q2, q3, q4, q5, q6⟩ := id hfe
    have e3 : s₂ = ({ (U.calling g mk a).setFrames s₂.frames with heap := s₂.heap, slotsUsed := s₂.slotsUsed } : State).setVm s₂.vm := by
      have : s₂ = ({ s₂ with vm := (U.calling g mk a).vm } : State).setVm s₂.vm := rfl
      rw [e2] at this
      exact this
    obtain ⟨c₂, i₂, len₂, hc₂, hd₂, hf₂⟩ := hend
    have hW' : U.WarmedH s₂.vm := hW₂
    have hcc : c₂ = c := by
      have h1 : s₂.code? g.method = U.code? g.method := by
        rw [State.code?_eq, State.code?_eq, hW'.alike.method?]
      exact Option.some.inj (hc₂.symm.trans (h1.trans h.code))
    subst hcc
    have hlen : len₂ = len := by rw [hdg] at hd₂; cases hd₂; rfl
    subst hlen
    have hs₂ : s₂ = (({ U with heap := s₂.heap, slotsUsed := s₂.slotsUsed } : State).setVm s₂.vm).setTop { g with pc := g.pc + len₂, stack := v.toList ++ g.stack } := by
      refine e3.trans ?_
      rw [hf₂, State.calling_eq h.top, State.setFrames_setFrames, State.setTop_of_frames _ hr', hr]
      rfl
    have hsame : U.sameButNew ({ U with heap := s₂.heap, slotsUsed := s₂.slotsUsed } : State) L mc ms := by
      refine ⟨?_, q2, q3, q4, q5, q6⟩
      obtain ⟨t, ht, -⟩ := State.frames_cons hr
      show ({ U with heap := s₂.heap, slotsUsed := s₂.slotsUsed } : State) = { U.setFrames U.frames with heap := s₂.heap, slotsUsed := s₂.slotsUsed }
      rw [State.setFrames_self ht]
    subst hg
    refine Or.inl ⟨v, ⟨(({ U with heap := s₂.heap, slotsUsed := s₂.slotsUsed } : State).setVm s₂.vm), Ls ++ L, c0 + mc, s0 + ms⟩,
      ⟨X.admits, X.cas, X.clock, X.frames, X.room, X.hears, X.method, X.code, (X.here.setHeapUsed s₂.heap s₂.slotsUsed).setVm hW'.alike, X.tail, State.WarmedH.trans X.warmed hW', X.limits, X.bytes, X.same.trans (hsame.setVm s.vm)⟩,
      ⟨g, mk, s₂, L, rfl, rfl, hqc, rfl, hL, rfl, rfl⟩, ?_⟩
    show Steps p.tables e below _ ((({ U with heap := s₂.heap, slotsUsed := s₂.slotsUsed } : State).setVm s₂.vm).setTop { g with pc := g.pc + len₂, stack := v.toList ++ g.stack })
    rw [← hs₂]
    exact hsteps
  · obtain ⟨e2, q2, q3, q4, q5, q6⟩ := id hsm
    have e3 : s₂ = ({ (U.calling g mk a).setFrames s₂.frames with heap := s₂.heap, slotsUsed := s₂.slotsUsed } : State).setVm s₂.vm := by
      have : s₂ = ({ s₂ with vm := (U.calling g mk a).vm } : State).setVm s₂.vm := rfl
      rw [e2] at this
      exact this
    have hf₂ : s₂.frames = .throwing q :: .java g :: U.frames.tail := hend
    have hW' : U.WarmedH s₂.vm := hW₂
    have hs₂ : s₂ = ((({ U with heap := s₂.heap, slotsUsed := s₂.slotsUsed } : State).setVm s₂.vm).setTop g).pushFrame (.throwing q) := by
      refine e3.trans ?_
      rw [hf₂, State.calling_eq h.top, State.setFrames_setFrames, State.pushFrame, State.frames_setTop _ hr', State.setTop_of_frames _ hr', State.setFrames_setFrames, hr]
      rfl
    have hsame : U.sameButNew ({ U with heap := s₂.heap, slotsUsed := s₂.slotsUsed } : State) L mc ms := by
      refine ⟨?_, q2, q3, q4, q5, q6⟩
      obtain ⟨t, ht, -⟩ := State.frames_cons hr
      show ({ U with heap := s₂.heap, slotsUsed := s₂.slotsUsed } : State) = { U.setFrames U.frames with heap := s₂.heap, slotsUsed := s₂.slotsUsed }
      rw [State.setFrames_self ht]
    subst hg
    refine Or.inr ⟨q, ⟨(({ U with heap := s₂.heap, slotsUsed := s₂.slotsUsed } : State).setVm s₂.vm), Ls ++ L, c0 + mc, s0 + ms⟩,
      ⟨X.admits, X.cas, X.clock, X.frames, X.room, X.hears, X.method, X.code, (X.here.setHeapUsed s₂.heap s₂.slotsUsed).setVm hW'.alike, X.tail, State.WarmedH.trans X.warmed hW', X.limits, X.bytes, X.same.trans (hsame.setVm s.vm)⟩,
      ⟨g, mk, s₂, L, E, ce, rfl, rfl, hx, hce, hcv, hcl, rfl, hL, rfl, rfl⟩, ?_⟩
    show Steps p.tables e below _ (((({ U with heap := s₂.heap, slotsUsed := s₂.slotsUsed } : State).setVm s₂.vm).setTop g).pushFrame (.throwing q))
    rw [← hs₂]
    exact hsteps
end
variable {p : Program} {l : Launch} {e : Env} {R : Room} {s : State} {m : MethodId} {args : Array Value} {below : List Frame} {meth : Method} {c : Code} {T : State} {H : Heap} {locs : List Loc} {cells slots : Nat}
theorem vx_callVX (X : Stand p l e R s m args below meth c T locs cells slots) (hexec : p.tables.exec = Jvm.exec) {own C : String} {index : Nat} {y : MethodName} {bytes : ByteArray} {maxL : Nat} {ret : Option FieldType} {hh : List (Nat × Nat × Nat × Nat)}
    (hown : s.vm.findClass own = some m.cls) (hlink : (Cond.methodLink own index y).before args s = true) (hinst : (Cond.instanceMethod y).before args s = true) (hsel : (Cond.selects C y y).before args s = true)
    (hcode : (Cond.codeWith y bytes maxL ret hh).before args s = true) (hy : y.cls ≠ "java/lang/invoke/MethodHandle" ∧ y.cls ≠ "java/lang/invoke/VarHandle")
    {W9 : Nat} {Pre : Pt → Array Value → Prop} {Post : Pt → Array Value → Option Value → Pt → Prop} {PostX : Pt → Array Value → Addr → Pt → Prop} (hK : vx_Back l R p e below s args y 3 W9 Pre Post PostX)
    {b : Addr} {cellB : Cell} (hcell : T.heap[b]? = some cellB) (hobj : cellB.vm.isStatics = false) (hcls : s.vm.findClass C = some cellB.cls)
    {g : JFrame} (hg : g.method = m) (hsize : g.locals.size = c.maxLocals) {argsL rest : List Value} (hlen : ∀ sig, parseMethodDescriptor y.desc = some sig → argsL.length = sig.parameters.length)
    (hstack : g.stack = argsL.reverse ++ .ref b :: rest) (hW : 2 * g.monitorRoom + (rest.map fun v => v.category).sum ≤ W9) (hdg : decode c.code g.pc = .ok (.invokevirtual index, 3))
    (hpre : ∀ vm₁, s.WarmedH vm₁ → Pre ⟨T.setVm vm₁, locs, cells, slots⟩ (Value.ref b :: argsL).toArray) :
    (∃ (v : Option Value) (vm₁ : Vm) (B : Pt), s.WarmedH vm₁ ∧ Stand p l e R s m args below meth c B.U B.locs B.cells B.slots ∧ Post ⟨T.setVm vm₁, locs, cells, slots⟩ (Value.ref b :: argsL).toArray v B ∧
      ∀ target, Steps p.tables e below (B.U.setTop { g with pc := g.pc + 3, stack := v.toList ++ rest }) target → Steps p.tables e below (T.setTop g) target) ∨
    (∃ (q : Addr) (vm₁ : Vm) (B : Pt), s.WarmedH vm₁ ∧ Stand p l e R s m args below meth c B.U B.locs B.cells B.slots ∧ PostX ⟨T.setVm vm₁, locs, cells, slots⟩ (Value.ref b :: argsL).toArray q B ∧
      Steps p.tables e below (T.setTop g) ((B.U.setTop { g with stack := rest }).pushFrame (.throwing q))) := by
  obtain ⟨mk, methM, hnamed, hmethM, hstM, habM⟩ := Cond.instanceMethod_spec hinst
  obtain ⟨m8, methM', cM, hn8, hmethM', -, -, -, -, -, -, hsigM⟩ := Cond.codeWith_spec hcode
  cases Option.some.inj (hn8.symm.trans hnamed)
  cases hmethM.symm.trans hmethM'
  obtain ⟨c2, r2, m2, q1, q2, q3, q4, kP, hkP, hkPi⟩ := Cond.selects_spec hsel
  cases hcls.symm.trans q1
  cases (State.methodFound?_of_named hnamed hy).symm.trans q2
  cases hnamed.symm.trans q3
  have hselP : selectMethod e.platform s.vm cellB.cls mk = .method mk := by rw [Launch.admits_selectMethod X.admits]; exact q4
  obtain ⟨vm₁, X₁, hstep₁⟩ := X.invokevirtual hexec hown hlink hnamed hmethM hstM hkP hkPi hy (a := b) (cell := cellB) hcell
    (fun z h => by rw [h] at hobj; cases hobj) hselP hmethM habM hkP hkPi (g := g) hg (argsL := argsL) (rest := rest) (hlen _ hsigM) hstack hdg
  rcases hK m meth c ⟨T.setVm vm₁, locs, cells, slots⟩ { g with stack := rest } (.invokevirtual index) mk (Value.ref b :: argsL).toArray X₁ hg hsize hdg hW (X₁.named hnamed) (hpre vm₁ X₁.warmed) with ⟨v, B, X', hpost, hsteps⟩ | ⟨q, B, X', hpost, hsteps⟩
  · exact Or.inl ⟨v, vm₁, B, X₁.warmed, X', hpost, fun target h => hstep₁ _ fun acts => by rw [doInvoke_state]; exact hsteps.trans h⟩
  · exact Or.inr ⟨q, vm₁, B, X₁.warmed, X', hpost, hstep₁ _ fun acts => by rw [doInvoke_state]; exact hsteps⟩
theorem vx_callSX (X : Stand p l e R s m args below meth c T locs cells slots) (hexec : p.tables.exec = Jvm.exec) {own : String} {index : Nat} {y : MethodName} {bytes : ByteArray} {maxL : Nat} {ret : Option FieldType} {hh : List (Nat × Nat × Nat × Nat)}
    (hown : s.vm.findClass own = some m.cls) (hlink : (Cond.methodLink own index y).before args s = true) (hstat : (Cond.static y).before args s = true) (hinit : (Cond.initialized y.cls).before args s = true)
    (hcode : (Cond.codeWith y bytes maxL ret hh).before args s = true) (hy : y.cls ≠ "java/lang/invoke/MethodHandle" ∧ y.cls ≠ "java/lang/invoke/VarHandle")
    {W9 : Nat} {Pre : Pt → Array Value → Prop} {Post : Pt → Array Value → Option Value → Pt → Prop} {PostX : Pt → Array Value → Addr → Pt → Prop} (hK : vx_Back l R p e below s args y 3 W9 Pre Post PostX)
    {g : JFrame} (hg : g.method = m) (hsize : g.locals.size = c.maxLocals) {argsL rest : List Value} (hlen : ∀ sig, parseMethodDescriptor y.desc = some sig → argsL.length = sig.parameters.length)
    (hstack : g.stack = argsL.reverse ++ rest) (hW : 2 * g.monitorRoom + (rest.map fun v => v.category).sum ≤ W9) (hdg : decode c.code g.pc = .ok (.invokestatic index, 3))
    (hpre : ∀ vm₁, s.WarmedH vm₁ → Pre ⟨T.setVm vm₁, locs, cells, slots⟩ argsL.toArray) :
    (∃ (v : Option Value) (vm₁ : Vm) (B : Pt), s.WarmedH vm₁ ∧ Stand p l e R s m args below meth c B.U B.locs B.cells B.slots ∧ Post ⟨T.setVm vm₁, locs, cells, slots⟩ argsL.toArray v B ∧
      ∀ target, Steps p.tables e below (B.U.setTop { g with pc := g.pc + 3, stack := v.toList ++ rest }) target → Steps p.tables e below (T.setTop g) target) ∨
    (∃ (q : Addr) (vm₁ : Vm) (B : Pt), s.WarmedH vm₁ ∧ Stand p l e R s m args below meth c B.U B.locs B.cells B.slots ∧ PostX ⟨T.setVm vm₁, locs, cells, slots⟩ argsL.toArray q B ∧
      Steps p.tables e below (T.setTop g) ((B.U.setTop { g with stack := rest }).pushFrame (.throwing q))) := by
  obtain ⟨mk, methM, cM, hnamed, hmethM, -, -, -, -, -, -, hsigM⟩ := Cond.codeWith_spec hcode
  have hstatic : methM.isStatic = true := Cond.static_spec hnamed hmethM hstat
  obtain ⟨kP, hkP, -⟩ := className_of_methodNamed hnamed
  have hinitP : kP.init = .initialized := Cond.initialized_spec (findClass_of_methodNamed hnamed) hkP hinit
  obtain ⟨vm₁, X₁, hstep₁⟩ := X.invokestatic hexec hown hlink hnamed hmethM hstatic hkP hinitP hy (g := g) hg (argsL := argsL) (rest := rest) (hlen _ hsigM) hstack hdg
  rcases hK m meth c ⟨T.setVm vm₁, locs, cells, slots⟩ { g with stack := rest } (.invokestatic index) mk argsL.toArray X₁ hg hsize hdg hW (X₁.named hnamed) (hpre vm₁ X₁.warmed) with ⟨v, B, X', hpost, hsteps⟩ | ⟨q, B, X', hpost, hsteps⟩
  · exact Or.inl ⟨v, vm₁, B, X₁.warmed, X', hpost, fun target h => hstep₁ _ fun acts => by rw [doInvoke_state]; exact hsteps.trans h⟩
  · exact Or.inr ⟨q, vm₁, B, X₁.warmed, X', hpost, hstep₁ _ fun acts => by rw [doInvoke_state]; exact hsteps⟩
theorem vx_callVW (X : Stand p l e R s m args below meth c T locs cells slots) (hexec : p.tables.exec = Jvm.exec) {own C : String} {index : Nat} {y : MethodName} {bytes : ByteArray} {maxL : Nat} {ret : Option FieldType} {hh : List (Nat × Nat × Nat × Nat)}
    (hown : s.vm.findClass own = some m.cls) (hlink : (Cond.methodLink own index y).before args s = true) (hinst : (Cond.instanceMethod y).before args s = true) (hsel : (Cond.selects C y y).before args s = true)
    (hcode : (Cond.codeWith y bytes maxL ret hh).before args s = true) (hy : y.cls ≠ "java/lang/invoke/MethodHandle" ∧ y.cls ≠ "java/lang/invoke/VarHandle")
    {W9 : Nat} {Pre : Pt → Array Value → Prop} {Post : Pt → Array Value → Option Value → Pt → Prop} (hK : Back l R p e below s args y 3 W9 Pre Post)
    {b : Addr} {cellB : Cell} (hcell : T.heap[b]? = some cellB) (hobj : cellB.vm.isStatics = false) (hcls : s.vm.findClass C = some cellB.cls)
    {g : JFrame} (hg : g.method = m) (hsize : g.locals.size = c.maxLocals) {argsL rest : List Value} (hlen : ∀ sig, parseMethodDescriptor y.desc = some sig → argsL.length = sig.parameters.length)
    (hstack : g.stack = argsL.reverse ++ .ref b :: rest) (hW : 2 * g.monitorRoom + (rest.map fun v => v.category).sum ≤ W9) (hdg : decode c.code g.pc = .ok (.invokevirtual index, 3))
    (hpre : ∀ vm₁, s.WarmedH vm₁ → Pre ⟨T.setVm vm₁, locs, cells, slots⟩ (Value.ref b :: argsL).toArray) :
    ∃ (v : Option Value) (vm₁ : Vm) (B : Pt), s.WarmedH vm₁ ∧ Stand p l e R s m args below meth c B.U B.locs B.cells B.slots ∧ Post ⟨T.setVm vm₁, locs, cells, slots⟩ (Value.ref b :: argsL).toArray v B ∧
      ∀ target, Steps p.tables e below (B.U.setTop { g with pc := g.pc + 3, stack := v.toList ++ rest }) target → Steps p.tables e below (T.setTop g) target := by
  obtain ⟨mk, methM, hnamed, hmethM, hstM, habM⟩ := Cond.instanceMethod_spec hinst
  obtain ⟨m8, methM', cM, hn8, hmethM', -, -, -, -, -, -, hsigM⟩ := Cond.codeWith_spec hcode
  cases Option.some.inj (hn8.symm.trans hnamed)
  cases hmethM.symm.trans hmethM'
  obtain ⟨c2, r2, m2, q1, q2, q3, q4, kP, hkP, hkPi⟩ := Cond.selects_spec hsel
  cases hcls.symm.trans q1
  cases (State.methodFound?_of_named hnamed hy).symm.trans q2
  cases hnamed.symm.trans q3
  have hselP : selectMethod e.platform s.vm cellB.cls mk = .method mk := by rw [Launch.admits_selectMethod X.admits]; exact q4
  obtain ⟨vm₁, X₁, hstep₁⟩ := X.invokevirtual hexec hown hlink hnamed hmethM hstM hkP hkPi hy (a := b) (cell := cellB) hcell
    (fun z h => by rw [h] at hobj; cases hobj) hselP hmethM habM hkP hkPi (g := g) hg (argsL := argsL) (rest := rest) (hlen _ hsigM) hstack hdg
  obtain ⟨v, B, X', hpost, hsteps⟩ := hK m meth c ⟨T.setVm vm₁, locs, cells, slots⟩ { g with stack := rest } (.invokevirtual index) mk (Value.ref b :: argsL).toArray X₁ hg hsize hdg hW (X₁.named hnamed) (hpre vm₁ X₁.warmed)
  exact ⟨v, vm₁, B, X₁.warmed, X', hpost, fun target h => hstep₁ _ fun acts => by rw [doInvoke_state]; exact hsteps.trans h⟩
abbrev vx_CVW (R : Room) (s : State) (args : Array Value) (own C : String) (index : Nat) (y : MethodName) (bytes : ByteArray) (maxL : Nat) (ret : Option FieldType) (hh : List (Nat × Nat × Nat × Nat)) (ws : List Cond) (rm : Room) (mc ms n : Nat) : Prop :=
  (rm.cells = mc ∧ rm.slots = ms ∧ rm.frames + 1 ≤ R.frames ∧ 8 + (maxL + 11) + rm.locals ≤ R.locals ∧ (∀ w ∈ ws, ∀ (a' : Array Value) (U : State), s.WarmedH U.vm → w.before a' U = true) ∧ Cond.codeWith y bytes maxL ret hh ∈ ws) ∧
  (Cond.codeWith y bytes maxL ret hh).before args s = true ∧ (Cond.initialized y.cls).before args s = true ∧ (y.cls ≠ "java/lang/invoke/MethodHandle" ∧ y.cls ≠ "java/lang/invoke/VarHandle") ∧
  (∀ sig, parseMethodDescriptor y.desc = some sig → n = sig.parameters.length) ∧ (Cond.methodLink own index y).before args s = true ∧ (Cond.instanceMethod y).before args s = true ∧ (Cond.selects C y y).before args s = true
theorem vx_cwVW {own C : String} {index maxL mc ms : Nat} {y : MethodName} {bytes : ByteArray} {ret : Option FieldType} {hh : List (Nat × Nat × Nat × Nat)} {Ts ws ws' : List Cond} {rm : Room} (n : Nat) (ht : ∀ w ∈ Ts, w.before args s = true) (hT : GoodIn Ts (wsV own index C y ws)) (hw : ws = Cond.codeWith y bytes maxL ret hh :: ws') (hrc : rm.cells = mc) (hrs : rm.slots = ms)
    (hd : y.cls = C ∧ y.cls ≠ "java/lang/invoke/MethodHandle" ∧ y.cls ≠ "java/lang/invoke/VarHandle" ∧ (parseMethodDescriptor y.desc).map (fun d => d.parameters.length) = some n) (hR : rm.frames + 1 ≤ R.frames ∧ 8 + (maxL + 11) + rm.locals ≤ R.locals) :
    vx_CVW R s args own C index y bytes maxL ret hh ws rm mc ms n := by
  obtain ⟨hC, hd⟩ := hd
  subst hC
  have ok : ∀ w ∈ wsV own index y.cls y ws, w.before args s = true := fun w h => ht w (hT w h).1
  have hG : GoodIn Ts ws := fun w h => hT w (by unfold wsV; exact List.mem_append_right _ h)
  have hc : Cond.codeWith y bytes maxL ret hh ∈ ws := by rw [hw]; exact List.mem_cons_self
  refine ⟨⟨hrc, hrs, hR.1, hR.2, pay_in ht hG, hc⟩, ht _ (hG _ hc).1, ok _ (by simp [wsV]), ⟨hd.1, hd.2.1⟩, fun sig h => ?_, ok _ (by simp [wsV]), ok _ (by simp [wsV]), ok _ (by simp [wsV])⟩
  have h2 := hd.2.2
  rw [h] at h2
  exact (Option.some.inj h2).symm
theorem vx_runVW {y : MethodName} {bytes cc : ByteArray} {maxL nL mc ms n index : Nat} {ret : Option FieldType} {hh : List (Nat × Nat × Nat × Nat)} {ws : List Cond} {rm : Room} {Pc : Array Value → State → Prop} {Qc : Array Value → State → Outcome → State → Prop} {free : Addr → Prop} {Ts : List Cond} {own C : String} {b : Addr} {As rest : List Value} {g : JFrame}
    (S : CallFix p m c cc nL s args Ts own) (hM : Met l y ws rm Pc Qc mc ms free) (cw : vx_CVW R s args own C index y bytes maxL ret hh ws rm mc ms n) (hp : PreV s H C b Pc As)
    (hg : g.method = m) (hn : As.length = n) (hsize : g.locals.size = nL) (hstack : g.stack = As.reverse ++ .ref b :: rest) (hW : 2 * g.monitorRoom + (rest.map fun v => v.category).sum ≤ 8) (hdg : decode cc g.pc = .ok (.invokevirtual index, 3)) (hf : cells + mc ≤ R.cells ∧ slots + ms ≤ R.slots) :
    va_Run p l e R s m args below meth c H locs cells slots mc ms g rest (Qc (Value.ref b :: As).toArray) free := by
  obtain ⟨⟨hrc, hrs, hfr, hlo, hws, hcw⟩, hcode, hini, hy, hlen, hl, hin, hse⟩ := cw
  have hK : Back l R p e below s args y 3 8 (PreOf R mc ms Pc) (PostOf Qc mc ms free) := va_backW (hh := hh) (bytes := bytes) (maxL := maxL) (ret := ret) hM hp.1 hrc hrs hfr hlo hws hcw (fun a' U hW => word_at hW (Or.inl (by first | rfl | simp [Cond.onTables, Cond.keeps, Cond.steady])) hini)
  obtain ⟨hx, hb, hml, ho, -⟩ := S
  obtain ⟨-, ⟨cellB, hcB, hoB, hclB⟩, hPc⟩ := hp
  intro T hT X
  obtain ⟨v, vm₁, ⟨U', l2, c2, s2⟩, hW₁, X', ⟨g', mk, t, L, e1, e2, hq, h1, hL, h2, h3⟩, st⟩ := vx_callVW X hx (C := C) (hh := hh) (bytes := bytes) (maxL := maxL) (ret := ret) ho hl hin hse hcode hy hK (by rw [hT]; exact hcB) hoB hclB hg (hsize.trans hml.symm) (argsL := As) (rest := rest) (fun sig h => hn.trans (hlen sig h)) hstack hW (by rw [hb]; exact hdg)
    (fun vm₁ hW₁ => ⟨hf.1, hf.2, hPc (T.setVm vm₁) hT hW₁⟩)
  dsimp only [Pt.U, Pt.locs, Pt.cells, Pt.slots] at X' e1 e2 h1 h2 h3 st
  subst h1; subst h2; subst h3
  exact ⟨v, (T.setVm vm₁).calling g' mk (Value.ref b :: As).toArray, t, U', L, hT, X', hL, e1, e2, hq, st⟩
section
variable {y : MethodName} {bytes cc : ByteArray} {maxL nL mc ms n index : Nat} {ret : Option FieldType} {ws : List Cond} {rm : Room} {Pc : Array Value → State → Prop} {Qc : Array Value → State → Outcome → State → Prop} {XC : String → State → State → Prop} {free : Addr → Prop} {Ts : List Cond} {own C : String} {b : Addr} {As rest : List Value} {g : JFrame}
theorem vx_runVX {hh : List (Nat × Nat × Nat × Nat)} (S : CallFix p m c cc nL s args Ts own) (hM : vx_Met l y ws rm Pc Qc XC mc ms free) (cw : vx_CVW R s args own C index y bytes maxL ret hh ws rm mc ms n) (hp : PreV s H C b Pc As)
    (hg : g.method = m) (hn : As.length = n) (hsize : g.locals.size = nL) (hstack : g.stack = As.reverse ++ .ref b :: rest) (hW : 2 * g.monitorRoom + (rest.map fun v => v.category).sum ≤ 8) (hdg : decode cc g.pc = .ok (.invokevirtual index, 3)) (hf : cells + mc ≤ R.cells ∧ slots + ms ≤ R.slots) :
    vx_Run p l e R s m args below meth c H locs cells slots mc ms g rest (Qc (Value.ref b :: As).toArray) XC free := by
  obtain ⟨⟨hrc, hrs, hfr, hlo, hws, hcw⟩, hcode, hini, hy, hlen, hl, hin, hse⟩ := cw
  have hK : vx_Back l R p e below s args y 3 8 (PreOf R mc ms Pc) (PostOf Qc mc ms free) (vx_Post XC mc ms free) := vx_backW (hh := hh) (bytes := bytes) (maxL := maxL) (ret := ret) hM hp.1 hrc hrs hfr hlo hws hcw (fun a' U hW => word_at hW (Or.inl (by first | rfl | simp [Cond.onTables, Cond.keeps, Cond.steady])) hini)
  obtain ⟨hx, hb, hml, ho, -⟩ := S
  obtain ⟨-, ⟨cellB, hcB, hoB, hclB⟩, hPc⟩ := hp
  intro T hT X
  rcases vx_callVX X hx (C := C) (hh := hh) (bytes := bytes) (maxL := maxL) (ret := ret) ho hl hin hse hcode hy hK (by rw [hT]; exact hcB) hoB hclB hg (hsize.trans hml.symm) (argsL := As) (rest := rest) (fun sig h => hn.trans (hlen sig h)) hstack hW (by rw [hb]; exact hdg)
    (fun vm₁ hW₁ => ⟨hf.1, hf.2, hPc (T.setVm vm₁) hT hW₁⟩) with ⟨v, vm₁, ⟨U', l2, c2, s2⟩, hW₁, X', ⟨g', mk, t, L, e1, e2, hq, h1, hL, h2, h3⟩, st⟩ | ⟨q, vm₁, ⟨U', l2, c2, s2⟩, hW₁, X', ⟨g', mk, t, L, E, ce, e1, e2, hq, hce, hcv, hcl, h1, hL, h2, h3⟩, st⟩
  · dsimp only [Pt.U, Pt.locs, Pt.cells, Pt.slots] at X' e1 e2 h1 h2 h3 st
    subst h1; subst h2; subst h3
    exact Or.inl ⟨v, (T.setVm vm₁).calling g' mk (Value.ref b :: As).toArray, t, U', L, hT, X', hL, e1, e2, hq, st⟩
  · dsimp only [Pt.U, Pt.locs, Pt.cells, Pt.slots] at X' e1 e2 h1 h2 h3 st hcl
    subst h1; subst h2; subst h3
    exact Or.inr ⟨q, (T.setVm vm₁).calling g' mk (Value.ref b :: As).toArray, t, U', L, E, ce, hT, X', hL, e1, e2, hq, hce, hcv, vx_cls hW₁ hcl, st⟩
theorem vx_runSX {hh : List (Nat × Nat × Nat × Nat)} (S : CallFix p m c cc nL s args Ts own) (hM : vx_Met l y ws rm Pc Qc XC mc ms free) (cw : vx_CSW R s args own index y bytes maxL ret hh ws rm mc ms n) (hp : PreS s H Pc As)
    (hg : g.method = m) (hn : As.length = n) (hsize : g.locals.size = nL) (hstack : g.stack = As.reverse ++ rest) (hW : 2 * g.monitorRoom + (rest.map fun v => v.category).sum ≤ 8) (hdg : decode cc g.pc = .ok (.invokestatic index, 3)) (hf : cells + mc ≤ R.cells ∧ slots + ms ≤ R.slots) :
    vx_Run p l e R s m args below meth c H locs cells slots mc ms g rest (Qc As.toArray) XC free := by
  obtain ⟨⟨hrc, hrs, hfr, hlo, hws, hcw⟩, hcode, hini, hy, hlen, hl, hstt⟩ := cw
  have hK : vx_Back l R p e below s args y 3 8 (PreOf R mc ms Pc) (PostOf Qc mc ms free) (vx_Post XC mc ms free) := vx_backW (hh := hh) (bytes := bytes) (maxL := maxL) (ret := ret) hM hp.1 hrc hrs hfr hlo hws hcw (fun a' U hW => word_at hW (Or.inl (by first | rfl | simp [Cond.onTables, Cond.keeps, Cond.steady])) hini)
  obtain ⟨hx, hb, hml, ho, -⟩ := S
  intro T hT X
  rcases vx_callSX X hx (hh := hh) (bytes := bytes) (maxL := maxL) (ret := ret) ho hl hstt hini hcode hy hK hg (hsize.trans hml.symm) (argsL := As) (rest := rest) (fun sig h => hn.trans (hlen sig h)) hstack hW (by rw [hb]; exact hdg)
    (fun vm₁ hW₁ => ⟨hf.1, hf.2, hp.2 (T.setVm vm₁) hT hW₁⟩) with ⟨v, vm₁, ⟨U', l2, c2, s2⟩, hW₁, X', ⟨g', mk, t, L, e1, e2, hq, h1, hL, h2, h3⟩, st⟩ | ⟨q, vm₁, ⟨U', l2, c2, s2⟩, hW₁, X', ⟨g', mk, t, L, E, ce, e1, e2, hq, hce, hcv, hcl, h1, hL, h2, h3⟩, st⟩
  · dsimp only [Pt.U, Pt.locs, Pt.cells, Pt.slots] at X' e1 e2 h1 h2 h3 st
    subst h1; subst h2; subst h3
    exact Or.inl ⟨v, (T.setVm vm₁).calling g' mk As.toArray, t, U', L, hT, X', hL, e1, e2, hq, st⟩
  · dsimp only [Pt.U, Pt.locs, Pt.cells, Pt.slots] at X' e1 e2 h1 h2 h3 st hcl
    subst h1; subst h2; subst h3
    exact Or.inr ⟨q, (T.setVm vm₁).calling g' mk As.toArray, t, U', L, E, ce, hT, X', hL, e1, e2, hq, hce, hcv, vx_cls hW₁ hcl, st⟩
end
end VXH
theorem vx_ofWH {l : Launch} {y : MethodName} {ws ws' : List Cond} {rm : Room} {Pc : Array Value → State → Prop} {Qc : Array Value → State → Outcome → State → Prop} {XC : String → State → State → Prop} {mc ms : Nat} {free : Addr → Prop} {cc : ByteArray} {maxL : Nat} {ret : Option FieldType} {hh : List (Nat × Nat × Nat × Nat)}
    (hy : plainName y.cls = true) (hw : ws = Cond.codeWith y cc maxL ret hh :: ws')
    (body : ∀ p e s m args below meth c s₁, BodyLoose p l y (headSpec ws rm) cc maxL ret e s m args below meth c s₁ → c.maxLocals = maxL → Pc args s →
      W p l e (headSpec ws rm).room s m args below meth c s.heap [] 0 0 (vx_MQ below Qc XC args s mc ms free) (entryFrame m args maxL)) : vx_Met l y ws rm Pc Qc XC mc ms free := by
  refine MetFree.of_bodyS (code := cc) (maxLocals := maxL) (ret := ret) hy ?_ ?_
  · intro args s m h hn
    obtain ⟨m9, meth, c, hn9, h1, h2, h3, h4, -, h5, h6, -⟩ := Cond.codeWith_spec (atoms_spec (ws := ws) h _ (by rw [hw]; exact List.mem_cons_self))
    cases hn.symm.trans hn9
    exact ⟨meth, c, h1, h2, h3, h4, h5, h6⟩
  · intro p e s m args below meth c s₁ B hml hP _
    have hh0 : s₁.heap = s.heap := by rw [B.state]; rfl
    obtain ⟨t, a1, o, b1, b2, b3⟩ := body p e s m args below meth c s₁ B hml hP s₁ hh0 (Stand.of_body B)
    exact ⟨t, o, a1, b1, b2, b3⟩
/-! ===== END ===== -/
end
section
def RX0 : String := "LineBalancer$Command"
def TX0 : u_T := fun k => match k with
  | _ => ("", "", "", false)
def tyX0 : Nat → FieldType := fun k => match k with
  | _ => .int
abbrev wsX00 : List Cond := u_ws RX0 TX0 0
theorem nmX0 : ∀ a, a < 0 → ∀ b, b < 0 → a ≠ b → (TX0 a).2.1 ≠ (TX0 b).2.1 := by decide +kernel
theorem tyX0_ok : ∀ k, k < 0 → parseFieldDescriptor (TX0 k).2.2.1 = some (tyX0 k) := by decide +kernel
def RX1 : String := "LineBalancer$History"
def TX1 : u_T := fun k => match k with
  | 0 => ("LineBalancer$History", "slots", "[LLineBalancer$State;", true)
  | 1 => ("LineBalancer$History", "next", "I", false)
  | _ => ("LineBalancer$History", "count", "I", false)
def tyX1 : Nat → FieldType := fun k => match k with
  | 0 => .array (.object "LineBalancer$State")
  | 1 => .int
  | _ => .int
abbrev wsX10 : List Cond := u_ws RX1 TX1 3
theorem nmX1 : ∀ a, a < 3 → ∀ b, b < 3 → a ≠ b → (TX1 a).2.1 ≠ (TX1 b).2.1 := by decide +kernel
theorem tyX1_ok : ∀ k, k < 3 → parseFieldDescriptor (TX1 k).2.2.1 = some (tyX1 k) := by decide +kernel
abbrev cX1_init : ByteArray := prog_3_method_1_code
def yX1_init : MethodName := ⟨RX1, "<init>", "()V"⟩
abbrev cX1_begin : ByteArray := prog_3_method_2_code
def yX1_begin : MethodName := ⟨RX1, "begin", "(LLineBalancer$State;)V"⟩
abbrev cX1_finish : ByteArray := prog_3_method_3_code
def yX1_finish : MethodName := ⟨RX1, "finish", "()V"⟩
abbrev cX1_cancel : ByteArray := prog_3_method_4_code
def yX1_cancel : MethodName := ⟨RX1, "cancel", "(LLineBalancer$State;)V"⟩
abbrev cX1_stepBack : ByteArray := prog_3_method_5_code
def yX1_stepBack : MethodName := ⟨RX1, "stepBack", "(LLineBalancer$State;)V"⟩
abbrev cX1_clear : ByteArray := prog_3_method_6_code
def yX1_clear : MethodName := ⟨RX1, "clear", "()V"⟩
def RX2 : String := "LineBalancer$Input"
def TX2 : u_T := fun k => match k with
  | 0 => ("LineBalancer$Input", "characters", "[C", true)
  | 1 => ("LineBalancer$Input", "numbers", "[I", true)
  | 2 => ("LineBalancer$Input", "length", "I", false)
  | 3 => ("LineBalancer$Input", "command", "LLineBalancer$Command;", false)
  | _ => ("LineBalancer$Input", "position", "I", false)
def tyX2 : Nat → FieldType := fun k => match k with
  | 0 => .array .char
  | 1 => .array .int
  | 2 => .int
  | 3 => .object "LineBalancer$Command"
  | _ => .int
abbrev wsX20 : List Cond := u_ws RX2 TX2 5
theorem nmX2 : ∀ a, a < 5 → ∀ b, b < 5 → a ≠ b → (TX2 a).2.1 ≠ (TX2 b).2.1 := by decide +kernel
theorem tyX2_ok : ∀ k, k < 5 → parseFieldDescriptor (TX2 k).2.2.1 = some (tyX2 k) := by decide +kernel
abbrev cX2_init : ByteArray := prog_4_method_1_code
def yX2_init : MethodName := ⟨RX2, "<init>", "()V"⟩
abbrev cX2_append : ByteArray := prog_4_method_2_code
def yX2_append : MethodName := ⟨RX2, "append", "(C)V"⟩
abbrev cX2_clear : ByteArray := prog_4_method_3_code
def yX2_clear : MethodName := ⟨RX2, "clear", "()V"⟩
abbrev cX2_rewind : ByteArray := prog_4_method_4_code
def yX2_rewind : MethodName := ⟨RX2, "rewind", "()V"⟩
abbrev cX2_errorPosition : ByteArray := prog_4_method_5_code
def yX2_errorPosition : MethodName := ⟨RX2, "errorPosition", "()I"⟩
abbrev cX2_passCommand : ByteArray := prog_4_method_6_code
def yX2_passCommand : MethodName := ⟨RX2, "passCommand", "()Z"⟩
abbrev cX2_passSign : ByteArray := prog_4_method_7_code
def yX2_passSign : MethodName := ⟨RX2, "passSign", "(C)Z"⟩
abbrev cX2_passWord : ByteArray := prog_4_method_8_code
def yX2_passWord : MethodName := ⟨RX2, "passWord", "()Z"⟩
abbrev cX2_passNumber : ByteArray := prog_4_method_9_code
def yX2_passNumber : MethodName := ⟨RX2, "passNumber", "(I)Z"⟩
abbrev cX2_isBetween : ByteArray := prog_4_method_10_code
def yX2_isBetween : MethodName := ⟨RX2, "isBetween", "(ICC)Z"⟩
abbrev cX2_commandAt : ByteArray := prog_4_method_11_code
def yX2_commandAt : MethodName := ⟨RX2, "commandAt", "(II)LLineBalancer$Command;"⟩
abbrev cX2_isWord : ByteArray := prog_4_method_12_code
def yX2_isWord : MethodName := ⟨RX2, "isWord", "(Ljava/lang/String;II)Z"⟩
def RX3 : String := "LineBalancer$Plan"
def TX3 : u_T := fun k => match k with
  | 0 => ("LineBalancer$Plan", "state", "LLineBalancer$State;", true)
  | 1 => ("LineBalancer$Plan", "work", "LLineBalancer$Work;", true)
  | 2 => ("LineBalancer$Plan", "need", "[I", true)
  | 3 => ("LineBalancer$Plan", "isClosed", "[Z", true)
  | 4 => ("LineBalancer$Plan", "count", "[J", true)
  | 5 => ("LineBalancer$Plan", "first", "[I", true)
  | 6 => ("LineBalancer$Plan", "digits", "[I", true)
  | _ => ("LineBalancer$Plan", "full", "I", false)
def tyX3 : Nat → FieldType := fun k => match k with
  | 0 => .object "LineBalancer$State"
  | 1 => .object "LineBalancer$Work"
  | 2 => .array .int
  | 3 => .array .boolean
  | 4 => .array .long
  | 5 => .array .int
  | 6 => .array .int
  | _ => .int
abbrev wsX30 : List Cond := u_ws RX3 TX3 8
theorem nmX3 : ∀ a, a < 8 → ∀ b, b < 8 → a ≠ b → (TX3 a).2.1 ≠ (TX3 b).2.1 := by decide +kernel
theorem tyX3_ok : ∀ k, k < 8 → parseFieldDescriptor (TX3 k).2.2.1 = some (tyX3 k) := by decide +kernel
abbrev cX3_init : ByteArray := prog_5_method_1_code
def yX3_init : MethodName := ⟨RX3, "<init>", "(LLineBalancer$State;)V"⟩
abbrev cX3_findLeast : ByteArray := prog_5_method_2_code
def yX3_findLeast : MethodName := ⟨RX3, "findLeast", "()I"⟩
abbrev cX3_countLines : ByteArray := prog_5_method_3_code
def yX3_countLines : MethodName := ⟨RX3, "countLines", "(I)J"⟩
abbrev cX3_stationOf : ByteArray := prog_5_method_4_code
def yX3_stationOf : MethodName := ⟨RX3, "stationOf", "(I)I"⟩
abbrev cX3_digitShift : ByteArray := prog_5_method_5_code
def yX3_digitShift : MethodName := ⟨RX3, "digitShift", "(I)I"⟩
abbrev cX3_prepare : ByteArray := prog_5_method_6_code
def yX3_prepare : MethodName := ⟨RX3, "prepare", "()V"⟩
abbrev cX3_copiesNeeded : ByteArray := prog_5_method_7_code
def yX3_copiesNeeded : MethodName := ⟨RX3, "copiesNeeded", "(I)I"⟩
abbrev cX3_isSplit : ByteArray := prog_5_method_8_code
def yX3_isSplit : MethodName := ⟨RX3, "isSplit", "(I)Z"⟩
abbrev cX3_hasAllAhead : ByteArray := prog_5_method_9_code
def yX3_hasAllAhead : MethodName := ⟨RX3, "hasAllAhead", "(I)Z"⟩
abbrev cX3_digitsOf : ByteArray := prog_5_method_10_code
def yX3_digitsOf : MethodName := ⟨RX3, "digitsOf", "(I)I"⟩
abbrev cX3_addStation : ByteArray := prog_5_method_11_code
def yX3_addStation : MethodName := ⟨RX3, "addStation", "(I)V"⟩
abbrev cX3_extend : ByteArray := prog_5_method_12_code
def yX3_extend : MethodName := ⟨RX3, "extend", "(II)V"⟩
def RX4 : String := "LineBalancer$State"
def TX4 : u_T := fun k => match k with
  | 0 => ("LineBalancer$State", "models", "I", false)
  | 1 => ("LineBalancer$State", "taskCount", "I", false)
  | 2 => ("LineBalancer$State", "demands", "[I", true)
  | 3 => ("LineBalancer$State", "rules", "[I", true)
  | 4 => ("LineBalancer$State", "copies", "[I", true)
  | 5 => ("LineBalancer$State", "times", "[I", true)
  | 6 => ("LineBalancer$State", "tools", "[I", true)
  | 7 => ("LineBalancer$State", "places", "[I", true)
  | 8 => ("LineBalancer$State", "direct", "[I", true)
  | 9 => ("LineBalancer$State", "ahead", "[I", true)
  | 10 => ("LineBalancer$State", "behind", "[I", true)
  | 11 => ("LineBalancer$State", "apart", "[I", true)
  | _ => ("LineBalancer$State", "together", "[I", true)
def tyX4 : Nat → FieldType := fun k => match k with
  | 0 => .int
  | 1 => .int
  | 2 => .array .int
  | 3 => .array .int
  | 4 => .array .int
  | 5 => .array .int
  | 6 => .array .int
  | 7 => .array .int
  | 8 => .array .int
  | 9 => .array .int
  | 10 => .array .int
  | 11 => .array .int
  | _ => .array .int
abbrev wsX40 : List Cond := u_ws RX4 TX4 13
theorem nmX4 : ∀ a, a < 13 → ∀ b, b < 13 → a ≠ b → (TX4 a).2.1 ≠ (TX4 b).2.1 := by decide +kernel
theorem tyX4_ok : ∀ k, k < 13 → parseFieldDescriptor (TX4 k).2.2.1 = some (tyX4 k) := by decide +kernel
abbrev cX4_init : ByteArray := prog_6_method_1_code
def yX4_init : MethodName := ⟨RX4, "<init>", "()V"⟩
abbrev cX4_copyFrom : ByteArray := prog_6_method_2_code
def yX4_copyFrom : MethodName := ⟨RX4, "copyFrom", "(LLineBalancer$State;)V"⟩
abbrev cX4_copyRow : ByteArray := prog_6_method_3_code
def yX4_copyRow : MethodName := ⟨RX4, "copyRow", "([I[I)V"⟩
abbrev cX4_hasTask : ByteArray := prog_6_method_4_code
def yX4_hasTask : MethodName := ⟨RX4, "hasTask", "(I)Z"⟩
abbrev cX4_totalDemand : ByteArray := prog_6_method_5_code
def yX4_totalDemand : MethodName := ⟨RX4, "totalDemand", "()I"⟩
abbrev cX4_capacity : ByteArray := prog_6_method_6_code
def yX4_capacity : MethodName := ⟨RX4, "capacity", "(I)I"⟩
abbrev cX4_weightedTime : ByteArray := prog_6_method_7_code
def yX4_weightedTime : MethodName := ⟨RX4, "weightedTime", "(I)I"⟩
abbrev cX4_weightedTimes : ByteArray := prog_6_method_8_code
def yX4_weightedTimes : MethodName := ⟨RX4, "weightedTimes", "(I)I"⟩
abbrev cX4_priorityOf : ByteArray := prog_6_method_9_code
def yX4_priorityOf : MethodName := ⟨RX4, "priorityOf", "(II)I"⟩
abbrev cX4_append : ByteArray := prog_6_method_10_code
def yX4_append : MethodName := ⟨RX4, "append", "(IIII)I"⟩
abbrev cX4_isDirectlyBefore : ByteArray := prog_6_method_11_code
def yX4_isDirectlyBefore : MethodName := ⟨RX4, "isDirectlyBefore", "(II)Z"⟩
abbrev cX4_isBefore : ByteArray := prog_6_method_12_code
def yX4_isBefore : MethodName := ⟨RX4, "isBefore", "(II)Z"⟩
abbrev cX4_link : ByteArray := prog_6_method_13_code
def yX4_link : MethodName := ⟨RX4, "link", "(II)V"⟩
abbrev cX4_unlink : ByteArray := prog_6_method_14_code
def yX4_unlink : MethodName := ⟨RX4, "unlink", "(II)V"⟩
abbrev cX4_followChains : ByteArray := prog_6_method_15_code
def yX4_followChains : MethodName := ⟨RX4, "followChains", "()V"⟩
abbrev cX4_pairKind : ByteArray := prog_6_method_16_code
def yX4_pairKind : MethodName := ⟨RX4, "pairKind", "(II)I"⟩
abbrev cX4_join : ByteArray := prog_6_method_17_code
def yX4_join : MethodName := ⟨RX4, "join", "(IIZ)V"⟩
abbrev cX4_unpair : ByteArray := prog_6_method_18_code
def yX4_unpair : MethodName := ⟨RX4, "unpair", "(II)V"⟩
abbrev cX4_takeAllOut : ByteArray := prog_6_method_19_code
def yX4_takeAllOut : MethodName := ⟨RX4, "takeAllOut", "()V"⟩
def RX5 : String := "LineBalancer$Stations"
def TX5 : u_T := fun k => match k with
  | 0 => ("LineBalancer$Stations", "state", "LLineBalancer$State;", true)
  | _ => ("LineBalancer$Stations", "work", "LLineBalancer$Work;", true)
def tyX5 : Nat → FieldType := fun k => match k with
  | 0 => .object "LineBalancer$State"
  | _ => .object "LineBalancer$Work"
abbrev wsX50 : List Cond := u_ws RX5 TX5 2
theorem nmX5 : ∀ a, a < 2 → ∀ b, b < 2 → a ≠ b → (TX5 a).2.1 ≠ (TX5 b).2.1 := by decide +kernel
theorem tyX5_ok : ∀ k, k < 2 → parseFieldDescriptor (TX5 k).2.2.1 = some (tyX5 k) := by decide +kernel
abbrev cX5_init : ByteArray := prog_7_method_1_code
def yX5_init : MethodName := ⟨RX5, "<init>", "(LLineBalancer$State;)V"⟩
abbrev cX5_tasksIn : ByteArray := prog_7_method_2_code
def yX5_tasksIn : MethodName := ⟨RX5, "tasksIn", "(II)I"⟩
abbrev cX5_placed : ByteArray := prog_7_method_3_code
def yX5_placed : MethodName := ⟨RX5, "placed", "()I"⟩
abbrev cX5_isUsed : ByteArray := prog_7_method_4_code
def yX5_isUsed : MethodName := ⟨RX5, "isUsed", "(I)Z"⟩
abbrev cX5_workIn : ByteArray := prog_7_method_5_code
def yX5_workIn : MethodName := ⟨RX5, "workIn", "(I)LLineBalancer$Work;"⟩
abbrev cX5_loadOf : ByteArray := prog_7_method_6_code
def yX5_loadOf : MethodName := ⟨RX5, "loadOf", "(I)I"⟩
abbrev cX5_lackOf : ByteArray := prog_7_method_7_code
def yX5_lackOf : MethodName := ⟨RX5, "lackOf", "(I)I"⟩
abbrev cX5_isFitting : ByteArray := prog_7_method_8_code
def yX5_isFitting : MethodName := ⟨RX5, "isFitting", "(I)Z"⟩
abbrev cX5_refusal : ByteArray := prog_7_method_9_code
def yX5_refusal : MethodName := ⟨RX5, "refusal", "(II)I"⟩
abbrev cX5_lowestFor : ByteArray := prog_7_method_10_code
def yX5_lowestFor : MethodName := ⟨RX5, "lowestFor", "(I)I"⟩
abbrev cX5_fillBy : ByteArray := prog_7_method_11_code
def yX5_fillBy : MethodName := ⟨RX5, "fillBy", "(I)I"⟩
abbrev cX5_nextToFill : ByteArray := prog_7_method_12_code
def yX5_nextToFill : MethodName := ⟨RX5, "nextToFill", "(I)I"⟩
abbrev cX5_countUsed : ByteArray := prog_7_method_13_code
def yX5_countUsed : MethodName := ⟨RX5, "countUsed", "()I"⟩
abbrev cX5_usedCopies : ByteArray := prog_7_method_14_code
def yX5_usedCopies : MethodName := ⟨RX5, "usedCopies", "()I"⟩
abbrev cX5_busiest : ByteArray := prog_7_method_15_code
def yX5_busiest : MethodName := ⟨RX5, "busiest", "()I"⟩
abbrev cX5_sumOfLoads : ByteArray := prog_7_method_16_code
def yX5_sumOfLoads : MethodName := ⟨RX5, "sumOfLoads", "()I"⟩
abbrev cX5_countRefused : ByteArray := prog_7_method_17_code
def yX5_countRefused : MethodName := ⟨RX5, "countRefused", "()I"⟩
abbrev cX5_countUnfitting : ByteArray := prog_7_method_18_code
def yX5_countUnfitting : MethodName := ⟨RX5, "countUnfitting", "()I"⟩
abbrev cX5_sumOfSquares : ByteArray := prog_7_method_19_code
def yX5_sumOfSquares : MethodName := ⟨RX5, "sumOfSquares", "()J"⟩
def RX6 : String := "LineBalancer$Work"
def TX6 : u_T := fun k => match k with
  | 0 => ("LineBalancer$Work", "order", "[I", true)
  | 1 => ("LineBalancer$Work", "changes", "[I", true)
  | 2 => ("LineBalancer$Work", "times", "[I", true)
  | 3 => ("LineBalancer$Work", "count", "I", false)
  | 4 => ("LineBalancer$Work", "tools", "I", false)
  | 5 => ("LineBalancer$Work", "load", "I", false)
  | 6 => ("LineBalancer$Work", "longest", "I", false)
  | _ => ("LineBalancer$Work", "demand", "I", false)
def tyX6 : Nat → FieldType := fun k => match k with
  | 0 => .array .int
  | 1 => .array .int
  | 2 => .array .int
  | 3 => .int
  | 4 => .int
  | 5 => .int
  | 6 => .int
  | _ => .int
abbrev wsX60 : List Cond := u_ws RX6 TX6 8
theorem nmX6 : ∀ a, a < 8 → ∀ b, b < 8 → a ≠ b → (TX6 a).2.1 ≠ (TX6 b).2.1 := by decide +kernel
theorem tyX6_ok : ∀ k, k < 8 → parseFieldDescriptor (TX6 k).2.2.1 = some (tyX6 k) := by decide +kernel
abbrev cX6_init : ByteArray := prog_8_method_1_code
def yX6_init : MethodName := ⟨RX6, "<init>", "()V"⟩
abbrev cX6_measure : ByteArray := prog_8_method_2_code
def yX6_measure : MethodName := ⟨RX6, "measure", "(LLineBalancer$State;I)V"⟩
abbrev cX6_lack : ByteArray := prog_8_method_3_code
def yX6_lack : MethodName := ⟨RX6, "lack", "(LLineBalancer$State;I)I"⟩
abbrev cX6_isWithinToolLimit : ByteArray := prog_8_method_4_code
def yX6_isWithinToolLimit : MethodName := ⟨RX6, "isWithinToolLimit", "(LLineBalancer$State;)Z"⟩
abbrev cX6_fits : ByteArray := prog_8_method_5_code
def yX6_fits : MethodName := ⟨RX6, "fits", "(LLineBalancer$State;I)Z"⟩
abbrev cX6_arrange : ByteArray := prog_8_method_6_code
def yX6_arrange : MethodName := ⟨RX6, "arrange", "(LLineBalancer$State;I)V"⟩
abbrev cX6_collectTools : ByteArray := prog_8_method_7_code
def yX6_collectTools : MethodName := ⟨RX6, "collectTools", "(LLineBalancer$State;)V"⟩
abbrev cX6_sumTimes : ByteArray := prog_8_method_8_code
def yX6_sumTimes : MethodName := ⟨RX6, "sumTimes", "(LLineBalancer$State;I)I"⟩
abbrev cX6_countChanges : ByteArray := prog_8_method_9_code
def yX6_countChanges : MethodName := ⟨RX6, "countChanges", "(LLineBalancer$State;I)I"⟩
def RX7 : String := "LineBalancer"
def TX7 : u_T := fun k => match k with
  | 0 => ("LineBalancer", "now", "LLineBalancer$State;", true)
  | 1 => ("LineBalancer", "saved", "LLineBalancer$State;", true)
  | 2 => ("LineBalancer", "stations", "LLineBalancer$Stations;", true)
  | 3 => ("LineBalancer", "plan", "LLineBalancer$Plan;", true)
  | 4 => ("LineBalancer", "history", "LLineBalancer$History;", true)
  | 5 => ("LineBalancer", "input", "LLineBalancer$Input;", true)
  | 6 => ("LineBalancer", "isSaved", "Z", false)
  | _ => ("LineBalancer", "keptReason", "I", false)
def tyX7 : Nat → FieldType := fun k => match k with
  | 0 => .object "LineBalancer$State"
  | 1 => .object "LineBalancer$State"
  | 2 => .object "LineBalancer$Stations"
  | 3 => .object "LineBalancer$Plan"
  | 4 => .object "LineBalancer$History"
  | 5 => .object "LineBalancer$Input"
  | 6 => .boolean
  | _ => .int
abbrev wsX70 : List Cond := u_ws RX7 TX7 8
theorem nmX7 : ∀ a, a < 8 → ∀ b, b < 8 → a ≠ b → (TX7 a).2.1 ≠ (TX7 b).2.1 := by decide +kernel
theorem tyX7_ok : ∀ k, k < 8 → parseFieldDescriptor (TX7 k).2.2.1 = some (tyX7 k) := by decide +kernel
abbrev cX7_init : ByteArray := prog_1_method_1_code
def yX7_init : MethodName := ⟨RX7, "<init>", "()V"⟩
abbrev cX7_setModels : ByteArray := prog_1_method_2_code
def yX7_setModels : MethodName := ⟨RX7, "setModels", "(I)I"⟩
abbrev cX7_setDemand : ByteArray := prog_1_method_3_code
def yX7_setDemand : MethodName := ⟨RX7, "setDemand", "(II)I"⟩
abbrev cX7_setRule : ByteArray := prog_1_method_4_code
def yX7_setRule : MethodName := ⟨RX7, "setRule", "(II)I"⟩
abbrev cX7_rule : ByteArray := prog_1_method_5_code
def yX7_rule : MethodName := ⟨RX7, "rule", "(I)I"⟩
abbrev cX7_setCopies : ByteArray := prog_1_method_6_code
def yX7_setCopies : MethodName := ⟨RX7, "setCopies", "(II)I"⟩
abbrev cX7_addTask : ByteArray := prog_1_method_7_code
def yX7_addTask : MethodName := ⟨RX7, "addTask", "(IIII)I"⟩
abbrev cX7_setTime : ByteArray := prog_1_method_8_code
def yX7_setTime : MethodName := ⟨RX7, "setTime", "(III)I"⟩
abbrev cX7_setTool : ByteArray := prog_1_method_9_code
def yX7_setTool : MethodName := ⟨RX7, "setTool", "(II)I"⟩
abbrev cX7_before : ByteArray := prog_1_method_10_code
def yX7_before : MethodName := ⟨RX7, "before", "(II)I"⟩
abbrev cX7_pair : ByteArray := prog_1_method_11_code
def yX7_pair : MethodName := ⟨RX7, "pair", "(IIZ)I"⟩
abbrev cX7_drop : ByteArray := prog_1_method_12_code
def yX7_drop : MethodName := ⟨RX7, "drop", "(II)I"⟩
abbrev cX7_task : ByteArray := prog_1_method_13_code
def yX7_task : MethodName := ⟨RX7, "task", "(II)I"⟩
abbrev cX7_priority : ByteArray := prog_1_method_14_code
def yX7_priority : MethodName := ⟨RX7, "priority", "(II)I"⟩
abbrev cX7_size : ByteArray := prog_1_method_15_code
def yX7_size : MethodName := ⟨RX7, "size", "()I"⟩
abbrev cX7_assign : ByteArray := prog_1_method_16_code
def yX7_assign : MethodName := ⟨RX7, "assign", "(II)I"⟩
abbrev cX7_reason : ByteArray := prog_1_method_17_code
def yX7_reason : MethodName := ⟨RX7, "reason", "(II)I"⟩
abbrev cX7_whyNot : ByteArray := prog_1_method_18_code
def yX7_whyNot : MethodName := ⟨RX7, "whyNot", "()I"⟩
abbrev cX7_station : ByteArray := prog_1_method_19_code
def yX7_station : MethodName := ⟨RX7, "station", "(II)I"⟩
abbrev cX7_time : ByteArray := prog_1_method_20_code
def yX7_time : MethodName := ⟨RX7, "time", "(IIZ)I"⟩
abbrev cX7_sequence : ByteArray := prog_1_method_21_code
def yX7_sequence : MethodName := ⟨RX7, "sequence", "(II)I"⟩
abbrev cX7_line : ByteArray := prog_1_method_22_code
def yX7_line : MethodName := ⟨RX7, "line", "(I)I"⟩
abbrev cX7_efficiency : ByteArray := prog_1_method_23_code
def yX7_efficiency : MethodName := ⟨RX7, "efficiency", "()F"⟩
abbrev cX7_unevenness : ByteArray := prog_1_method_24_code
def yX7_unevenness : MethodName := ⟨RX7, "unevenness", "()J"⟩
abbrev cX7_clearLine : ByteArray := prog_1_method_25_code
def yX7_clearLine : MethodName := ⟨RX7, "clearLine", "()I"⟩
abbrev cX7_fill : ByteArray := prog_1_method_26_code
def yX7_fill : MethodName := ⟨RX7, "fill", "(I)I"⟩
abbrev cX7_least : ByteArray := prog_1_method_27_code
def yX7_least : MethodName := ⟨RX7, "least", "()I"⟩
abbrev cX7_ways : ByteArray := prog_1_method_28_code
def yX7_ways : MethodName := ⟨RX7, "ways", "(I)J"⟩
abbrev cX7_takeLeast : ByteArray := prog_1_method_29_code
def yX7_takeLeast : MethodName := ⟨RX7, "takeLeast", "()I"⟩
abbrev cX7_feed : ByteArray := prog_1_method_30_code
def yX7_feed : MethodName := ⟨RX7, "feed", "(C)I"⟩
abbrev cX7_read : ByteArray := prog_1_method_31_code
def yX7_read : MethodName := ⟨RX7, "read", "()I"⟩
abbrev cX7_undo : ByteArray := prog_1_method_32_code
def yX7_undo : MethodName := ⟨RX7, "undo", "()I"⟩
abbrev cX7_save : ByteArray := prog_1_method_33_code
def yX7_save : MethodName := ⟨RX7, "save", "()I"⟩
abbrev cX7_restore : ByteArray := prog_1_method_34_code
def yX7_restore : MethodName := ⟨RX7, "restore", "()I"⟩
abbrev cX7_checkIndex : ByteArray := prog_1_method_35_code
def yX7_checkIndex : MethodName := ⟨RX7, "checkIndex", "(Z)V"⟩
abbrev cX7_checkArgument : ByteArray := prog_1_method_36_code
def yX7_checkArgument : MethodName := ⟨RX7, "checkArgument", "(Z)V"⟩
abbrev cX7_checkState : ByteArray := prog_1_method_37_code
def yX7_checkState : MethodName := ⟨RX7, "checkState", "(Z)V"⟩
abbrev cX7_checkSupported : ByteArray := prog_1_method_38_code
def yX7_checkSupported : MethodName := ⟨RX7, "checkSupported", "(Z)V"⟩
abbrev cX7_checkElement : ByteArray := prog_1_method_39_code
def yX7_checkElement : MethodName := ⟨RX7, "checkElement", "(Z)V"⟩
abbrev cX7_isIn : ByteArray := prog_1_method_40_code
def yX7_isIn : MethodName := ⟨RX7, "isIn", "(III)Z"⟩
abbrev cX7_isStation : ByteArray := prog_1_method_41_code
def yX7_isStation : MethodName := ⟨RX7, "isStation", "(I)Z"⟩
abbrev cX7_isPriority : ByteArray := prog_1_method_42_code
def yX7_isPriority : MethodName := ⟨RX7, "isPriority", "(I)Z"⟩
abbrev cX7_isTime : ByteArray := prog_1_method_43_code
def yX7_isTime : MethodName := ⟨RX7, "isTime", "(I)Z"⟩
abbrev cX7_isTool : ByteArray := prog_1_method_44_code
def yX7_isTool : MethodName := ⟨RX7, "isTool", "(I)Z"⟩
abbrev cX7_isTaskData : ByteArray := prog_1_method_45_code
def yX7_isTaskData : MethodName := ⟨RX7, "isTaskData", "(IIII)Z"⟩
abbrev cX7_isRuleValue : ByteArray := prog_1_method_46_code
def yX7_isRuleValue : MethodName := ⟨RX7, "isRuleValue", "(II)Z"⟩
abbrev cX7_quotientUp : ByteArray := prog_1_method_47_code
def yX7_quotientUp : MethodName := ⟨RX7, "quotientUp", "(II)I"⟩
abbrev cX7_has : ByteArray := prog_1_method_48_code
def yX7_has : MethodName := ⟨RX7, "has", "(II)Z"⟩
abbrev cX7_remember : ByteArray := prog_1_method_49_code
def yX7_remember : MethodName := ⟨RX7, "remember", "()V"⟩
abbrev cX7_keepReason : ByteArray := prog_1_method_50_code
def yX7_keepReason : MethodName := ⟨RX7, "keepReason", "(I)V"⟩
abbrev cX7_carryOutAll : ByteArray := prog_1_method_51_code
def yX7_carryOutAll : MethodName := ⟨RX7, "carryOutAll", "()I"⟩
abbrev cX7_isCarriedOut : ByteArray := prog_1_method_52_code
def yX7_isCarriedOut : MethodName := ⟨RX7, "isCarriedOut", "()Z"⟩
abbrev cX7_isAdded : ByteArray := prog_1_method_53_code
def yX7_isAdded : MethodName := ⟨RX7, "isAdded", "(IIII)Z"⟩
abbrev cX7_isLinked : ByteArray := prog_1_method_54_code
def yX7_isLinked : MethodName := ⟨RX7, "isLinked", "(II)Z"⟩
abbrev cX7_isPaired : ByteArray := prog_1_method_55_code
def yX7_isPaired : MethodName := ⟨RX7, "isPaired", "(IIZ)Z"⟩
abbrev cX7_isPut : ByteArray := prog_1_method_56_code
def yX7_isPut : MethodName := ⟨RX7, "isPut", "(II)Z"⟩
abbrev cX7_isCycleSet : ByteArray := prog_1_method_57_code
def yX7_isCycleSet : MethodName := ⟨RX7, "isCycleSet", "(I)Z"⟩
def RX8 : String := "LineBalancerModel"
def TX8 : u_T := fun k => match k with
  | 0 => ("LineBalancerModel", "g", "[I", true)
  | 1 => ("LineBalancerModel", "ahead", "[I", true)
  | 2 => ("LineBalancerModel", "history", "[I", true)
  | 3 => ("LineBalancerModel", "historyMany", "I", false)
  | 4 => ("LineBalancerModel", "saved", "[I", true)
  | 5 => ("LineBalancerModel", "hasSaved", "Z", false)
  | 6 => ("LineBalancerModel", "why", "I", false)
  | 7 => ("LineBalancerModel", "thrown", "I", false)
  | 8 => ("LineBalancerModel", "row", "[I", true)
  | 9 => ("LineBalancerModel", "rowMany", "I", false)
  | 10 => ("LineBalancerModel", "used", "[I", true)
  | 11 => ("LineBalancerModel", "isClosed", "[Z", true)
  | 12 => ("LineBalancerModel", "isRight", "[Z", true)
  | 13 => ("LineBalancerModel", "counts", "[J", true)
  | 14 => ("LineBalancerModel", "next", "[J", true)
  | 15 => ("LineBalancerModel", "told", "[I", true)
  | 16 => ("LineBalancerModel", "tape", "[C", true)
  | 17 => ("LineBalancerModel", "taped", "I", false)
  | 18 => ("LineBalancerModel", "at", "I", false)
  | 19 => ("LineBalancerModel", "numbers", "[I", true)
  | 20 => ("LineBalancerModel", "command", "I", false)
  | _ => ("LineBalancerModel", "words", "[Ljava/lang/String;", true)
def tyX8 : Nat → FieldType := fun k => match k with
  | 0 => .array .int
  | 1 => .array .int
  | 2 => .array .int
  | 3 => .int
  | 4 => .array .int
  | 5 => .boolean
  | 6 => .int
  | 7 => .int
  | 8 => .array .int
  | 9 => .int
  | 10 => .array .int
  | 11 => .array .boolean
  | 12 => .array .boolean
  | 13 => .array .long
  | 14 => .array .long
  | 15 => .array .int
  | 16 => .array .char
  | 17 => .int
  | 18 => .int
  | 19 => .array .int
  | 20 => .int
  | _ => .array (.object "java/lang/String")
abbrev wsX80 : List Cond := u_ws RX8 TX8 22
theorem nmX8 : ∀ a, a < 22 → ∀ b, b < 22 → a ≠ b → (TX8 a).2.1 ≠ (TX8 b).2.1 := by decide +kernel
theorem tyX8_ok : ∀ k, k < 22 → parseFieldDescriptor (TX8 k).2.2.1 = some (tyX8 k) := by decide +kernel
abbrev cX8_init : ByteArray := prog_10_method_1_code
def yX8_init : MethodName := ⟨RX8, "<init>", "()V"⟩
abbrev cX8_thrown : ByteArray := prog_10_method_2_code
def yX8_thrown : MethodName := ⟨RX8, "thrown", "()I"⟩
abbrev cX8_fails : ByteArray := prog_10_method_3_code
def yX8_fails : MethodName := ⟨RX8, "fails", "(I)I"⟩
abbrev cX8_done : ByteArray := prog_10_method_4_code
def yX8_done : MethodName := ⟨RX8, "done", "(I)I"⟩
abbrev cX8_in : ByteArray := prog_10_method_5_code
def yX8_in : MethodName := ⟨RX8, "in", "(III)Z"⟩
abbrev cX8_isTask : ByteArray := prog_10_method_6_code
def yX8_isTask : MethodName := ⟨RX8, "isTask", "(I)Z"⟩
abbrev cX8_isStation : ByteArray := prog_10_method_7_code
def yX8_isStation : MethodName := ⟨RX8, "isStation", "(I)Z"⟩
abbrev cX8_of : ByteArray := prog_10_method_8_code
def yX8_of : MethodName := ⟨RX8, "of", "(II)I"⟩
abbrev cX8_sets : ByteArray := prog_10_method_9_code
def yX8_sets : MethodName := ⟨RX8, "sets", "(III)V"⟩
abbrev cX8_remembers : ByteArray := prog_10_method_10_code
def yX8_remembers : MethodName := ⟨RX8, "remembers", "()V"⟩
abbrev cX8_brings : ByteArray := prog_10_method_11_code
def yX8_brings : MethodName := ⟨RX8, "brings", "()V"⟩
abbrev cX8_keeps : ByteArray := prog_10_method_12_code
def yX8_keeps : MethodName := ⟨RX8, "keeps", "()V"⟩
abbrev cX8_changed : ByteArray := prog_10_method_13_code
def yX8_changed : MethodName := ⟨RX8, "changed", "(I)I"⟩
abbrev cX8_setModels : ByteArray := prog_10_method_14_code
def yX8_setModels : MethodName := ⟨RX8, "setModels", "(I)I"⟩
abbrev cX8_setDemand : ByteArray := prog_10_method_15_code
def yX8_setDemand : MethodName := ⟨RX8, "setDemand", "(II)I"⟩
abbrev cX8_isRule : ByteArray := prog_10_method_16_code
def yX8_isRule : MethodName := ⟨RX8, "isRule", "(II)Z"⟩
abbrev cX8_setsRule : ByteArray := prog_10_method_17_code
def yX8_setsRule : MethodName := ⟨RX8, "setsRule", "(II)I"⟩
abbrev cX8_setRule : ByteArray := prog_10_method_18_code
def yX8_setRule : MethodName := ⟨RX8, "setRule", "(II)I"⟩
abbrev cX8_totalDemand : ByteArray := prog_10_method_19_code
def yX8_totalDemand : MethodName := ⟨RX8, "totalDemand", "()I"⟩
abbrev cX8_rule : ByteArray := prog_10_method_20_code
def yX8_rule : MethodName := ⟨RX8, "rule", "(I)I"⟩
abbrev cX8_setCopies : ByteArray := prog_10_method_21_code
def yX8_setCopies : MethodName := ⟨RX8, "setCopies", "(II)I"⟩
abbrev cX8_addsTask : ByteArray := prog_10_method_22_code
def yX8_addsTask : MethodName := ⟨RX8, "addsTask", "(IIII)I"⟩
abbrev cX8_addTask : ByteArray := prog_10_method_23_code
def yX8_addTask : MethodName := ⟨RX8, "addTask", "(IIII)I"⟩
abbrev cX8_setTime : ByteArray := prog_10_method_24_code
def yX8_setTime : MethodName := ⟨RX8, "setTime", "(III)I"⟩
abbrev cX8_setTool : ByteArray := prog_10_method_25_code
def yX8_setTool : MethodName := ⟨RX8, "setTool", "(II)I"⟩
abbrev cX8_has : ByteArray := prog_10_method_26_code
def yX8_has : MethodName := ⟨RX8, "has", "(II)Z"⟩
abbrev cX8_aheadOf : ByteArray := prog_10_method_27_code
def yX8_aheadOf : MethodName := ⟨RX8, "aheadOf", "(I)I"⟩
abbrev cX8_behind : ByteArray := prog_10_method_28_code
def yX8_behind : MethodName := ⟨RX8, "behind", "(I)I"⟩
abbrev cX8_many : ByteArray := prog_10_method_29_code
def yX8_many : MethodName := ⟨RX8, "many", "(I)I"⟩
abbrev cX8_putsBefore : ByteArray := prog_10_method_30_code
def yX8_putsBefore : MethodName := ⟨RX8, "putsBefore", "(II)I"⟩
abbrev cX8_before : ByteArray := prog_10_method_31_code
def yX8_before : MethodName := ⟨RX8, "before", "(II)I"⟩
abbrev cX8_pairOf : ByteArray := prog_10_method_32_code
def yX8_pairOf : MethodName := ⟨RX8, "pairOf", "(II)I"⟩
abbrev cX8_parts : ByteArray := prog_10_method_33_code
def yX8_parts : MethodName := ⟨RX8, "parts", "(II)V"⟩
abbrev cX8_pairs : ByteArray := prog_10_method_34_code
def yX8_pairs : MethodName := ⟨RX8, "pairs", "(IIZ)I"⟩
abbrev cX8_pair : ByteArray := prog_10_method_35_code
def yX8_pair : MethodName := ⟨RX8, "pair", "(IIZ)I"⟩
abbrev cX8_drop : ByteArray := prog_10_method_36_code
def yX8_drop : MethodName := ⟨RX8, "drop", "(II)I"⟩
abbrev cX8_weighted : ByteArray := prog_10_method_37_code
def yX8_weighted : MethodName := ⟨RX8, "weighted", "(I)I"⟩
abbrev cX8_task : ByteArray := prog_10_method_38_code
def yX8_task : MethodName := ⟨RX8, "task", "(II)I"⟩
abbrev cX8_worth : ByteArray := prog_10_method_39_code
def yX8_worth : MethodName := ⟨RX8, "worth", "(II)I"⟩
abbrev cX8_priority : ByteArray := prog_10_method_40_code
def yX8_priority : MethodName := ⟨RX8, "priority", "(II)I"⟩
abbrev cX8_size : ByteArray := prog_10_method_41_code
def yX8_size : MethodName := ⟨RX8, "size", "()I"⟩
abbrev cX8_tellRow : ByteArray := prog_10_method_42_code
def yX8_tellRow : MethodName := ⟨RX8, "tellRow", "(I)V"⟩
abbrev cX8_changes : ByteArray := prog_10_method_43_code
def yX8_changes : MethodName := ⟨RX8, "changes", "(I)I"⟩
abbrev cX8_timeOf : ByteArray := prog_10_method_44_code
def yX8_timeOf : MethodName := ⟨RX8, "timeOf", "(I)I"⟩
abbrev cX8_loadOf : ByteArray := prog_10_method_45_code
def yX8_loadOf : MethodName := ⟨RX8, "loadOf", "(I)I"⟩
abbrev cX8_fits : ByteArray := prog_10_method_46_code
def yX8_fits : MethodName := ⟨RX8, "fits", "(II)Z"⟩
abbrev cX8_toolsOf : ByteArray := prog_10_method_47_code
def yX8_toolsOf : MethodName := ⟨RX8, "toolsOf", "(I)I"⟩
abbrev cX8_inStation : ByteArray := prog_10_method_48_code
def yX8_inStation : MethodName := ⟨RX8, "inStation", "(I)I"⟩
abbrev cX8_refuses : ByteArray := prog_10_method_49_code
def yX8_refuses : MethodName := ⟨RX8, "refuses", "(II)I"⟩
abbrev cX8_lowest : ByteArray := prog_10_method_50_code
def yX8_lowest : MethodName := ⟨RX8, "lowest", "(I)I"⟩
abbrev cX8_assigns : ByteArray := prog_10_method_51_code
def yX8_assigns : MethodName := ⟨RX8, "assigns", "(II)I"⟩
abbrev cX8_assign : ByteArray := prog_10_method_52_code
def yX8_assign : MethodName := ⟨RX8, "assign", "(II)I"⟩
abbrev cX8_reason : ByteArray := prog_10_method_53_code
def yX8_reason : MethodName := ⟨RX8, "reason", "(II)I"⟩
abbrev cX8_whyNot : ByteArray := prog_10_method_54_code
def yX8_whyNot : MethodName := ⟨RX8, "whyNot", "()I"⟩
abbrev cX8_most : ByteArray := prog_10_method_55_code
def yX8_most : MethodName := ⟨RX8, "most", "(I)I"⟩
abbrev cX8_lacks : ByteArray := prog_10_method_56_code
def yX8_lacks : MethodName := ⟨RX8, "lacks", "(I)I"⟩
abbrev cX8_station : ByteArray := prog_10_method_57_code
def yX8_station : MethodName := ⟨RX8, "station", "(II)I"⟩
abbrev cX8_time : ByteArray := prog_10_method_58_code
def yX8_time : MethodName := ⟨RX8, "time", "(IIZ)I"⟩
abbrev cX8_sequence : ByteArray := prog_10_method_59_code
def yX8_sequence : MethodName := ⟨RX8, "sequence", "(II)I"⟩
abbrev cX8_sumOfAll : ByteArray := prog_10_method_60_code
def yX8_sumOfAll : MethodName := ⟨RX8, "sumOfAll", "()I"⟩
abbrev cX8_busiest : ByteArray := prog_10_method_61_code
def yX8_busiest : MethodName := ⟨RX8, "busiest", "()I"⟩
abbrev cX8_refused : ByteArray := prog_10_method_62_code
def yX8_refused : MethodName := ⟨RX8, "refused", "()I"⟩
abbrev cX8_overAll : ByteArray := prog_10_method_63_code
def yX8_overAll : MethodName := ⟨RX8, "overAll", "(I)I"⟩
abbrev cX8_line : ByteArray := prog_10_method_64_code
def yX8_line : MethodName := ⟨RX8, "line", "(I)I"⟩
abbrev cX8_efficiency : ByteArray := prog_10_method_65_code
def yX8_efficiency : MethodName := ⟨RX8, "efficiency", "()F"⟩
abbrev cX8_unevenness : ByteArray := prog_10_method_66_code
def yX8_unevenness : MethodName := ⟨RX8, "unevenness", "()J"⟩
abbrev cX8_clearLine : ByteArray := prog_10_method_67_code
def yX8_clearLine : MethodName := ⟨RX8, "clearLine", "()I"⟩
abbrev cX8_nextTask : ByteArray := prog_10_method_68_code
def yX8_nextTask : MethodName := ⟨RX8, "nextTask", "(I)I"⟩
abbrev cX8_fill : ByteArray := prog_10_method_69_code
def yX8_fill : MethodName := ⟨RX8, "fill", "(I)I"⟩
abbrev cX8_isSet : ByteArray := prog_10_method_70_code
def yX8_isSet : MethodName := ⟨RX8, "isSet", "(I)Z"⟩
abbrev cX8_tellSets : ByteArray := prog_10_method_71_code
def yX8_tellSets : MethodName := ⟨RX8, "tellSets", "()V"⟩
abbrev cX8_isTold : ByteArray := prog_10_method_72_code
def yX8_isTold : MethodName := ⟨RX8, "isTold", "(II)Z"⟩
abbrev cX8_linesOf : ByteArray := prog_10_method_73_code
def yX8_linesOf : MethodName := ⟨RX8, "linesOf", "(I)J"⟩
abbrev cX8_tellsNothing : ByteArray := prog_10_method_74_code
def yX8_tellsNothing : MethodName := ⟨RX8, "tellsNothing", "()V"⟩
abbrev cX8_leastOf : ByteArray := prog_10_method_75_code
def yX8_leastOf : MethodName := ⟨RX8, "leastOf", "()I"⟩
abbrev cX8_least : ByteArray := prog_10_method_76_code
def yX8_least : MethodName := ⟨RX8, "least", "()I"⟩
abbrev cX8_ways : ByteArray := prog_10_method_77_code
def yX8_ways : MethodName := ⟨RX8, "ways", "(I)J"⟩
abbrev cX8_takeLeast : ByteArray := prog_10_method_78_code
def yX8_takeLeast : MethodName := ⟨RX8, "takeLeast", "()I"⟩
abbrev cX8_feed : ByteArray := prog_10_method_79_code
def yX8_feed : MethodName := ⟨RX8, "feed", "(C)I"⟩
abbrev cX8_here : ByteArray := prog_10_method_80_code
def yX8_here : MethodName := ⟨RX8, "here", "()I"⟩
abbrev cX8_readsWord : ByteArray := prog_10_method_81_code
def yX8_readsWord : MethodName := ⟨RX8, "readsWord", "()I"⟩
abbrev cX8_readsNumber : ByteArray := prog_10_method_82_code
def yX8_readsNumber : MethodName := ⟨RX8, "readsNumber", "(I)Z"⟩
abbrev cX8_readsCommand : ByteArray := prog_10_method_83_code
def yX8_readsCommand : MethodName := ⟨RX8, "readsCommand", "()Z"⟩
abbrev cX8_does : ByteArray := prog_10_method_84_code
def yX8_does : MethodName := ⟨RX8, "does", "()I"⟩
abbrev cX8_eatsEnd : ByteArray := prog_10_method_85_code
def yX8_eatsEnd : MethodName := ⟨RX8, "eatsEnd", "()Z"⟩
abbrev cX8_read : ByteArray := prog_10_method_86_code
def yX8_read : MethodName := ⟨RX8, "read", "()I"⟩
abbrev cX8_undo : ByteArray := prog_10_method_87_code
def yX8_undo : MethodName := ⟨RX8, "undo", "()I"⟩
abbrev cX8_save : ByteArray := prog_10_method_88_code
def yX8_save : MethodName := ⟨RX8, "save", "()I"⟩
abbrev cX8_restore : ByteArray := prog_10_method_89_code
def yX8_restore : MethodName := ⟨RX8, "restore", "()I"⟩
def RJx145de : String := "java/io/Serializable"
def RJx00060 : String := "java/lang/ArrayIndexOutOfBoundsException"
abbrev cJx00060_init_a7421 : ByteArray := prog_13_method_2_code
def yJx00060_init_a7421 : MethodName := ⟨RJx00060, "<init>", "(Ljava/lang/String;)V"⟩
def RJx9f9b0 : String := "java/lang/CharSequence"
def RJxb160c : String := "java/lang/Comparable"
def RJx29ce0 : String := "java/lang/Enum"
def RJ6 : String := "java/lang/Integer"
abbrev cJ6_bitCount_0f7a4 : ByteArray := prog_21_method_49_code
def yJ6_bitCount_0f7a4 : MethodName := ⟨RJ6, "bitCount", "(I)I"⟩
def RJ9 : String := "java/lang/Math"
abbrev cJ9_max_7cf53 : ByteArray := prog_22_method_65_code
def yJ9_max_7cf53 : MethodName := ⟨RJ9, "max", "(II)I"⟩
abbrev cJ9_min_7cf53 : ByteArray := prog_22_method_69_code
def yJ9_min_7cf53 : MethodName := ⟨RJ9, "min", "(II)I"⟩
def RJ0 : String := "java/lang/String"
abbrev cJ0_length_8abf5 : ByteArray := prog_24_method_54_code
def yJ0_length_8abf5 : MethodName := ⟨RJ0, "length", "()I"⟩
abbrev cJ0_charAt_5068e : ByteArray := prog_24_method_56_code
def yJ0_charAt_5068e : MethodName := ⟨RJ0, "charAt", "(I)C"⟩
abbrev cJ0_coder_7d493 : ByteArray := prog_24_method_152_code
def yJ0_coder_7d493 : MethodName := ⟨RJ0, "coder", "()B"⟩
abbrev cJ0_isLatin1_aae02 : ByteArray := prog_24_method_154_code
def yJ0_isLatin1_aae02 : MethodName := ⟨RJ0, "isLatin1", "()Z"⟩
abbrev cJ0_checkIndex_df160 : ByteArray := prog_24_method_155_code
def yJ0_checkIndex_df160 : MethodName := ⟨RJ0, "checkIndex", "(II)V"⟩
def RJ1 : String := "java/lang/StringLatin1"
abbrev cJ1_charAt_3b067 : ByteArray := prog_25_method_2_code
def yJ1_charAt_3b067 : MethodName := ⟨RJ1, "charAt", "([BI)C"⟩
def RJ2 : String := "java/lang/StringUTF16"
abbrev cJ2_getChar_3b067 : ByteArray := prog_26_method_5_code
def yJ2_getChar_3b067 : MethodName := ⟨RJ2, "getChar", "([BI)C"⟩
abbrev cJ2_length_9d52b : ByteArray := prog_26_method_6_code
def yJ2_length_9d52b : MethodName := ⟨RJ2, "length", "([B)I"⟩
abbrev cJ2_charAt_3b067 : ByteArray := prog_26_method_83_code
def yJ2_charAt_3b067 : MethodName := ⟨RJ2, "charAt", "([BI)C"⟩
abbrev cJ2_checkIndex_2214a : ByteArray := prog_26_method_91_code
def yJ2_checkIndex_2214a : MethodName := ⟨RJ2, "checkIndex", "(I[B)V"⟩
def RJ10 : String := "java/lang/System"
def RJxfd54e : String := "java/lang/constant/Constable"
def RJx3cf43 : String := "java/lang/constant/ConstantDesc"
def RJ7 : String := "java/util/Arrays"
abbrev cJ7_fill_53178 : ByteArray := prog_32_method_103_code
def yJ7_fill_53178 : MethodName := ⟨RJ7, "fill", "([II)V"⟩
def RJ3 : String := "jdk/internal/util/Preconditions"
abbrev cJ3_checkIndex_8e157 : ByteArray := prog_34_method_11_code
def yJ3_checkIndex_8e157 : MethodName := ⟨RJ3, "checkIndex", "(IILjava/util/function/BiFunction;)I"⟩
def RL : String := "LineBalancerLaw"
abbrev cL_setModels : ByteArray := method_3_code
def yL_setModels : MethodName := ⟨RL, "setModels", "(LLineBalancer;I[J)I"⟩
abbrev cL_setDemand : ByteArray := method_4_code
def yL_setDemand : MethodName := ⟨RL, "setDemand", "(LLineBalancer;II[J)I"⟩
abbrev cL_setRule : ByteArray := method_5_code
def yL_setRule : MethodName := ⟨RL, "setRule", "(LLineBalancer;II[J)I"⟩
abbrev cL_rule : ByteArray := method_6_code
def yL_rule : MethodName := ⟨RL, "rule", "(LLineBalancer;I[J)I"⟩
abbrev cL_setCopies : ByteArray := method_7_code
def yL_setCopies : MethodName := ⟨RL, "setCopies", "(LLineBalancer;II[J)I"⟩
abbrev cL_addTask : ByteArray := method_8_code
def yL_addTask : MethodName := ⟨RL, "addTask", "(LLineBalancer;IIII[J)I"⟩
abbrev cL_setTime : ByteArray := method_9_code
def yL_setTime : MethodName := ⟨RL, "setTime", "(LLineBalancer;III[J)I"⟩
abbrev cL_setTool : ByteArray := method_10_code
def yL_setTool : MethodName := ⟨RL, "setTool", "(LLineBalancer;II[J)I"⟩
abbrev cL_before : ByteArray := method_11_code
def yL_before : MethodName := ⟨RL, "before", "(LLineBalancer;II[J)I"⟩
abbrev cL_pair : ByteArray := method_12_code
def yL_pair : MethodName := ⟨RL, "pair", "(LLineBalancer;IIZ[J)I"⟩
abbrev cL_drop : ByteArray := method_13_code
def yL_drop : MethodName := ⟨RL, "drop", "(LLineBalancer;II[J)I"⟩
abbrev cL_task : ByteArray := method_14_code
def yL_task : MethodName := ⟨RL, "task", "(LLineBalancer;II[J)I"⟩
abbrev cL_priority : ByteArray := method_15_code
def yL_priority : MethodName := ⟨RL, "priority", "(LLineBalancer;II[J)I"⟩
abbrev cL_assign : ByteArray := method_16_code
def yL_assign : MethodName := ⟨RL, "assign", "(LLineBalancer;II[J)I"⟩
abbrev cL_reason : ByteArray := method_17_code
def yL_reason : MethodName := ⟨RL, "reason", "(LLineBalancer;II[J)I"⟩
abbrev cL_whyNot : ByteArray := method_18_code
def yL_whyNot : MethodName := ⟨RL, "whyNot", "(LLineBalancer;[J)I"⟩
abbrev cL_station : ByteArray := method_19_code
def yL_station : MethodName := ⟨RL, "station", "(LLineBalancer;II[J)I"⟩
abbrev cL_time : ByteArray := method_20_code
def yL_time : MethodName := ⟨RL, "time", "(LLineBalancer;IIZ[J)I"⟩
abbrev cL_sequence : ByteArray := method_21_code
def yL_sequence : MethodName := ⟨RL, "sequence", "(LLineBalancer;II[J)I"⟩
abbrev cL_line : ByteArray := method_22_code
def yL_line : MethodName := ⟨RL, "line", "(LLineBalancer;I[J)I"⟩
abbrev cL_efficiency : ByteArray := method_23_code
def yL_efficiency : MethodName := ⟨RL, "efficiency", "(LLineBalancer;[D)I"⟩
abbrev cL_fill : ByteArray := method_24_code
def yL_fill : MethodName := ⟨RL, "fill", "(LLineBalancer;I[J)I"⟩
abbrev cL_least : ByteArray := method_25_code
def yL_least : MethodName := ⟨RL, "least", "(LLineBalancer;[J)I"⟩
abbrev cL_ways : ByteArray := method_26_code
def yL_ways : MethodName := ⟨RL, "ways", "(LLineBalancer;I[J)I"⟩
abbrev cL_takeLeast : ByteArray := method_27_code
def yL_takeLeast : MethodName := ⟨RL, "takeLeast", "(LLineBalancer;[J)I"⟩
abbrev cL_feed : ByteArray := method_28_code
def yL_feed : MethodName := ⟨RL, "feed", "(LLineBalancer;C[J)I"⟩
abbrev cL_read : ByteArray := method_29_code
def yL_read : MethodName := ⟨RL, "read", "(LLineBalancer;[J)I"⟩
abbrev cL_undo : ByteArray := method_30_code
def yL_undo : MethodName := ⟨RL, "undo", "(LLineBalancer;[J)I"⟩
abbrev cL_restore : ByteArray := method_31_code
def yL_restore : MethodName := ⟨RL, "restore", "(LLineBalancer;[J)I"⟩
abbrev cL_law : ByteArray := code
def yL_law : MethodName := ⟨RL, "law", "([I)Z"⟩
end
section
theorem dX1_init_0 : decode cX1_init 0 = .ok (.aload_n 0, 1) := by decide +kernel
theorem dX1_init_1 : decode cX1_init 1 = .ok (.invokespecial 3, 3) := by decide +kernel
theorem dX1_init_4 : decode cX1_init 4 = .ok (.aload_n 0, 1) := by decide +kernel
theorem dX1_init_5 : decode cX1_init 5 = .ok (.bipush 9, 2) := by decide +kernel
theorem dX1_init_7 : decode cX1_init 7 = .ok (.anewarray 9, 3) := by decide +kernel
theorem dX1_init_10 : decode cX1_init 10 = .ok (.putfield 11, 3) := by decide +kernel
theorem dX1_init_13 : decode cX1_init 13 = .ok (.iconst 0, 1) := by decide +kernel
theorem dX1_init_14 : decode cX1_init 14 = .ok (.istore_n 1, 1) := by decide +kernel
theorem dX1_init_15 : decode cX1_init 15 = .ok (.iload_n 1, 1) := by decide +kernel
theorem dX1_init_16 : decode cX1_init 16 = .ok (.bipush 9, 2) := by decide +kernel
theorem dX1_init_18 : decode cX1_init 18 = .ok (.if_icmp .ge 22, 3) := by decide +kernel
theorem dX1_init_21 : decode cX1_init 21 = .ok (.aload_n 0, 1) := by decide +kernel
theorem dX1_init_22 : decode cX1_init 22 = .ok (.getfield 11, 3) := by decide +kernel
theorem dX1_init_25 : decode cX1_init 25 = .ok (.iload_n 1, 1) := by decide +kernel
theorem dX1_init_26 : decode cX1_init 26 = .ok (.new 9, 3) := by decide +kernel
theorem dX1_init_29 : decode cX1_init 29 = .ok (.dup, 1) := by decide +kernel
theorem dX1_init_30 : decode cX1_init 30 = .ok (.invokespecial 15, 3) := by decide +kernel
theorem dX1_init_33 : decode cX1_init 33 = .ok (.aastore, 1) := by decide +kernel
theorem dX1_init_34 : decode cX1_init 34 = .ok (.iinc 1 1, 3) := by decide +kernel
theorem dX1_init_37 : decode cX1_init 37 = .ok (.goto (-22), 3) := by decide +kernel
theorem dX1_init_40 : decode cX1_init 40 = .ok (.return_, 1) := by decide +kernel
theorem dX1_begin_0 : decode cX1_begin 0 = .ok (.aload_n 0, 1) := by decide +kernel
theorem dX1_begin_1 : decode cX1_begin 1 = .ok (.getfield 11, 3) := by decide +kernel
theorem dX1_begin_4 : decode cX1_begin 4 = .ok (.aload_n 0, 1) := by decide +kernel
theorem dX1_begin_5 : decode cX1_begin 5 = .ok (.getfield 16, 3) := by decide +kernel
theorem dX1_begin_8 : decode cX1_begin 8 = .ok (.aaload, 1) := by decide +kernel
theorem dX1_begin_9 : decode cX1_begin 9 = .ok (.aload_n 1, 1) := by decide +kernel
theorem dX1_begin_10 : decode cX1_begin 10 = .ok (.invokevirtual 20, 3) := by decide +kernel
theorem dX1_begin_13 : decode cX1_begin 13 = .ok (.return_, 1) := by decide +kernel
theorem dX1_finish_0 : decode cX1_finish 0 = .ok (.aload_n 0, 1) := by decide +kernel
theorem dX1_finish_1 : decode cX1_finish 1 = .ok (.aload_n 0, 1) := by decide +kernel
theorem dX1_finish_2 : decode cX1_finish 2 = .ok (.getfield 16, 3) := by decide +kernel
theorem dX1_finish_5 : decode cX1_finish 5 = .ok (.iconst 1, 1) := by decide +kernel
theorem dX1_finish_6 : decode cX1_finish 6 = .ok (.iadd, 1) := by decide +kernel
theorem dX1_finish_7 : decode cX1_finish 7 = .ok (.bipush 9, 2) := by decide +kernel
theorem dX1_finish_9 : decode cX1_finish 9 = .ok (.if_icmp .ge 12, 3) := by decide +kernel
theorem dX1_finish_12 : decode cX1_finish 12 = .ok (.aload_n 0, 1) := by decide +kernel
theorem dX1_finish_13 : decode cX1_finish 13 = .ok (.getfield 16, 3) := by decide +kernel
theorem dX1_finish_16 : decode cX1_finish 16 = .ok (.iconst 1, 1) := by decide +kernel
theorem dX1_finish_17 : decode cX1_finish 17 = .ok (.iadd, 1) := by decide +kernel
theorem dX1_finish_18 : decode cX1_finish 18 = .ok (.goto 4, 3) := by decide +kernel
theorem dX1_finish_21 : decode cX1_finish 21 = .ok (.iconst 0, 1) := by decide +kernel
theorem dX1_finish_22 : decode cX1_finish 22 = .ok (.putfield 16, 3) := by decide +kernel
theorem dX1_finish_25 : decode cX1_finish 25 = .ok (.aload_n 0, 1) := by decide +kernel
theorem dX1_finish_26 : decode cX1_finish 26 = .ok (.aload_n 0, 1) := by decide +kernel
theorem dX1_finish_27 : decode cX1_finish 27 = .ok (.getfield 24, 3) := by decide +kernel
theorem dX1_finish_30 : decode cX1_finish 30 = .ok (.iconst 1, 1) := by decide +kernel
theorem dX1_finish_31 : decode cX1_finish 31 = .ok (.iadd, 1) := by decide +kernel
theorem dX1_finish_32 : decode cX1_finish 32 = .ok (.bipush 8, 2) := by decide +kernel
theorem dX1_finish_34 : decode cX1_finish 34 = .ok (.invokestatic 27, 3) := by decide +kernel
theorem dX1_finish_37 : decode cX1_finish 37 = .ok (.putfield 24, 3) := by decide +kernel
theorem dX1_finish_40 : decode cX1_finish 40 = .ok (.return_, 1) := by decide +kernel
theorem dX1_cancel_0 : decode cX1_cancel 0 = .ok (.aload_n 1, 1) := by decide +kernel
theorem dX1_cancel_1 : decode cX1_cancel 1 = .ok (.aload_n 0, 1) := by decide +kernel
theorem dX1_cancel_2 : decode cX1_cancel 2 = .ok (.getfield 11, 3) := by decide +kernel
theorem dX1_cancel_5 : decode cX1_cancel 5 = .ok (.aload_n 0, 1) := by decide +kernel
theorem dX1_cancel_6 : decode cX1_cancel 6 = .ok (.getfield 16, 3) := by decide +kernel
theorem dX1_cancel_9 : decode cX1_cancel 9 = .ok (.aaload, 1) := by decide +kernel
theorem dX1_cancel_10 : decode cX1_cancel 10 = .ok (.invokevirtual 20, 3) := by decide +kernel
theorem dX1_cancel_13 : decode cX1_cancel 13 = .ok (.return_, 1) := by decide +kernel
theorem dX1_stepBack_0 : decode cX1_stepBack 0 = .ok (.aload_n 0, 1) := by decide +kernel
theorem dX1_stepBack_1 : decode cX1_stepBack 1 = .ok (.aload_n 0, 1) := by decide +kernel
theorem dX1_stepBack_2 : decode cX1_stepBack 2 = .ok (.getfield 16, 3) := by decide +kernel
theorem dX1_stepBack_5 : decode cX1_stepBack 5 = .ok (.ifCond .le 12, 3) := by decide +kernel
theorem dX1_stepBack_8 : decode cX1_stepBack 8 = .ok (.aload_n 0, 1) := by decide +kernel
theorem dX1_stepBack_9 : decode cX1_stepBack 9 = .ok (.getfield 16, 3) := by decide +kernel
theorem dX1_stepBack_12 : decode cX1_stepBack 12 = .ok (.iconst 1, 1) := by decide +kernel
theorem dX1_stepBack_13 : decode cX1_stepBack 13 = .ok (.isub, 1) := by decide +kernel
theorem dX1_stepBack_14 : decode cX1_stepBack 14 = .ok (.goto 5, 3) := by decide +kernel
theorem dX1_stepBack_17 : decode cX1_stepBack 17 = .ok (.bipush 8, 2) := by decide +kernel
theorem dX1_stepBack_19 : decode cX1_stepBack 19 = .ok (.putfield 16, 3) := by decide +kernel
theorem dX1_stepBack_22 : decode cX1_stepBack 22 = .ok (.aload_n 0, 1) := by decide +kernel
theorem dX1_stepBack_23 : decode cX1_stepBack 23 = .ok (.dup, 1) := by decide +kernel
theorem dX1_stepBack_24 : decode cX1_stepBack 24 = .ok (.getfield 24, 3) := by decide +kernel
theorem dX1_stepBack_27 : decode cX1_stepBack 27 = .ok (.iconst 1, 1) := by decide +kernel
theorem dX1_stepBack_28 : decode cX1_stepBack 28 = .ok (.isub, 1) := by decide +kernel
theorem dX1_stepBack_29 : decode cX1_stepBack 29 = .ok (.putfield 24, 3) := by decide +kernel
theorem dX1_stepBack_32 : decode cX1_stepBack 32 = .ok (.aload_n 1, 1) := by decide +kernel
theorem dX1_stepBack_33 : decode cX1_stepBack 33 = .ok (.aload_n 0, 1) := by decide +kernel
theorem dX1_stepBack_34 : decode cX1_stepBack 34 = .ok (.getfield 11, 3) := by decide +kernel
theorem dX1_stepBack_37 : decode cX1_stepBack 37 = .ok (.aload_n 0, 1) := by decide +kernel
theorem dX1_stepBack_38 : decode cX1_stepBack 38 = .ok (.getfield 16, 3) := by decide +kernel
theorem dX1_stepBack_41 : decode cX1_stepBack 41 = .ok (.aaload, 1) := by decide +kernel
theorem dX1_stepBack_42 : decode cX1_stepBack 42 = .ok (.invokevirtual 20, 3) := by decide +kernel
theorem dX1_stepBack_45 : decode cX1_stepBack 45 = .ok (.return_, 1) := by decide +kernel
theorem dX1_clear_0 : decode cX1_clear 0 = .ok (.aload_n 0, 1) := by decide +kernel
theorem dX1_clear_1 : decode cX1_clear 1 = .ok (.iconst 0, 1) := by decide +kernel
theorem dX1_clear_2 : decode cX1_clear 2 = .ok (.putfield 24, 3) := by decide +kernel
theorem dX1_clear_5 : decode cX1_clear 5 = .ok (.return_, 1) := by decide +kernel
theorem dX2_init_0 : decode cX2_init 0 = .ok (.aload_n 0, 1) := by decide +kernel
theorem dX2_init_1 : decode cX2_init 1 = .ok (.invokespecial 1, 3) := by decide +kernel
theorem dX2_init_4 : decode cX2_init 4 = .ok (.aload_n 0, 1) := by decide +kernel
theorem dX2_init_5 : decode cX2_init 5 = .ok (.bipush 80, 2) := by decide +kernel
theorem dX2_init_7 : decode cX2_init 7 = .ok (.newarray .char, 2) := by decide +kernel
theorem dX2_init_9 : decode cX2_init 9 = .ok (.putfield 9, 3) := by decide +kernel
theorem dX2_init_12 : decode cX2_init 12 = .ok (.aload_n 0, 1) := by decide +kernel
theorem dX2_init_13 : decode cX2_init 13 = .ok (.iconst 4, 1) := by decide +kernel
theorem dX2_init_14 : decode cX2_init 14 = .ok (.newarray .int, 2) := by decide +kernel
theorem dX2_init_16 : decode cX2_init 16 = .ok (.putfield 13, 3) := by decide +kernel
theorem dX2_init_19 : decode cX2_init 19 = .ok (.return_, 1) := by decide +kernel
theorem dX2_append_0 : decode cX2_append 0 = .ok (.aload_n 0, 1) := by decide +kernel
theorem dX2_append_1 : decode cX2_append 1 = .ok (.getfield 17, 3) := by decide +kernel
theorem dX2_append_4 : decode cX2_append 4 = .ok (.bipush 80, 2) := by decide +kernel
theorem dX2_append_6 : decode cX2_append 6 = .ok (.if_icmp .ge 23, 3) := by decide +kernel
theorem dX2_append_9 : decode cX2_append 9 = .ok (.aload_n 0, 1) := by decide +kernel
theorem dX2_append_10 : decode cX2_append 10 = .ok (.getfield 9, 3) := by decide +kernel
theorem dX2_append_13 : decode cX2_append 13 = .ok (.aload_n 0, 1) := by decide +kernel
theorem dX2_append_14 : decode cX2_append 14 = .ok (.getfield 17, 3) := by decide +kernel
theorem dX2_append_17 : decode cX2_append 17 = .ok (.iload_n 1, 1) := by decide +kernel
theorem dX2_append_18 : decode cX2_append 18 = .ok (.castore, 1) := by decide +kernel
theorem dX2_append_19 : decode cX2_append 19 = .ok (.aload_n 0, 1) := by decide +kernel
theorem dX2_append_20 : decode cX2_append 20 = .ok (.dup, 1) := by decide +kernel
theorem dX2_append_21 : decode cX2_append 21 = .ok (.getfield 17, 3) := by decide +kernel
theorem dX2_append_24 : decode cX2_append 24 = .ok (.iconst 1, 1) := by decide +kernel
theorem dX2_append_25 : decode cX2_append 25 = .ok (.iadd, 1) := by decide +kernel
theorem dX2_append_26 : decode cX2_append 26 = .ok (.putfield 17, 3) := by decide +kernel
theorem dX2_append_29 : decode cX2_append 29 = .ok (.return_, 1) := by decide +kernel
theorem dX2_clear_0 : decode cX2_clear 0 = .ok (.aload_n 0, 1) := by decide +kernel
theorem dX2_clear_1 : decode cX2_clear 1 = .ok (.iconst 0, 1) := by decide +kernel
theorem dX2_clear_2 : decode cX2_clear 2 = .ok (.putfield 17, 3) := by decide +kernel
theorem dX2_clear_5 : decode cX2_clear 5 = .ok (.return_, 1) := by decide +kernel
theorem dX2_rewind_0 : decode cX2_rewind 0 = .ok (.aload_n 0, 1) := by decide +kernel
theorem dX2_rewind_1 : decode cX2_rewind 1 = .ok (.iconst 0, 1) := by decide +kernel
theorem dX2_rewind_2 : decode cX2_rewind 2 = .ok (.putfield 21, 3) := by decide +kernel
theorem dX2_rewind_5 : decode cX2_rewind 5 = .ok (.return_, 1) := by decide +kernel
theorem dX2_errorPosition_0 : decode cX2_errorPosition 0 = .ok (.aload_n 0, 1) := by decide +kernel
theorem dX2_errorPosition_1 : decode cX2_errorPosition 1 = .ok (.invokevirtual 24, 3) := by decide +kernel
theorem dX2_errorPosition_4 : decode cX2_errorPosition 4 = .ok (.iconst 1, 1) := by decide +kernel
theorem dX2_errorPosition_5 : decode cX2_errorPosition 5 = .ok (.istore_n 1, 1) := by decide +kernel
theorem dX2_errorPosition_6 : decode cX2_errorPosition 6 = .ok (.iconst 0, 1) := by decide +kernel
theorem dX2_errorPosition_7 : decode cX2_errorPosition 7 = .ok (.istore_n 2, 1) := by decide +kernel
theorem dX2_errorPosition_8 : decode cX2_errorPosition 8 = .ok (.iload_n 1, 1) := by decide +kernel
theorem dX2_errorPosition_9 : decode cX2_errorPosition 9 = .ok (.ifCond .eq 34, 3) := by decide +kernel
theorem dX2_errorPosition_12 : decode cX2_errorPosition 12 = .ok (.iload_n 2, 1) := by decide +kernel
theorem dX2_errorPosition_13 : decode cX2_errorPosition 13 = .ok (.bipush 80, 2) := by decide +kernel
theorem dX2_errorPosition_15 : decode cX2_errorPosition 15 = .ok (.if_icmp .ge 28, 3) := by decide +kernel
theorem dX2_errorPosition_18 : decode cX2_errorPosition 18 = .ok (.aload_n 0, 1) := by decide +kernel
theorem dX2_errorPosition_19 : decode cX2_errorPosition 19 = .ok (.invokevirtual 27, 3) := by decide +kernel
theorem dX2_errorPosition_22 : decode cX2_errorPosition 22 = .ok (.ifCond .ne 8, 3) := by decide +kernel
theorem dX2_errorPosition_25 : decode cX2_errorPosition 25 = .ok (.aload_n 0, 1) := by decide +kernel
theorem dX2_errorPosition_26 : decode cX2_errorPosition 26 = .ok (.getfield 21, 3) := by decide +kernel
theorem dX2_errorPosition_29 : decode cX2_errorPosition 29 = .ok (.ireturn, 1) := by decide +kernel
theorem dX2_errorPosition_30 : decode cX2_errorPosition 30 = .ok (.aload_n 0, 1) := by decide +kernel
theorem dX2_errorPosition_31 : decode cX2_errorPosition 31 = .ok (.bipush 59, 2) := by decide +kernel
theorem dX2_errorPosition_33 : decode cX2_errorPosition 33 = .ok (.invokevirtual 31, 3) := by decide +kernel
theorem dX2_errorPosition_36 : decode cX2_errorPosition 36 = .ok (.istore_n 1, 1) := by decide +kernel
theorem dX2_errorPosition_37 : decode cX2_errorPosition 37 = .ok (.iinc 2 1, 3) := by decide +kernel
theorem dX2_errorPosition_40 : decode cX2_errorPosition 40 = .ok (.goto (-32), 3) := by decide +kernel
theorem dX2_errorPosition_43 : decode cX2_errorPosition 43 = .ok (.aload_n 0, 1) := by decide +kernel
theorem dX2_errorPosition_44 : decode cX2_errorPosition 44 = .ok (.getfield 21, 3) := by decide +kernel
theorem dX2_errorPosition_47 : decode cX2_errorPosition 47 = .ok (.aload_n 0, 1) := by decide +kernel
theorem dX2_errorPosition_48 : decode cX2_errorPosition 48 = .ok (.getfield 17, 3) := by decide +kernel
theorem dX2_errorPosition_51 : decode cX2_errorPosition 51 = .ok (.if_icmp .ge 10, 3) := by decide +kernel
theorem dX2_errorPosition_54 : decode cX2_errorPosition 54 = .ok (.aload_n 0, 1) := by decide +kernel
theorem dX2_errorPosition_55 : decode cX2_errorPosition 55 = .ok (.getfield 21, 3) := by decide +kernel
theorem dX2_errorPosition_58 : decode cX2_errorPosition 58 = .ok (.goto 4, 3) := by decide +kernel
theorem dX2_errorPosition_61 : decode cX2_errorPosition 61 = .ok (.iconst (-1), 1) := by decide +kernel
theorem dX2_errorPosition_62 : decode cX2_errorPosition 62 = .ok (.ireturn, 1) := by decide +kernel
theorem dX2_passCommand_0 : decode cX2_passCommand 0 = .ok (.aload_n 0, 1) := by decide +kernel
theorem dX2_passCommand_1 : decode cX2_passCommand 1 = .ok (.invokevirtual 35, 3) := by decide +kernel
theorem dX2_passCommand_4 : decode cX2_passCommand 4 = .ok (.ifCond .eq 10, 3) := by decide +kernel
theorem dX2_passCommand_7 : decode cX2_passCommand 7 = .ok (.aload_n 0, 1) := by decide +kernel
theorem dX2_passCommand_8 : decode cX2_passCommand 8 = .ok (.getfield 38, 3) := by decide +kernel
theorem dX2_passCommand_11 : decode cX2_passCommand 11 = .ok (.ifnonnull 5, 3) := by decide +kernel
theorem dX2_passCommand_14 : decode cX2_passCommand 14 = .ok (.iconst 0, 1) := by decide +kernel
theorem dX2_passCommand_15 : decode cX2_passCommand 15 = .ok (.ireturn, 1) := by decide +kernel
theorem dX2_passCommand_16 : decode cX2_passCommand 16 = .ok (.iconst 0, 1) := by decide +kernel
theorem dX2_passCommand_17 : decode cX2_passCommand 17 = .ok (.istore_n 1, 1) := by decide +kernel
theorem dX2_passCommand_18 : decode cX2_passCommand 18 = .ok (.iload_n 1, 1) := by decide +kernel
theorem dX2_passCommand_19 : decode cX2_passCommand 19 = .ok (.aload_n 0, 1) := by decide +kernel
theorem dX2_passCommand_20 : decode cX2_passCommand 20 = .ok (.getfield 38, 3) := by decide +kernel
theorem dX2_passCommand_23 : decode cX2_passCommand 23 = .ok (.getfield 42, 3) := by decide +kernel
theorem dX2_passCommand_26 : decode cX2_passCommand 26 = .ok (.if_icmp .ge 19, 3) := by decide +kernel
theorem dX2_passCommand_29 : decode cX2_passCommand 29 = .ok (.aload_n 0, 1) := by decide +kernel
theorem dX2_passCommand_30 : decode cX2_passCommand 30 = .ok (.iload_n 1, 1) := by decide +kernel
theorem dX2_passCommand_31 : decode cX2_passCommand 31 = .ok (.invokevirtual 46, 3) := by decide +kernel
theorem dX2_passCommand_34 : decode cX2_passCommand 34 = .ok (.ifCond .ne 5, 3) := by decide +kernel
theorem dX2_passCommand_37 : decode cX2_passCommand 37 = .ok (.iconst 0, 1) := by decide +kernel
theorem dX2_passCommand_38 : decode cX2_passCommand 38 = .ok (.ireturn, 1) := by decide +kernel
theorem dX2_passCommand_39 : decode cX2_passCommand 39 = .ok (.iinc 1 1, 3) := by decide +kernel
theorem dX2_passCommand_42 : decode cX2_passCommand 42 = .ok (.goto (-24), 3) := by decide +kernel
theorem dX2_passCommand_45 : decode cX2_passCommand 45 = .ok (.iconst 1, 1) := by decide +kernel
theorem dX2_passCommand_46 : decode cX2_passCommand 46 = .ok (.ireturn, 1) := by decide +kernel
theorem dX2_passSign_0 : decode cX2_passSign 0 = .ok (.aload_n 0, 1) := by decide +kernel
theorem dX2_passSign_1 : decode cX2_passSign 1 = .ok (.getfield 21, 3) := by decide +kernel
theorem dX2_passSign_4 : decode cX2_passSign 4 = .ok (.aload_n 0, 1) := by decide +kernel
theorem dX2_passSign_5 : decode cX2_passSign 5 = .ok (.getfield 17, 3) := by decide +kernel
theorem dX2_passSign_8 : decode cX2_passSign 8 = .ok (.if_icmp .ge 16, 3) := by decide +kernel
theorem dX2_passSign_11 : decode cX2_passSign 11 = .ok (.aload_n 0, 1) := by decide +kernel
theorem dX2_passSign_12 : decode cX2_passSign 12 = .ok (.getfield 9, 3) := by decide +kernel
theorem dX2_passSign_15 : decode cX2_passSign 15 = .ok (.aload_n 0, 1) := by decide +kernel
theorem dX2_passSign_16 : decode cX2_passSign 16 = .ok (.getfield 21, 3) := by decide +kernel
theorem dX2_passSign_19 : decode cX2_passSign 19 = .ok (.caload, 1) := by decide +kernel
theorem dX2_passSign_20 : decode cX2_passSign 20 = .ok (.iload_n 1, 1) := by decide +kernel
theorem dX2_passSign_21 : decode cX2_passSign 21 = .ok (.if_icmp .eq 5, 3) := by decide +kernel
theorem dX2_passSign_24 : decode cX2_passSign 24 = .ok (.iconst 0, 1) := by decide +kernel
theorem dX2_passSign_25 : decode cX2_passSign 25 = .ok (.ireturn, 1) := by decide +kernel
theorem dX2_passSign_26 : decode cX2_passSign 26 = .ok (.aload_n 0, 1) := by decide +kernel
theorem dX2_passSign_27 : decode cX2_passSign 27 = .ok (.dup, 1) := by decide +kernel
theorem dX2_passSign_28 : decode cX2_passSign 28 = .ok (.getfield 21, 3) := by decide +kernel
theorem dX2_passSign_31 : decode cX2_passSign 31 = .ok (.iconst 1, 1) := by decide +kernel
theorem dX2_passSign_32 : decode cX2_passSign 32 = .ok (.iadd, 1) := by decide +kernel
theorem dX2_passSign_33 : decode cX2_passSign 33 = .ok (.putfield 21, 3) := by decide +kernel
theorem dX2_passSign_36 : decode cX2_passSign 36 = .ok (.iconst 1, 1) := by decide +kernel
theorem dX2_passSign_37 : decode cX2_passSign 37 = .ok (.ireturn, 1) := by decide +kernel
theorem dX2_passWord_0 : decode cX2_passWord 0 = .ok (.aload_n 0, 1) := by decide +kernel
theorem dX2_passWord_1 : decode cX2_passWord 1 = .ok (.getfield 21, 3) := by decide +kernel
theorem dX2_passWord_4 : decode cX2_passWord 4 = .ok (.istore_n 1, 1) := by decide +kernel
theorem dX2_passWord_5 : decode cX2_passWord 5 = .ok (.iload_n 1, 1) := by decide +kernel
theorem dX2_passWord_6 : decode cX2_passWord 6 = .ok (.aload_n 0, 1) := by decide +kernel
theorem dX2_passWord_7 : decode cX2_passWord 7 = .ok (.getfield 17, 3) := by decide +kernel
theorem dX2_passWord_10 : decode cX2_passWord 10 = .ok (.if_icmp .ge 21, 3) := by decide +kernel
theorem dX2_passWord_13 : decode cX2_passWord 13 = .ok (.aload_n 0, 1) := by decide +kernel
theorem dX2_passWord_14 : decode cX2_passWord 14 = .ok (.iload_n 1, 1) := by decide +kernel
theorem dX2_passWord_15 : decode cX2_passWord 15 = .ok (.bipush 97, 2) := by decide +kernel
theorem dX2_passWord_17 : decode cX2_passWord 17 = .ok (.bipush 122, 2) := by decide +kernel
theorem dX2_passWord_19 : decode cX2_passWord 19 = .ok (.invokevirtual 50, 3) := by decide +kernel
theorem dX2_passWord_22 : decode cX2_passWord 22 = .ok (.ifCond .eq 9, 3) := by decide +kernel
theorem dX2_passWord_25 : decode cX2_passWord 25 = .ok (.iinc 1 1, 3) := by decide +kernel
theorem dX2_passWord_28 : decode cX2_passWord 28 = .ok (.goto (-23), 3) := by decide +kernel
theorem dX2_passWord_31 : decode cX2_passWord 31 = .ok (.aload_n 0, 1) := by decide +kernel
theorem dX2_passWord_32 : decode cX2_passWord 32 = .ok (.aload_n 0, 1) := by decide +kernel
theorem dX2_passWord_33 : decode cX2_passWord 33 = .ok (.aload_n 0, 1) := by decide +kernel
theorem dX2_passWord_34 : decode cX2_passWord 34 = .ok (.getfield 21, 3) := by decide +kernel
theorem dX2_passWord_37 : decode cX2_passWord 37 = .ok (.iload_n 1, 1) := by decide +kernel
theorem dX2_passWord_38 : decode cX2_passWord 38 = .ok (.invokevirtual 54, 3) := by decide +kernel
theorem dX2_passWord_41 : decode cX2_passWord 41 = .ok (.putfield 38, 3) := by decide +kernel
theorem dX2_passWord_44 : decode cX2_passWord 44 = .ok (.aload_n 0, 1) := by decide +kernel
theorem dX2_passWord_45 : decode cX2_passWord 45 = .ok (.getfield 38, 3) := by decide +kernel
theorem dX2_passWord_48 : decode cX2_passWord 48 = .ok (.ifnonnull 5, 3) := by decide +kernel
theorem dX2_passWord_51 : decode cX2_passWord 51 = .ok (.iconst 0, 1) := by decide +kernel
theorem dX2_passWord_52 : decode cX2_passWord 52 = .ok (.ireturn, 1) := by decide +kernel
theorem dX2_passWord_53 : decode cX2_passWord 53 = .ok (.aload_n 0, 1) := by decide +kernel
theorem dX2_passWord_54 : decode cX2_passWord 54 = .ok (.iload_n 1, 1) := by decide +kernel
theorem dX2_passWord_55 : decode cX2_passWord 55 = .ok (.putfield 21, 3) := by decide +kernel
theorem dX2_passWord_58 : decode cX2_passWord 58 = .ok (.iconst 1, 1) := by decide +kernel
theorem dX2_passWord_59 : decode cX2_passWord 59 = .ok (.ireturn, 1) := by decide +kernel
theorem dX2_passNumber_0 : decode cX2_passNumber 0 = .ok (.aload_n 0, 1) := by decide +kernel
theorem dX2_passNumber_1 : decode cX2_passNumber 1 = .ok (.bipush 32, 2) := by decide +kernel
theorem dX2_passNumber_3 : decode cX2_passNumber 3 = .ok (.invokevirtual 31, 3) := by decide +kernel
theorem dX2_passNumber_6 : decode cX2_passNumber 6 = .ok (.ifCond .eq 8, 3) := by decide +kernel
theorem dX2_passNumber_9 : decode cX2_passNumber 9 = .ok (.iload_n 1, 1) := by decide +kernel
theorem dX2_passNumber_10 : decode cX2_passNumber 10 = .ok (.iconst 4, 1) := by decide +kernel
theorem dX2_passNumber_11 : decode cX2_passNumber 11 = .ok (.if_icmp .lt 5, 3) := by decide +kernel
theorem dX2_passNumber_14 : decode cX2_passNumber 14 = .ok (.iconst 0, 1) := by decide +kernel
theorem dX2_passNumber_15 : decode cX2_passNumber 15 = .ok (.ireturn, 1) := by decide +kernel
theorem dX2_passNumber_16 : decode cX2_passNumber 16 = .ok (.aload_n 0, 1) := by decide +kernel
theorem dX2_passNumber_17 : decode cX2_passNumber 17 = .ok (.getfield 21, 3) := by decide +kernel
theorem dX2_passNumber_20 : decode cX2_passNumber 20 = .ok (.istore_n 2, 1) := by decide +kernel
theorem dX2_passNumber_21 : decode cX2_passNumber 21 = .ok (.iconst 0, 1) := by decide +kernel
theorem dX2_passNumber_22 : decode cX2_passNumber 22 = .ok (.istore_n 3, 1) := by decide +kernel
theorem dX2_passNumber_23 : decode cX2_passNumber 23 = .ok (.aload_n 0, 1) := by decide +kernel
theorem dX2_passNumber_24 : decode cX2_passNumber 24 = .ok (.getfield 21, 3) := by decide +kernel
theorem dX2_passNumber_27 : decode cX2_passNumber 27 = .ok (.aload_n 0, 1) := by decide +kernel
theorem dX2_passNumber_28 : decode cX2_passNumber 28 = .ok (.getfield 17, 3) := by decide +kernel
theorem dX2_passNumber_31 : decode cX2_passNumber 31 = .ok (.if_icmp .ge 59, 3) := by decide +kernel
theorem dX2_passNumber_34 : decode cX2_passNumber 34 = .ok (.aload_n 0, 1) := by decide +kernel
theorem dX2_passNumber_35 : decode cX2_passNumber 35 = .ok (.getfield 21, 3) := by decide +kernel
theorem dX2_passNumber_38 : decode cX2_passNumber 38 = .ok (.iload_n 2, 1) := by decide +kernel
theorem dX2_passNumber_39 : decode cX2_passNumber 39 = .ok (.iconst 3, 1) := by decide +kernel
theorem dX2_passNumber_40 : decode cX2_passNumber 40 = .ok (.iadd, 1) := by decide +kernel
theorem dX2_passNumber_41 : decode cX2_passNumber 41 = .ok (.if_icmp .ge 49, 3) := by decide +kernel
theorem dX2_passNumber_44 : decode cX2_passNumber 44 = .ok (.aload_n 0, 1) := by decide +kernel
theorem dX2_passNumber_45 : decode cX2_passNumber 45 = .ok (.aload_n 0, 1) := by decide +kernel
theorem dX2_passNumber_46 : decode cX2_passNumber 46 = .ok (.getfield 21, 3) := by decide +kernel
theorem dX2_passNumber_49 : decode cX2_passNumber 49 = .ok (.bipush 48, 2) := by decide +kernel
theorem dX2_passNumber_51 : decode cX2_passNumber 51 = .ok (.bipush 57, 2) := by decide +kernel
theorem dX2_passNumber_53 : decode cX2_passNumber 53 = .ok (.invokevirtual 50, 3) := by decide +kernel
theorem dX2_passNumber_56 : decode cX2_passNumber 56 = .ok (.ifCond .eq 34, 3) := by decide +kernel
theorem dX2_passNumber_59 : decode cX2_passNumber 59 = .ok (.iload_n 3, 1) := by decide +kernel
theorem dX2_passNumber_60 : decode cX2_passNumber 60 = .ok (.bipush 10, 2) := by decide +kernel
theorem dX2_passNumber_62 : decode cX2_passNumber 62 = .ok (.imul, 1) := by decide +kernel
theorem dX2_passNumber_63 : decode cX2_passNumber 63 = .ok (.aload_n 0, 1) := by decide +kernel
theorem dX2_passNumber_64 : decode cX2_passNumber 64 = .ok (.getfield 9, 3) := by decide +kernel
theorem dX2_passNumber_67 : decode cX2_passNumber 67 = .ok (.aload_n 0, 1) := by decide +kernel
theorem dX2_passNumber_68 : decode cX2_passNumber 68 = .ok (.getfield 21, 3) := by decide +kernel
theorem dX2_passNumber_71 : decode cX2_passNumber 71 = .ok (.caload, 1) := by decide +kernel
theorem dX2_passNumber_72 : decode cX2_passNumber 72 = .ok (.iadd, 1) := by decide +kernel
theorem dX2_passNumber_73 : decode cX2_passNumber 73 = .ok (.bipush 48, 2) := by decide +kernel
theorem dX2_passNumber_75 : decode cX2_passNumber 75 = .ok (.isub, 1) := by decide +kernel
theorem dX2_passNumber_76 : decode cX2_passNumber 76 = .ok (.istore_n 3, 1) := by decide +kernel
theorem dX2_passNumber_77 : decode cX2_passNumber 77 = .ok (.aload_n 0, 1) := by decide +kernel
theorem dX2_passNumber_78 : decode cX2_passNumber 78 = .ok (.dup, 1) := by decide +kernel
theorem dX2_passNumber_79 : decode cX2_passNumber 79 = .ok (.getfield 21, 3) := by decide +kernel
theorem dX2_passNumber_82 : decode cX2_passNumber 82 = .ok (.iconst 1, 1) := by decide +kernel
theorem dX2_passNumber_83 : decode cX2_passNumber 83 = .ok (.iadd, 1) := by decide +kernel
theorem dX2_passNumber_84 : decode cX2_passNumber 84 = .ok (.putfield 21, 3) := by decide +kernel
theorem dX2_passNumber_87 : decode cX2_passNumber 87 = .ok (.goto (-64), 3) := by decide +kernel
theorem dX2_passNumber_90 : decode cX2_passNumber 90 = .ok (.aload_n 0, 1) := by decide +kernel
theorem dX2_passNumber_91 : decode cX2_passNumber 91 = .ok (.getfield 13, 3) := by decide +kernel
theorem dX2_passNumber_94 : decode cX2_passNumber 94 = .ok (.iload_n 1, 1) := by decide +kernel
theorem dX2_passNumber_95 : decode cX2_passNumber 95 = .ok (.iload_n 3, 1) := by decide +kernel
theorem dX2_passNumber_96 : decode cX2_passNumber 96 = .ok (.iastore, 1) := by decide +kernel
theorem dX2_passNumber_97 : decode cX2_passNumber 97 = .ok (.aload_n 0, 1) := by decide +kernel
theorem dX2_passNumber_98 : decode cX2_passNumber 98 = .ok (.getfield 21, 3) := by decide +kernel
theorem dX2_passNumber_101 : decode cX2_passNumber 101 = .ok (.iload_n 2, 1) := by decide +kernel
theorem dX2_passNumber_102 : decode cX2_passNumber 102 = .ok (.if_icmp .le 7, 3) := by decide +kernel
theorem dX2_passNumber_105 : decode cX2_passNumber 105 = .ok (.iconst 1, 1) := by decide +kernel
theorem dX2_passNumber_106 : decode cX2_passNumber 106 = .ok (.goto 4, 3) := by decide +kernel
theorem dX2_passNumber_109 : decode cX2_passNumber 109 = .ok (.iconst 0, 1) := by decide +kernel
theorem dX2_passNumber_110 : decode cX2_passNumber 110 = .ok (.ireturn, 1) := by decide +kernel
theorem dX2_isBetween_0 : decode cX2_isBetween 0 = .ok (.aload_n 0, 1) := by decide +kernel
theorem dX2_isBetween_1 : decode cX2_isBetween 1 = .ok (.getfield 9, 3) := by decide +kernel
theorem dX2_isBetween_4 : decode cX2_isBetween 4 = .ok (.iload_n 1, 1) := by decide +kernel
theorem dX2_isBetween_5 : decode cX2_isBetween 5 = .ok (.caload, 1) := by decide +kernel
theorem dX2_isBetween_6 : decode cX2_isBetween 6 = .ok (.iload_n 2, 1) := by decide +kernel
theorem dX2_isBetween_7 : decode cX2_isBetween 7 = .ok (.if_icmp .lt 17, 3) := by decide +kernel
theorem dX2_isBetween_10 : decode cX2_isBetween 10 = .ok (.aload_n 0, 1) := by decide +kernel
theorem dX2_isBetween_11 : decode cX2_isBetween 11 = .ok (.getfield 9, 3) := by decide +kernel
theorem dX2_isBetween_14 : decode cX2_isBetween 14 = .ok (.iload_n 1, 1) := by decide +kernel
theorem dX2_isBetween_15 : decode cX2_isBetween 15 = .ok (.caload, 1) := by decide +kernel
theorem dX2_isBetween_16 : decode cX2_isBetween 16 = .ok (.iload_n 3, 1) := by decide +kernel
theorem dX2_isBetween_17 : decode cX2_isBetween 17 = .ok (.if_icmp .gt 7, 3) := by decide +kernel
theorem dX2_isBetween_20 : decode cX2_isBetween 20 = .ok (.iconst 1, 1) := by decide +kernel
theorem dX2_isBetween_21 : decode cX2_isBetween 21 = .ok (.goto 4, 3) := by decide +kernel
theorem dX2_isBetween_24 : decode cX2_isBetween 24 = .ok (.iconst 0, 1) := by decide +kernel
theorem dX2_isBetween_25 : decode cX2_isBetween 25 = .ok (.ireturn, 1) := by decide +kernel
theorem dX2_commandAt_0 : decode cX2_commandAt 0 = .ok (.iconst 0, 1) := by decide +kernel
theorem dX2_commandAt_1 : decode cX2_commandAt 1 = .ok (.istore_n 3, 1) := by decide +kernel
theorem dX2_commandAt_2 : decode cX2_commandAt 2 = .ok (.iload_n 3, 1) := by decide +kernel
theorem dX2_commandAt_3 : decode cX2_commandAt 3 = .ok (.getstatic 58, 3) := by decide +kernel
theorem dX2_commandAt_6 : decode cX2_commandAt 6 = .ok (.arraylength, 1) := by decide +kernel
theorem dX2_commandAt_7 : decode cX2_commandAt 7 = .ok (.if_icmp .ge 32, 3) := by decide +kernel
theorem dX2_commandAt_10 : decode cX2_commandAt 10 = .ok (.aload_n 0, 1) := by decide +kernel
theorem dX2_commandAt_11 : decode cX2_commandAt 11 = .ok (.getstatic 58, 3) := by decide +kernel
theorem dX2_commandAt_14 : decode cX2_commandAt 14 = .ok (.iload_n 3, 1) := by decide +kernel
theorem dX2_commandAt_15 : decode cX2_commandAt 15 = .ok (.aaload, 1) := by decide +kernel
theorem dX2_commandAt_16 : decode cX2_commandAt 16 = .ok (.getfield 64, 3) := by decide +kernel
theorem dX2_commandAt_19 : decode cX2_commandAt 19 = .ok (.iload_n 1, 1) := by decide +kernel
theorem dX2_commandAt_20 : decode cX2_commandAt 20 = .ok (.iload_n 2, 1) := by decide +kernel
theorem dX2_commandAt_21 : decode cX2_commandAt 21 = .ok (.invokevirtual 68, 3) := by decide +kernel
theorem dX2_commandAt_24 : decode cX2_commandAt 24 = .ok (.ifCond .eq 9, 3) := by decide +kernel
theorem dX2_commandAt_27 : decode cX2_commandAt 27 = .ok (.getstatic 58, 3) := by decide +kernel
theorem dX2_commandAt_30 : decode cX2_commandAt 30 = .ok (.iload_n 3, 1) := by decide +kernel
theorem dX2_commandAt_31 : decode cX2_commandAt 31 = .ok (.aaload, 1) := by decide +kernel
theorem dX2_commandAt_32 : decode cX2_commandAt 32 = .ok (.areturn, 1) := by decide +kernel
theorem dX2_commandAt_33 : decode cX2_commandAt 33 = .ok (.iinc 3 1, 3) := by decide +kernel
theorem dX2_commandAt_36 : decode cX2_commandAt 36 = .ok (.goto (-34), 3) := by decide +kernel
theorem dX2_commandAt_39 : decode cX2_commandAt 39 = .ok (.aconst_null, 1) := by decide +kernel
theorem dX2_commandAt_40 : decode cX2_commandAt 40 = .ok (.areturn, 1) := by decide +kernel
theorem dX2_isWord_0 : decode cX2_isWord 0 = .ok (.aload_n 1, 1) := by decide +kernel
theorem dX2_isWord_1 : decode cX2_isWord 1 = .ok (.invokevirtual 72, 3) := by decide +kernel
theorem dX2_isWord_4 : decode cX2_isWord 4 = .ok (.iload_n 3, 1) := by decide +kernel
theorem dX2_isWord_5 : decode cX2_isWord 5 = .ok (.iload_n 2, 1) := by decide +kernel
theorem dX2_isWord_6 : decode cX2_isWord 6 = .ok (.isub, 1) := by decide +kernel
theorem dX2_isWord_7 : decode cX2_isWord 7 = .ok (.if_icmp .eq 5, 3) := by decide +kernel
theorem dX2_isWord_10 : decode cX2_isWord 10 = .ok (.iconst 0, 1) := by decide +kernel
theorem dX2_isWord_11 : decode cX2_isWord 11 = .ok (.ireturn, 1) := by decide +kernel
theorem dX2_isWord_12 : decode cX2_isWord 12 = .ok (.iconst 0, 1) := by decide +kernel
theorem dX2_isWord_13 : decode cX2_isWord 13 = .ok (.istore 4, 2) := by decide +kernel
theorem dX2_isWord_15 : decode cX2_isWord 15 = .ok (.iload 4, 2) := by decide +kernel
theorem dX2_isWord_17 : decode cX2_isWord 17 = .ok (.aload_n 1, 1) := by decide +kernel
theorem dX2_isWord_18 : decode cX2_isWord 18 = .ok (.invokevirtual 72, 3) := by decide +kernel
theorem dX2_isWord_21 : decode cX2_isWord 21 = .ok (.if_icmp .ge 29, 3) := by decide +kernel
theorem dX2_isWord_24 : decode cX2_isWord 24 = .ok (.aload_n 0, 1) := by decide +kernel
theorem dX2_isWord_25 : decode cX2_isWord 25 = .ok (.getfield 9, 3) := by decide +kernel
theorem dX2_isWord_28 : decode cX2_isWord 28 = .ok (.iload_n 2, 1) := by decide +kernel
theorem dX2_isWord_29 : decode cX2_isWord 29 = .ok (.iload 4, 2) := by decide +kernel
theorem dX2_isWord_31 : decode cX2_isWord 31 = .ok (.iadd, 1) := by decide +kernel
theorem dX2_isWord_32 : decode cX2_isWord 32 = .ok (.caload, 1) := by decide +kernel
theorem dX2_isWord_33 : decode cX2_isWord 33 = .ok (.aload_n 1, 1) := by decide +kernel
theorem dX2_isWord_34 : decode cX2_isWord 34 = .ok (.iload 4, 2) := by decide +kernel
theorem dX2_isWord_36 : decode cX2_isWord 36 = .ok (.invokevirtual 77, 3) := by decide +kernel
theorem dX2_isWord_39 : decode cX2_isWord 39 = .ok (.if_icmp .eq 5, 3) := by decide +kernel
theorem dX2_isWord_42 : decode cX2_isWord 42 = .ok (.iconst 0, 1) := by decide +kernel
theorem dX2_isWord_43 : decode cX2_isWord 43 = .ok (.ireturn, 1) := by decide +kernel
theorem dX2_isWord_44 : decode cX2_isWord 44 = .ok (.iinc 4 1, 3) := by decide +kernel
theorem dX2_isWord_47 : decode cX2_isWord 47 = .ok (.goto (-32), 3) := by decide +kernel
theorem dX2_isWord_50 : decode cX2_isWord 50 = .ok (.iconst 1, 1) := by decide +kernel
theorem dX2_isWord_51 : decode cX2_isWord 51 = .ok (.ireturn, 1) := by decide +kernel
theorem dX3_init_0 : decode cX3_init 0 = .ok (.aload_n 0, 1) := by decide +kernel
theorem dX3_init_1 : decode cX3_init 1 = .ok (.invokespecial 5, 3) := by decide +kernel
theorem dX3_init_4 : decode cX3_init 4 = .ok (.aload_n 0, 1) := by decide +kernel
theorem dX3_init_5 : decode cX3_init 5 = .ok (.new 11, 3) := by decide +kernel
theorem dX3_init_8 : decode cX3_init 8 = .ok (.dup, 1) := by decide +kernel
theorem dX3_init_9 : decode cX3_init 9 = .ok (.invokespecial 13, 3) := by decide +kernel
theorem dX3_init_12 : decode cX3_init 12 = .ok (.putfield 14, 3) := by decide +kernel
theorem dX3_init_15 : decode cX3_init 15 = .ok (.aload_n 0, 1) := by decide +kernel
theorem dX3_init_16 : decode cX3_init 16 = .ok (.sipush 256, 3) := by decide +kernel
theorem dX3_init_19 : decode cX3_init 19 = .ok (.newarray .int, 2) := by decide +kernel
theorem dX3_init_21 : decode cX3_init 21 = .ok (.putfield 18, 3) := by decide +kernel
theorem dX3_init_24 : decode cX3_init 24 = .ok (.aload_n 0, 1) := by decide +kernel
theorem dX3_init_25 : decode cX3_init 25 = .ok (.sipush 256, 3) := by decide +kernel
theorem dX3_init_28 : decode cX3_init 28 = .ok (.newarray .boolean, 2) := by decide +kernel
theorem dX3_init_30 : decode cX3_init 30 = .ok (.putfield 22, 3) := by decide +kernel
theorem dX3_init_33 : decode cX3_init 33 = .ok (.aload_n 0, 1) := by decide +kernel
theorem dX3_init_34 : decode cX3_init 34 = .ok (.sipush 256, 3) := by decide +kernel
theorem dX3_init_37 : decode cX3_init 37 = .ok (.newarray .long, 2) := by decide +kernel
theorem dX3_init_39 : decode cX3_init 39 = .ok (.putfield 26, 3) := by decide +kernel
theorem dX3_init_42 : decode cX3_init 42 = .ok (.aload_n 0, 1) := by decide +kernel
theorem dX3_init_43 : decode cX3_init 43 = .ok (.sipush 256, 3) := by decide +kernel
theorem dX3_init_46 : decode cX3_init 46 = .ok (.newarray .int, 2) := by decide +kernel
theorem dX3_init_48 : decode cX3_init 48 = .ok (.putfield 30, 3) := by decide +kernel
theorem dX3_init_51 : decode cX3_init 51 = .ok (.aload_n 0, 1) := by decide +kernel
theorem dX3_init_52 : decode cX3_init 52 = .ok (.sipush 256, 3) := by decide +kernel
theorem dX3_init_55 : decode cX3_init 55 = .ok (.newarray .int, 2) := by decide +kernel
theorem dX3_init_57 : decode cX3_init 57 = .ok (.putfield 33, 3) := by decide +kernel
theorem dX3_init_60 : decode cX3_init 60 = .ok (.aload_n 0, 1) := by decide +kernel
theorem dX3_init_61 : decode cX3_init 61 = .ok (.aload_n 1, 1) := by decide +kernel
theorem dX3_init_62 : decode cX3_init 62 = .ok (.putfield 36, 3) := by decide +kernel
theorem dX3_init_65 : decode cX3_init 65 = .ok (.return_, 1) := by decide +kernel
theorem dX3_findLeast_0 : decode cX3_findLeast 0 = .ok (.aload_n 0, 1) := by decide +kernel
theorem dX3_findLeast_1 : decode cX3_findLeast 1 = .ok (.invokevirtual 40, 3) := by decide +kernel
theorem dX3_findLeast_4 : decode cX3_findLeast 4 = .ok (.iconst 0, 1) := by decide +kernel
theorem dX3_findLeast_5 : decode cX3_findLeast 5 = .ok (.istore_n 1, 1) := by decide +kernel
theorem dX3_findLeast_6 : decode cX3_findLeast 6 = .ok (.iload_n 1, 1) := by decide +kernel
theorem dX3_findLeast_7 : decode cX3_findLeast 7 = .ok (.bipush 8, 2) := by decide +kernel
theorem dX3_findLeast_9 : decode cX3_findLeast 9 = .ok (.if_icmp .ge 30, 3) := by decide +kernel
theorem dX3_findLeast_12 : decode cX3_findLeast 12 = .ok (.aload_n 0, 1) := by decide +kernel
theorem dX3_findLeast_13 : decode cX3_findLeast 13 = .ok (.getfield 26, 3) := by decide +kernel
theorem dX3_findLeast_16 : decode cX3_findLeast 16 = .ok (.aload_n 0, 1) := by decide +kernel
theorem dX3_findLeast_17 : decode cX3_findLeast 17 = .ok (.getfield 43, 3) := by decide +kernel
theorem dX3_findLeast_20 : decode cX3_findLeast 20 = .ok (.laload, 1) := by decide +kernel
theorem dX3_findLeast_21 : decode cX3_findLeast 21 = .ok (.lconst 0, 1) := by decide +kernel
theorem dX3_findLeast_22 : decode cX3_findLeast 22 = .ok (.lcmp, 1) := by decide +kernel
theorem dX3_findLeast_23 : decode cX3_findLeast 23 = .ok (.ifCond .le 5, 3) := by decide +kernel
theorem dX3_findLeast_26 : decode cX3_findLeast 26 = .ok (.iload_n 1, 1) := by decide +kernel
theorem dX3_findLeast_27 : decode cX3_findLeast 27 = .ok (.ireturn, 1) := by decide +kernel
theorem dX3_findLeast_28 : decode cX3_findLeast 28 = .ok (.aload_n 0, 1) := by decide +kernel
theorem dX3_findLeast_29 : decode cX3_findLeast 29 = .ok (.iload_n 1, 1) := by decide +kernel
theorem dX3_findLeast_30 : decode cX3_findLeast 30 = .ok (.invokevirtual 47, 3) := by decide +kernel
theorem dX3_findLeast_33 : decode cX3_findLeast 33 = .ok (.iinc 1 1, 3) := by decide +kernel
theorem dX3_findLeast_36 : decode cX3_findLeast 36 = .ok (.goto (-30), 3) := by decide +kernel
theorem dX3_findLeast_39 : decode cX3_findLeast 39 = .ok (.aload_n 0, 1) := by decide +kernel
theorem dX3_findLeast_40 : decode cX3_findLeast 40 = .ok (.getfield 26, 3) := by decide +kernel
theorem dX3_findLeast_43 : decode cX3_findLeast 43 = .ok (.aload_n 0, 1) := by decide +kernel
theorem dX3_findLeast_44 : decode cX3_findLeast 44 = .ok (.getfield 43, 3) := by decide +kernel
theorem dX3_findLeast_47 : decode cX3_findLeast 47 = .ok (.laload, 1) := by decide +kernel
theorem dX3_findLeast_48 : decode cX3_findLeast 48 = .ok (.lconst 0, 1) := by decide +kernel
theorem dX3_findLeast_49 : decode cX3_findLeast 49 = .ok (.lcmp, 1) := by decide +kernel
theorem dX3_findLeast_50 : decode cX3_findLeast 50 = .ok (.ifCond .le 8, 3) := by decide +kernel
theorem dX3_findLeast_53 : decode cX3_findLeast 53 = .ok (.bipush 8, 2) := by decide +kernel
theorem dX3_findLeast_55 : decode cX3_findLeast 55 = .ok (.goto 4, 3) := by decide +kernel
theorem dX3_findLeast_58 : decode cX3_findLeast 58 = .ok (.iconst (-1), 1) := by decide +kernel
theorem dX3_findLeast_59 : decode cX3_findLeast 59 = .ok (.ireturn, 1) := by decide +kernel
theorem dX3_countLines_0 : decode cX3_countLines 0 = .ok (.aload_n 0, 1) := by decide +kernel
theorem dX3_countLines_1 : decode cX3_countLines 1 = .ok (.invokevirtual 40, 3) := by decide +kernel
theorem dX3_countLines_4 : decode cX3_countLines 4 = .ok (.iconst 0, 1) := by decide +kernel
theorem dX3_countLines_5 : decode cX3_countLines 5 = .ok (.istore_n 2, 1) := by decide +kernel
theorem dX3_countLines_6 : decode cX3_countLines 6 = .ok (.iload_n 2, 1) := by decide +kernel
theorem dX3_countLines_7 : decode cX3_countLines 7 = .ok (.iload_n 1, 1) := by decide +kernel
theorem dX3_countLines_8 : decode cX3_countLines 8 = .ok (.if_icmp .ge 20, 3) := by decide +kernel
theorem dX3_countLines_11 : decode cX3_countLines 11 = .ok (.iload_n 2, 1) := by decide +kernel
theorem dX3_countLines_12 : decode cX3_countLines 12 = .ok (.bipush 8, 2) := by decide +kernel
theorem dX3_countLines_14 : decode cX3_countLines 14 = .ok (.if_icmp .ge 14, 3) := by decide +kernel
theorem dX3_countLines_17 : decode cX3_countLines 17 = .ok (.aload_n 0, 1) := by decide +kernel
theorem dX3_countLines_18 : decode cX3_countLines 18 = .ok (.iload_n 2, 1) := by decide +kernel
theorem dX3_countLines_19 : decode cX3_countLines 19 = .ok (.invokevirtual 47, 3) := by decide +kernel
theorem dX3_countLines_22 : decode cX3_countLines 22 = .ok (.iinc 2 1, 3) := by decide +kernel
theorem dX3_countLines_25 : decode cX3_countLines 25 = .ok (.goto (-19), 3) := by decide +kernel
theorem dX3_countLines_28 : decode cX3_countLines 28 = .ok (.aload_n 0, 1) := by decide +kernel
theorem dX3_countLines_29 : decode cX3_countLines 29 = .ok (.getfield 26, 3) := by decide +kernel
theorem dX3_countLines_32 : decode cX3_countLines 32 = .ok (.aload_n 0, 1) := by decide +kernel
theorem dX3_countLines_33 : decode cX3_countLines 33 = .ok (.getfield 43, 3) := by decide +kernel
theorem dX3_countLines_36 : decode cX3_countLines 36 = .ok (.laload, 1) := by decide +kernel
theorem dX3_countLines_37 : decode cX3_countLines 37 = .ok (.lreturn, 1) := by decide +kernel
theorem dX3_stationOf_0 : decode cX3_stationOf 0 = .ok (.aload_n 0, 1) := by decide +kernel
theorem dX3_stationOf_1 : decode cX3_stationOf 1 = .ok (.getfield 30, 3) := by decide +kernel
theorem dX3_stationOf_4 : decode cX3_stationOf 4 = .ok (.aload_n 0, 1) := by decide +kernel
theorem dX3_stationOf_5 : decode cX3_stationOf 5 = .ok (.getfield 43, 3) := by decide +kernel
theorem dX3_stationOf_8 : decode cX3_stationOf 8 = .ok (.iaload, 1) := by decide +kernel
theorem dX3_stationOf_9 : decode cX3_stationOf 9 = .ok (.iload_n 1, 1) := by decide +kernel
theorem dX3_stationOf_10 : decode cX3_stationOf 10 = .ok (.invokestatic 51, 3) := by decide +kernel
theorem dX3_stationOf_13 : decode cX3_stationOf 13 = .ok (.ishr, 1) := by decide +kernel
theorem dX3_stationOf_14 : decode cX3_stationOf 14 = .ok (.bipush 7, 2) := by decide +kernel
theorem dX3_stationOf_16 : decode cX3_stationOf 16 = .ok (.iand, 1) := by decide +kernel
theorem dX3_stationOf_17 : decode cX3_stationOf 17 = .ok (.ireturn, 1) := by decide +kernel
theorem dX3_digitShift_0 : decode cX3_digitShift 0 = .ok (.iconst 3, 1) := by decide +kernel
theorem dX3_digitShift_1 : decode cX3_digitShift 1 = .ok (.bipush 7, 2) := by decide +kernel
theorem dX3_digitShift_3 : decode cX3_digitShift 3 = .ok (.iload_n 0, 1) := by decide +kernel
theorem dX3_digitShift_4 : decode cX3_digitShift 4 = .ok (.isub, 1) := by decide +kernel
theorem dX3_digitShift_5 : decode cX3_digitShift 5 = .ok (.imul, 1) := by decide +kernel
theorem dX3_digitShift_6 : decode cX3_digitShift 6 = .ok (.ireturn, 1) := by decide +kernel
theorem dX3_prepare_0 : decode cX3_prepare 0 = .ok (.aload_n 0, 1) := by decide +kernel
theorem dX3_prepare_1 : decode cX3_prepare 1 = .ok (.iconst 1, 1) := by decide +kernel
theorem dX3_prepare_2 : decode cX3_prepare 2 = .ok (.aload_n 0, 1) := by decide +kernel
theorem dX3_prepare_3 : decode cX3_prepare 3 = .ok (.getfield 36, 3) := by decide +kernel
theorem dX3_prepare_6 : decode cX3_prepare 6 = .ok (.getfield 55, 3) := by decide +kernel
theorem dX3_prepare_9 : decode cX3_prepare 9 = .ok (.bipush 8, 2) := by decide +kernel
theorem dX3_prepare_11 : decode cX3_prepare 11 = .ok (.invokestatic 60, 3) := by decide +kernel
theorem dX3_prepare_14 : decode cX3_prepare 14 = .ok (.ishl, 1) := by decide +kernel
theorem dX3_prepare_15 : decode cX3_prepare 15 = .ok (.iconst 1, 1) := by decide +kernel
theorem dX3_prepare_16 : decode cX3_prepare 16 = .ok (.isub, 1) := by decide +kernel
theorem dX3_prepare_17 : decode cX3_prepare 17 = .ok (.putfield 43, 3) := by decide +kernel
theorem dX3_prepare_20 : decode cX3_prepare 20 = .ok (.iconst 0, 1) := by decide +kernel
theorem dX3_prepare_21 : decode cX3_prepare 21 = .ok (.istore_n 1, 1) := by decide +kernel
theorem dX3_prepare_22 : decode cX3_prepare 22 = .ok (.iload_n 1, 1) := by decide +kernel
theorem dX3_prepare_23 : decode cX3_prepare 23 = .ok (.aload_n 0, 1) := by decide +kernel
theorem dX3_prepare_24 : decode cX3_prepare 24 = .ok (.getfield 43, 3) := by decide +kernel
theorem dX3_prepare_27 : decode cX3_prepare 27 = .ok (.if_icmp .gt 55, 3) := by decide +kernel
theorem dX3_prepare_30 : decode cX3_prepare 30 = .ok (.aload_n 0, 1) := by decide +kernel
theorem dX3_prepare_31 : decode cX3_prepare 31 = .ok (.getfield 18, 3) := by decide +kernel
theorem dX3_prepare_34 : decode cX3_prepare 34 = .ok (.iload_n 1, 1) := by decide +kernel
theorem dX3_prepare_35 : decode cX3_prepare 35 = .ok (.aload_n 0, 1) := by decide +kernel
theorem dX3_prepare_36 : decode cX3_prepare 36 = .ok (.iload_n 1, 1) := by decide +kernel
theorem dX3_prepare_37 : decode cX3_prepare 37 = .ok (.invokevirtual 66, 3) := by decide +kernel
theorem dX3_prepare_40 : decode cX3_prepare 40 = .ok (.iastore, 1) := by decide +kernel
theorem dX3_prepare_41 : decode cX3_prepare 41 = .ok (.aload_n 0, 1) := by decide +kernel
theorem dX3_prepare_42 : decode cX3_prepare 42 = .ok (.getfield 22, 3) := by decide +kernel
theorem dX3_prepare_45 : decode cX3_prepare 45 = .ok (.iload_n 1, 1) := by decide +kernel
theorem dX3_prepare_46 : decode cX3_prepare 46 = .ok (.aload_n 0, 1) := by decide +kernel
theorem dX3_prepare_47 : decode cX3_prepare 47 = .ok (.iload_n 1, 1) := by decide +kernel
theorem dX3_prepare_48 : decode cX3_prepare 48 = .ok (.invokevirtual 69, 3) := by decide +kernel
theorem dX3_prepare_51 : decode cX3_prepare 51 = .ok (.bastore, 1) := by decide +kernel
theorem dX3_prepare_52 : decode cX3_prepare 52 = .ok (.aload_n 0, 1) := by decide +kernel
theorem dX3_prepare_53 : decode cX3_prepare 53 = .ok (.getfield 33, 3) := by decide +kernel
theorem dX3_prepare_56 : decode cX3_prepare 56 = .ok (.iload_n 1, 1) := by decide +kernel
theorem dX3_prepare_57 : decode cX3_prepare 57 = .ok (.iload_n 1, 1) := by decide +kernel
theorem dX3_prepare_58 : decode cX3_prepare 58 = .ok (.invokestatic 73, 3) := by decide +kernel
theorem dX3_prepare_61 : decode cX3_prepare 61 = .ok (.iastore, 1) := by decide +kernel
theorem dX3_prepare_62 : decode cX3_prepare 62 = .ok (.aload_n 0, 1) := by decide +kernel
theorem dX3_prepare_63 : decode cX3_prepare 63 = .ok (.getfield 26, 3) := by decide +kernel
theorem dX3_prepare_66 : decode cX3_prepare 66 = .ok (.iload_n 1, 1) := by decide +kernel
theorem dX3_prepare_67 : decode cX3_prepare 67 = .ok (.lconst 0, 1) := by decide +kernel
theorem dX3_prepare_68 : decode cX3_prepare 68 = .ok (.lastore, 1) := by decide +kernel
theorem dX3_prepare_69 : decode cX3_prepare 69 = .ok (.aload_n 0, 1) := by decide +kernel
theorem dX3_prepare_70 : decode cX3_prepare 70 = .ok (.getfield 30, 3) := by decide +kernel
theorem dX3_prepare_73 : decode cX3_prepare 73 = .ok (.iload_n 1, 1) := by decide +kernel
theorem dX3_prepare_74 : decode cX3_prepare 74 = .ok (.iconst (-1), 1) := by decide +kernel
theorem dX3_prepare_75 : decode cX3_prepare 75 = .ok (.iastore, 1) := by decide +kernel
theorem dX3_prepare_76 : decode cX3_prepare 76 = .ok (.iinc 1 1, 3) := by decide +kernel
theorem dX3_prepare_79 : decode cX3_prepare 79 = .ok (.goto (-57), 3) := by decide +kernel
theorem dX3_prepare_82 : decode cX3_prepare 82 = .ok (.aload_n 0, 1) := by decide +kernel
theorem dX3_prepare_83 : decode cX3_prepare 83 = .ok (.getfield 26, 3) := by decide +kernel
theorem dX3_prepare_86 : decode cX3_prepare 86 = .ok (.iconst 0, 1) := by decide +kernel
theorem dX3_prepare_87 : decode cX3_prepare 87 = .ok (.lconst 1, 1) := by decide +kernel
theorem dX3_prepare_88 : decode cX3_prepare 88 = .ok (.lastore, 1) := by decide +kernel
theorem dX3_prepare_89 : decode cX3_prepare 89 = .ok (.aload_n 0, 1) := by decide +kernel
theorem dX3_prepare_90 : decode cX3_prepare 90 = .ok (.getfield 30, 3) := by decide +kernel
theorem dX3_prepare_93 : decode cX3_prepare 93 = .ok (.iconst 0, 1) := by decide +kernel
theorem dX3_prepare_94 : decode cX3_prepare 94 = .ok (.iconst 0, 1) := by decide +kernel
theorem dX3_prepare_95 : decode cX3_prepare 95 = .ok (.iastore, 1) := by decide +kernel
theorem dX3_prepare_96 : decode cX3_prepare 96 = .ok (.return_, 1) := by decide +kernel
theorem dX3_copiesNeeded_0 : decode cX3_copiesNeeded 0 = .ok (.aload_n 0, 1) := by decide +kernel
theorem dX3_copiesNeeded_1 : decode cX3_copiesNeeded 1 = .ok (.iload_n 1, 1) := by decide +kernel
theorem dX3_copiesNeeded_2 : decode cX3_copiesNeeded 2 = .ok (.invokevirtual 76, 3) := by decide +kernel
theorem dX3_copiesNeeded_5 : decode cX3_copiesNeeded 5 = .ok (.ifCond .eq 5, 3) := by decide +kernel
theorem dX3_copiesNeeded_8 : decode cX3_copiesNeeded 8 = .ok (.iconst 4, 1) := by decide +kernel
theorem dX3_copiesNeeded_9 : decode cX3_copiesNeeded 9 = .ok (.ireturn, 1) := by decide +kernel
theorem dX3_copiesNeeded_10 : decode cX3_copiesNeeded 10 = .ok (.aload_n 0, 1) := by decide +kernel
theorem dX3_copiesNeeded_11 : decode cX3_copiesNeeded 11 = .ok (.getfield 14, 3) := by decide +kernel
theorem dX3_copiesNeeded_14 : decode cX3_copiesNeeded 14 = .ok (.aload_n 0, 1) := by decide +kernel
theorem dX3_copiesNeeded_15 : decode cX3_copiesNeeded 15 = .ok (.getfield 36, 3) := by decide +kernel
theorem dX3_copiesNeeded_18 : decode cX3_copiesNeeded 18 = .ok (.iload_n 1, 1) := by decide +kernel
theorem dX3_copiesNeeded_19 : decode cX3_copiesNeeded 19 = .ok (.invokevirtual 79, 3) := by decide +kernel
theorem dX3_copiesNeeded_22 : decode cX3_copiesNeeded 22 = .ok (.aload_n 0, 1) := by decide +kernel
theorem dX3_copiesNeeded_23 : decode cX3_copiesNeeded 23 = .ok (.getfield 14, 3) := by decide +kernel
theorem dX3_copiesNeeded_26 : decode cX3_copiesNeeded 26 = .ok (.aload_n 0, 1) := by decide +kernel
theorem dX3_copiesNeeded_27 : decode cX3_copiesNeeded 27 = .ok (.getfield 36, 3) := by decide +kernel
theorem dX3_copiesNeeded_30 : decode cX3_copiesNeeded 30 = .ok (.invokevirtual 83, 3) := by decide +kernel
theorem dX3_copiesNeeded_33 : decode cX3_copiesNeeded 33 = .ok (.ifCond .ne 5, 3) := by decide +kernel
theorem dX3_copiesNeeded_36 : decode cX3_copiesNeeded 36 = .ok (.iconst 4, 1) := by decide +kernel
theorem dX3_copiesNeeded_37 : decode cX3_copiesNeeded 37 = .ok (.ireturn, 1) := by decide +kernel
theorem dX3_copiesNeeded_38 : decode cX3_copiesNeeded 38 = .ok (.iconst 1, 1) := by decide +kernel
theorem dX3_copiesNeeded_39 : decode cX3_copiesNeeded 39 = .ok (.istore_n 2, 1) := by decide +kernel
theorem dX3_copiesNeeded_40 : decode cX3_copiesNeeded 40 = .ok (.iload_n 2, 1) := by decide +kernel
theorem dX3_copiesNeeded_41 : decode cX3_copiesNeeded 41 = .ok (.iconst 4, 1) := by decide +kernel
theorem dX3_copiesNeeded_42 : decode cX3_copiesNeeded 42 = .ok (.if_icmp .ge 24, 3) := by decide +kernel
theorem dX3_copiesNeeded_45 : decode cX3_copiesNeeded 45 = .ok (.aload_n 0, 1) := by decide +kernel
theorem dX3_copiesNeeded_46 : decode cX3_copiesNeeded 46 = .ok (.getfield 14, 3) := by decide +kernel
theorem dX3_copiesNeeded_49 : decode cX3_copiesNeeded 49 = .ok (.aload_n 0, 1) := by decide +kernel
theorem dX3_copiesNeeded_50 : decode cX3_copiesNeeded 50 = .ok (.getfield 36, 3) := by decide +kernel
theorem dX3_copiesNeeded_53 : decode cX3_copiesNeeded 53 = .ok (.iload_n 2, 1) := by decide +kernel
theorem dX3_copiesNeeded_54 : decode cX3_copiesNeeded 54 = .ok (.invokevirtual 87, 3) := by decide +kernel
theorem dX3_copiesNeeded_57 : decode cX3_copiesNeeded 57 = .ok (.ifCond .ne 9, 3) := by decide +kernel
theorem dX3_copiesNeeded_60 : decode cX3_copiesNeeded 60 = .ok (.iinc 2 1, 3) := by decide +kernel
theorem dX3_copiesNeeded_63 : decode cX3_copiesNeeded 63 = .ok (.goto (-23), 3) := by decide +kernel
theorem dX3_copiesNeeded_66 : decode cX3_copiesNeeded 66 = .ok (.iload_n 2, 1) := by decide +kernel
theorem dX3_copiesNeeded_67 : decode cX3_copiesNeeded 67 = .ok (.ireturn, 1) := by decide +kernel
theorem dX3_isSplit_0 : decode cX3_isSplit 0 = .ok (.iconst 0, 1) := by decide +kernel
theorem dX3_isSplit_1 : decode cX3_isSplit 1 = .ok (.istore_n 2, 1) := by decide +kernel
theorem dX3_isSplit_2 : decode cX3_isSplit 2 = .ok (.iload_n 2, 1) := by decide +kernel
theorem dX3_isSplit_3 : decode cX3_isSplit 3 = .ok (.bipush 8, 2) := by decide +kernel
theorem dX3_isSplit_5 : decode cX3_isSplit 5 = .ok (.if_icmp .ge 49, 3) := by decide +kernel
theorem dX3_isSplit_8 : decode cX3_isSplit 8 = .ok (.iload_n 1, 1) := by decide +kernel
theorem dX3_isSplit_9 : decode cX3_isSplit 9 = .ok (.iload_n 2, 1) := by decide +kernel
theorem dX3_isSplit_10 : decode cX3_isSplit 10 = .ok (.invokestatic 91, 3) := by decide +kernel
theorem dX3_isSplit_13 : decode cX3_isSplit 13 = .ok (.ifCond .eq 35, 3) := by decide +kernel
theorem dX3_isSplit_16 : decode cX3_isSplit 16 = .ok (.aload_n 0, 1) := by decide +kernel
theorem dX3_isSplit_17 : decode cX3_isSplit 17 = .ok (.getfield 36, 3) := by decide +kernel
theorem dX3_isSplit_20 : decode cX3_isSplit 20 = .ok (.getfield 95, 3) := by decide +kernel
theorem dX3_isSplit_23 : decode cX3_isSplit 23 = .ok (.iload_n 2, 1) := by decide +kernel
theorem dX3_isSplit_24 : decode cX3_isSplit 24 = .ok (.iaload, 1) := by decide +kernel
theorem dX3_isSplit_25 : decode cX3_isSplit 25 = .ok (.iload_n 1, 1) := by decide +kernel
theorem dX3_isSplit_26 : decode cX3_isSplit 26 = .ok (.iand, 1) := by decide +kernel
theorem dX3_isSplit_27 : decode cX3_isSplit 27 = .ok (.ifCond .ne 19, 3) := by decide +kernel
theorem dX3_isSplit_30 : decode cX3_isSplit 30 = .ok (.aload_n 0, 1) := by decide +kernel
theorem dX3_isSplit_31 : decode cX3_isSplit 31 = .ok (.getfield 36, 3) := by decide +kernel
theorem dX3_isSplit_34 : decode cX3_isSplit 34 = .ok (.getfield 98, 3) := by decide +kernel
theorem dX3_isSplit_37 : decode cX3_isSplit 37 = .ok (.iload_n 2, 1) := by decide +kernel
theorem dX3_isSplit_38 : decode cX3_isSplit 38 = .ok (.iaload, 1) := by decide +kernel
theorem dX3_isSplit_39 : decode cX3_isSplit 39 = .ok (.iload_n 1, 1) := by decide +kernel
theorem dX3_isSplit_40 : decode cX3_isSplit 40 = .ok (.iconst (-1), 1) := by decide +kernel
theorem dX3_isSplit_41 : decode cX3_isSplit 41 = .ok (.ixor, 1) := by decide +kernel
theorem dX3_isSplit_42 : decode cX3_isSplit 42 = .ok (.iand, 1) := by decide +kernel
theorem dX3_isSplit_43 : decode cX3_isSplit 43 = .ok (.ifCond .eq 5, 3) := by decide +kernel
theorem dX3_isSplit_46 : decode cX3_isSplit 46 = .ok (.iconst 1, 1) := by decide +kernel
theorem dX3_isSplit_47 : decode cX3_isSplit 47 = .ok (.ireturn, 1) := by decide +kernel
theorem dX3_isSplit_48 : decode cX3_isSplit 48 = .ok (.iinc 2 1, 3) := by decide +kernel
theorem dX3_isSplit_51 : decode cX3_isSplit 51 = .ok (.goto (-49), 3) := by decide +kernel
theorem dX3_isSplit_54 : decode cX3_isSplit 54 = .ok (.iconst 0, 1) := by decide +kernel
theorem dX3_isSplit_55 : decode cX3_isSplit 55 = .ok (.ireturn, 1) := by decide +kernel
theorem dX3_hasAllAhead_0 : decode cX3_hasAllAhead 0 = .ok (.iconst 0, 1) := by decide +kernel
theorem dX3_hasAllAhead_1 : decode cX3_hasAllAhead 1 = .ok (.istore_n 2, 1) := by decide +kernel
theorem dX3_hasAllAhead_2 : decode cX3_hasAllAhead 2 = .ok (.iload_n 2, 1) := by decide +kernel
theorem dX3_hasAllAhead_3 : decode cX3_hasAllAhead 3 = .ok (.bipush 8, 2) := by decide +kernel
theorem dX3_hasAllAhead_5 : decode cX3_hasAllAhead 5 = .ok (.if_icmp .ge 35, 3) := by decide +kernel
theorem dX3_hasAllAhead_8 : decode cX3_hasAllAhead 8 = .ok (.iload_n 1, 1) := by decide +kernel
theorem dX3_hasAllAhead_9 : decode cX3_hasAllAhead 9 = .ok (.iload_n 2, 1) := by decide +kernel
theorem dX3_hasAllAhead_10 : decode cX3_hasAllAhead 10 = .ok (.invokestatic 91, 3) := by decide +kernel
theorem dX3_hasAllAhead_13 : decode cX3_hasAllAhead 13 = .ok (.ifCond .eq 21, 3) := by decide +kernel
theorem dX3_hasAllAhead_16 : decode cX3_hasAllAhead 16 = .ok (.aload_n 0, 1) := by decide +kernel
theorem dX3_hasAllAhead_17 : decode cX3_hasAllAhead 17 = .ok (.getfield 36, 3) := by decide +kernel
theorem dX3_hasAllAhead_20 : decode cX3_hasAllAhead 20 = .ok (.getfield 101, 3) := by decide +kernel
theorem dX3_hasAllAhead_23 : decode cX3_hasAllAhead 23 = .ok (.iload_n 2, 1) := by decide +kernel
theorem dX3_hasAllAhead_24 : decode cX3_hasAllAhead 24 = .ok (.iaload, 1) := by decide +kernel
theorem dX3_hasAllAhead_25 : decode cX3_hasAllAhead 25 = .ok (.iload_n 1, 1) := by decide +kernel
theorem dX3_hasAllAhead_26 : decode cX3_hasAllAhead 26 = .ok (.iconst (-1), 1) := by decide +kernel
theorem dX3_hasAllAhead_27 : decode cX3_hasAllAhead 27 = .ok (.ixor, 1) := by decide +kernel
theorem dX3_hasAllAhead_28 : decode cX3_hasAllAhead 28 = .ok (.iand, 1) := by decide +kernel
theorem dX3_hasAllAhead_29 : decode cX3_hasAllAhead 29 = .ok (.ifCond .eq 5, 3) := by decide +kernel
theorem dX3_hasAllAhead_32 : decode cX3_hasAllAhead 32 = .ok (.iconst 0, 1) := by decide +kernel
theorem dX3_hasAllAhead_33 : decode cX3_hasAllAhead 33 = .ok (.ireturn, 1) := by decide +kernel
theorem dX3_hasAllAhead_34 : decode cX3_hasAllAhead 34 = .ok (.iinc 2 1, 3) := by decide +kernel
theorem dX3_hasAllAhead_37 : decode cX3_hasAllAhead 37 = .ok (.goto (-35), 3) := by decide +kernel
theorem dX3_hasAllAhead_40 : decode cX3_hasAllAhead 40 = .ok (.iconst 1, 1) := by decide +kernel
theorem dX3_hasAllAhead_41 : decode cX3_hasAllAhead 41 = .ok (.ireturn, 1) := by decide +kernel
theorem dX3_digitsOf_0 : decode cX3_digitsOf 0 = .ok (.iconst 0, 1) := by decide +kernel
theorem dX3_digitsOf_1 : decode cX3_digitsOf 1 = .ok (.istore_n 1, 1) := by decide +kernel
theorem dX3_digitsOf_2 : decode cX3_digitsOf 2 = .ok (.iconst 0, 1) := by decide +kernel
theorem dX3_digitsOf_3 : decode cX3_digitsOf 3 = .ok (.istore_n 2, 1) := by decide +kernel
theorem dX3_digitsOf_4 : decode cX3_digitsOf 4 = .ok (.iload_n 2, 1) := by decide +kernel
theorem dX3_digitsOf_5 : decode cX3_digitsOf 5 = .ok (.bipush 8, 2) := by decide +kernel
theorem dX3_digitsOf_7 : decode cX3_digitsOf 7 = .ok (.if_icmp .ge 30, 3) := by decide +kernel
theorem dX3_digitsOf_10 : decode cX3_digitsOf 10 = .ok (.iload_n 1, 1) := by decide +kernel
theorem dX3_digitsOf_11 : decode cX3_digitsOf 11 = .ok (.iload_n 0, 1) := by decide +kernel
theorem dX3_digitsOf_12 : decode cX3_digitsOf 12 = .ok (.iload_n 2, 1) := by decide +kernel
theorem dX3_digitsOf_13 : decode cX3_digitsOf 13 = .ok (.invokestatic 91, 3) := by decide +kernel
theorem dX3_digitsOf_16 : decode cX3_digitsOf 16 = .ok (.ifCond .eq 12, 3) := by decide +kernel
theorem dX3_digitsOf_19 : decode cX3_digitsOf 19 = .ok (.iconst 1, 1) := by decide +kernel
theorem dX3_digitsOf_20 : decode cX3_digitsOf 20 = .ok (.iload_n 2, 1) := by decide +kernel
theorem dX3_digitsOf_21 : decode cX3_digitsOf 21 = .ok (.invokestatic 51, 3) := by decide +kernel
theorem dX3_digitsOf_24 : decode cX3_digitsOf 24 = .ok (.ishl, 1) := by decide +kernel
theorem dX3_digitsOf_25 : decode cX3_digitsOf 25 = .ok (.goto 4, 3) := by decide +kernel
theorem dX3_digitsOf_28 : decode cX3_digitsOf 28 = .ok (.iconst 0, 1) := by decide +kernel
theorem dX3_digitsOf_29 : decode cX3_digitsOf 29 = .ok (.iadd, 1) := by decide +kernel
theorem dX3_digitsOf_30 : decode cX3_digitsOf 30 = .ok (.istore_n 1, 1) := by decide +kernel
theorem dX3_digitsOf_31 : decode cX3_digitsOf 31 = .ok (.iinc 2 1, 3) := by decide +kernel
theorem dX3_digitsOf_34 : decode cX3_digitsOf 34 = .ok (.goto (-30), 3) := by decide +kernel
theorem dX3_digitsOf_37 : decode cX3_digitsOf 37 = .ok (.iload_n 1, 1) := by decide +kernel
theorem dX3_digitsOf_38 : decode cX3_digitsOf 38 = .ok (.ireturn, 1) := by decide +kernel
theorem dX3_addStation_0 : decode cX3_addStation 0 = .ok (.aload_n 0, 1) := by decide +kernel
theorem dX3_addStation_1 : decode cX3_addStation 1 = .ok (.getfield 43, 3) := by decide +kernel
theorem dX3_addStation_4 : decode cX3_addStation 4 = .ok (.istore_n 2, 1) := by decide +kernel
theorem dX3_addStation_5 : decode cX3_addStation 5 = .ok (.iload_n 2, 1) := by decide +kernel
theorem dX3_addStation_6 : decode cX3_addStation 6 = .ok (.ifCond .le 24, 3) := by decide +kernel
theorem dX3_addStation_9 : decode cX3_addStation 9 = .ok (.aload_n 0, 1) := by decide +kernel
theorem dX3_addStation_10 : decode cX3_addStation 10 = .ok (.getfield 22, 3) := by decide +kernel
theorem dX3_addStation_13 : decode cX3_addStation 13 = .ok (.iload_n 2, 1) := by decide +kernel
theorem dX3_addStation_14 : decode cX3_addStation 14 = .ok (.baload, 1) := by decide +kernel
theorem dX3_addStation_15 : decode cX3_addStation 15 = .ok (.ifCond .eq 9, 3) := by decide +kernel
theorem dX3_addStation_18 : decode cX3_addStation 18 = .ok (.aload_n 0, 1) := by decide +kernel
theorem dX3_addStation_19 : decode cX3_addStation 19 = .ok (.iload_n 2, 1) := by decide +kernel
theorem dX3_addStation_20 : decode cX3_addStation 20 = .ok (.iload_n 1, 1) := by decide +kernel
theorem dX3_addStation_21 : decode cX3_addStation 21 = .ok (.invokevirtual 104, 3) := by decide +kernel
theorem dX3_addStation_24 : decode cX3_addStation 24 = .ok (.iinc 2 (-1), 3) := by decide +kernel
theorem dX3_addStation_27 : decode cX3_addStation 27 = .ok (.goto (-22), 3) := by decide +kernel
theorem dX3_addStation_30 : decode cX3_addStation 30 = .ok (.return_, 1) := by decide +kernel
theorem dX3_extend_0 : decode cX3_extend 0 = .ok (.aload_n 0, 1) := by decide +kernel
theorem dX3_extend_1 : decode cX3_extend 1 = .ok (.getfield 36, 3) := by decide +kernel
theorem dX3_extend_4 : decode cX3_extend 4 = .ok (.getfield 108, 3) := by decide +kernel
theorem dX3_extend_7 : decode cX3_extend 7 = .ok (.iload_n 2, 1) := by decide +kernel
theorem dX3_extend_8 : decode cX3_extend 8 = .ok (.iaload, 1) := by decide +kernel
theorem dX3_extend_9 : decode cX3_extend 9 = .ok (.istore_n 3, 1) := by decide +kernel
theorem dX3_extend_10 : decode cX3_extend 10 = .ok (.iload_n 1, 1) := by decide +kernel
theorem dX3_extend_11 : decode cX3_extend 11 = .ok (.istore 4, 2) := by decide +kernel
theorem dX3_extend_13 : decode cX3_extend 13 = .ok (.iconst 1, 1) := by decide +kernel
theorem dX3_extend_14 : decode cX3_extend 14 = .ok (.iload_n 1, 1) := by decide +kernel
theorem dX3_extend_15 : decode cX3_extend 15 = .ok (.invokestatic 111, 3) := by decide +kernel
theorem dX3_extend_18 : decode cX3_extend 18 = .ok (.ishl, 1) := by decide +kernel
theorem dX3_extend_19 : decode cX3_extend 19 = .ok (.istore 5, 2) := by decide +kernel
theorem dX3_extend_21 : decode cX3_extend 21 = .ok (.iload 5, 2) := by decide +kernel
theorem dX3_extend_23 : decode cX3_extend 23 = .ok (.iconst 1, 1) := by decide +kernel
theorem dX3_extend_24 : decode cX3_extend 24 = .ok (.if_icmp .le 114, 3) := by decide +kernel
theorem dX3_extend_27 : decode cX3_extend 27 = .ok (.iload_n 1, 1) := by decide +kernel
theorem dX3_extend_28 : decode cX3_extend 28 = .ok (.iload 4, 2) := by decide +kernel
theorem dX3_extend_30 : decode cX3_extend 30 = .ok (.iconst (-1), 1) := by decide +kernel
theorem dX3_extend_31 : decode cX3_extend 31 = .ok (.ixor, 1) := by decide +kernel
theorem dX3_extend_32 : decode cX3_extend 32 = .ok (.iand, 1) := by decide +kernel
theorem dX3_extend_33 : decode cX3_extend 33 = .ok (.istore 6, 2) := by decide +kernel
theorem dX3_extend_35 : decode cX3_extend 35 = .ok (.aload_n 0, 1) := by decide +kernel
theorem dX3_extend_36 : decode cX3_extend 36 = .ok (.getfield 18, 3) := by decide +kernel
theorem dX3_extend_39 : decode cX3_extend 39 = .ok (.iload 4, 2) := by decide +kernel
theorem dX3_extend_41 : decode cX3_extend 41 = .ok (.iaload, 1) := by decide +kernel
theorem dX3_extend_42 : decode cX3_extend 42 = .ok (.iload_n 3, 1) := by decide +kernel
theorem dX3_extend_43 : decode cX3_extend 43 = .ok (.if_icmp .gt 81, 3) := by decide +kernel
theorem dX3_extend_46 : decode cX3_extend 46 = .ok (.aload_n 0, 1) := by decide +kernel
theorem dX3_extend_47 : decode cX3_extend 47 = .ok (.getfield 26, 3) := by decide +kernel
theorem dX3_extend_50 : decode cX3_extend 50 = .ok (.iload 6, 2) := by decide +kernel
theorem dX3_extend_52 : decode cX3_extend 52 = .ok (.laload, 1) := by decide +kernel
theorem dX3_extend_53 : decode cX3_extend 53 = .ok (.lconst 0, 1) := by decide +kernel
theorem dX3_extend_54 : decode cX3_extend 54 = .ok (.lcmp, 1) := by decide +kernel
theorem dX3_extend_55 : decode cX3_extend 55 = .ok (.ifCond .le 69, 3) := by decide +kernel
theorem dX3_extend_58 : decode cX3_extend 58 = .ok (.aload_n 0, 1) := by decide +kernel
theorem dX3_extend_59 : decode cX3_extend 59 = .ok (.getfield 26, 3) := by decide +kernel
theorem dX3_extend_62 : decode cX3_extend 62 = .ok (.iload_n 1, 1) := by decide +kernel
theorem dX3_extend_63 : decode cX3_extend 63 = .ok (.dup2, 1) := by decide +kernel
theorem dX3_extend_64 : decode cX3_extend 64 = .ok (.laload, 1) := by decide +kernel
theorem dX3_extend_65 : decode cX3_extend 65 = .ok (.aload_n 0, 1) := by decide +kernel
theorem dX3_extend_66 : decode cX3_extend 66 = .ok (.getfield 26, 3) := by decide +kernel
theorem dX3_extend_69 : decode cX3_extend 69 = .ok (.iload 6, 2) := by decide +kernel
theorem dX3_extend_71 : decode cX3_extend 71 = .ok (.laload, 1) := by decide +kernel
theorem dX3_extend_72 : decode cX3_extend 72 = .ok (.ladd, 1) := by decide +kernel
theorem dX3_extend_73 : decode cX3_extend 73 = .ok (.lastore, 1) := by decide +kernel
theorem dX3_extend_74 : decode cX3_extend 74 = .ok (.aload_n 0, 1) := by decide +kernel
theorem dX3_extend_75 : decode cX3_extend 75 = .ok (.getfield 30, 3) := by decide +kernel
theorem dX3_extend_78 : decode cX3_extend 78 = .ok (.iload 6, 2) := by decide +kernel
theorem dX3_extend_80 : decode cX3_extend 80 = .ok (.iaload, 1) := by decide +kernel
theorem dX3_extend_81 : decode cX3_extend 81 = .ok (.iload_n 2, 1) := by decide +kernel
theorem dX3_extend_82 : decode cX3_extend 82 = .ok (.aload_n 0, 1) := by decide +kernel
theorem dX3_extend_83 : decode cX3_extend 83 = .ok (.getfield 33, 3) := by decide +kernel
theorem dX3_extend_86 : decode cX3_extend 86 = .ok (.iload 4, 2) := by decide +kernel
theorem dX3_extend_88 : decode cX3_extend 88 = .ok (.iaload, 1) := by decide +kernel
theorem dX3_extend_89 : decode cX3_extend 89 = .ok (.imul, 1) := by decide +kernel
theorem dX3_extend_90 : decode cX3_extend 90 = .ok (.iadd, 1) := by decide +kernel
theorem dX3_extend_91 : decode cX3_extend 91 = .ok (.istore 7, 2) := by decide +kernel
theorem dX3_extend_93 : decode cX3_extend 93 = .ok (.aload_n 0, 1) := by decide +kernel
theorem dX3_extend_94 : decode cX3_extend 94 = .ok (.getfield 30, 3) := by decide +kernel
theorem dX3_extend_97 : decode cX3_extend 97 = .ok (.iload_n 1, 1) := by decide +kernel
theorem dX3_extend_98 : decode cX3_extend 98 = .ok (.aload_n 0, 1) := by decide +kernel
theorem dX3_extend_99 : decode cX3_extend 99 = .ok (.getfield 30, 3) := by decide +kernel
theorem dX3_extend_102 : decode cX3_extend 102 = .ok (.iload_n 1, 1) := by decide +kernel
theorem dX3_extend_103 : decode cX3_extend 103 = .ok (.iaload, 1) := by decide +kernel
theorem dX3_extend_104 : decode cX3_extend 104 = .ok (.ifCond .ge 8, 3) := by decide +kernel
theorem dX3_extend_107 : decode cX3_extend 107 = .ok (.iload 7, 2) := by decide +kernel
theorem dX3_extend_109 : decode cX3_extend 109 = .ok (.goto 14, 3) := by decide +kernel
theorem dX3_extend_112 : decode cX3_extend 112 = .ok (.aload_n 0, 1) := by decide +kernel
theorem dX3_extend_113 : decode cX3_extend 113 = .ok (.getfield 30, 3) := by decide +kernel
theorem dX3_extend_116 : decode cX3_extend 116 = .ok (.iload_n 1, 1) := by decide +kernel
theorem dX3_extend_117 : decode cX3_extend 117 = .ok (.iaload, 1) := by decide +kernel
theorem dX3_extend_118 : decode cX3_extend 118 = .ok (.iload 7, 2) := by decide +kernel
theorem dX3_extend_120 : decode cX3_extend 120 = .ok (.invokestatic 60, 3) := by decide +kernel
theorem dX3_extend_123 : decode cX3_extend 123 = .ok (.iastore, 1) := by decide +kernel
theorem dX3_extend_124 : decode cX3_extend 124 = .ok (.iload 4, 2) := by decide +kernel
theorem dX3_extend_126 : decode cX3_extend 126 = .ok (.iconst 1, 1) := by decide +kernel
theorem dX3_extend_127 : decode cX3_extend 127 = .ok (.isub, 1) := by decide +kernel
theorem dX3_extend_128 : decode cX3_extend 128 = .ok (.iload_n 1, 1) := by decide +kernel
theorem dX3_extend_129 : decode cX3_extend 129 = .ok (.iand, 1) := by decide +kernel
theorem dX3_extend_130 : decode cX3_extend 130 = .ok (.istore 4, 2) := by decide +kernel
theorem dX3_extend_132 : decode cX3_extend 132 = .ok (.iinc 5 (-1), 3) := by decide +kernel
theorem dX3_extend_135 : decode cX3_extend 135 = .ok (.goto (-114), 3) := by decide +kernel
theorem dX3_extend_138 : decode cX3_extend 138 = .ok (.return_, 1) := by decide +kernel
theorem dJ0_length_8abf5_0 : decode cJ0_length_8abf5 0 = .ok (.aload_n 0, 1) := by decide +kernel
theorem dJ0_length_8abf5_1 : decode cJ0_length_8abf5 1 = .ok (.getfield 9, 3) := by decide +kernel
theorem dJ0_length_8abf5_4 : decode cJ0_length_8abf5 4 = .ok (.arraylength, 1) := by decide +kernel
theorem dJ0_length_8abf5_5 : decode cJ0_length_8abf5 5 = .ok (.aload_n 0, 1) := by decide +kernel
theorem dJ0_length_8abf5_6 : decode cJ0_length_8abf5 6 = .ok (.invokevirtual 335, 3) := by decide +kernel
theorem dJ0_length_8abf5_9 : decode cJ0_length_8abf5 9 = .ok (.ishr, 1) := by decide +kernel
theorem dJ0_length_8abf5_10 : decode cJ0_length_8abf5 10 = .ok (.ireturn, 1) := by decide +kernel
theorem dJ0_charAt_5068e_0 : decode cJ0_charAt_5068e 0 = .ok (.aload_n 0, 1) := by decide +kernel
theorem dJ0_charAt_5068e_1 : decode cJ0_charAt_5068e 1 = .ok (.invokevirtual 492, 3) := by decide +kernel
theorem dJ0_charAt_5068e_4 : decode cJ0_charAt_5068e 4 = .ok (.ifCond .eq 12, 3) := by decide +kernel
theorem dJ0_charAt_5068e_7 : decode cJ0_charAt_5068e 7 = .ok (.aload_n 0, 1) := by decide +kernel
theorem dJ0_charAt_5068e_8 : decode cJ0_charAt_5068e 8 = .ok (.getfield 9, 3) := by decide +kernel
theorem dJ0_charAt_5068e_11 : decode cJ0_charAt_5068e 11 = .ok (.iload_n 1, 1) := by decide +kernel
theorem dJ0_charAt_5068e_12 : decode cJ0_charAt_5068e 12 = .ok (.invokestatic 495, 3) := by decide +kernel
theorem dJ0_charAt_5068e_15 : decode cJ0_charAt_5068e 15 = .ok (.ireturn, 1) := by decide +kernel
theorem dJ0_charAt_5068e_16 : decode cJ0_charAt_5068e 16 = .ok (.aload_n 0, 1) := by decide +kernel
theorem dJ0_charAt_5068e_17 : decode cJ0_charAt_5068e 17 = .ok (.getfield 9, 3) := by decide +kernel
theorem dJ0_charAt_5068e_20 : decode cJ0_charAt_5068e 20 = .ok (.iload_n 1, 1) := by decide +kernel
theorem dJ0_charAt_5068e_21 : decode cJ0_charAt_5068e 21 = .ok (.invokestatic 498, 3) := by decide +kernel
theorem dJ0_charAt_5068e_24 : decode cJ0_charAt_5068e 24 = .ok (.ireturn, 1) := by decide +kernel
theorem dJ0_coder_7d493_0 : decode cJ0_coder_7d493 0 = .ok (.getstatic 38, 3) := by decide +kernel
theorem dJ0_coder_7d493_3 : decode cJ0_coder_7d493 3 = .ok (.ifCond .eq 10, 3) := by decide +kernel
theorem dJ0_coder_7d493_6 : decode cJ0_coder_7d493 6 = .ok (.aload_n 0, 1) := by decide +kernel
theorem dJ0_coder_7d493_7 : decode cJ0_coder_7d493 7 = .ok (.getfield 15, 3) := by decide +kernel
theorem dJ0_coder_7d493_10 : decode cJ0_coder_7d493 10 = .ok (.goto 4, 3) := by decide +kernel
theorem dJ0_coder_7d493_13 : decode cJ0_coder_7d493 13 = .ok (.iconst 1, 1) := by decide +kernel
theorem dJ0_coder_7d493_14 : decode cJ0_coder_7d493 14 = .ok (.ireturn, 1) := by decide +kernel
theorem dJ0_isLatin1_aae02_0 : decode cJ0_isLatin1_aae02 0 = .ok (.getstatic 38, 3) := by decide +kernel
theorem dJ0_isLatin1_aae02_3 : decode cJ0_isLatin1_aae02 3 = .ok (.ifCond .eq 14, 3) := by decide +kernel
theorem dJ0_isLatin1_aae02_6 : decode cJ0_isLatin1_aae02 6 = .ok (.aload_n 0, 1) := by decide +kernel
theorem dJ0_isLatin1_aae02_7 : decode cJ0_isLatin1_aae02 7 = .ok (.getfield 15, 3) := by decide +kernel
theorem dJ0_isLatin1_aae02_10 : decode cJ0_isLatin1_aae02 10 = .ok (.ifCond .ne 7, 3) := by decide +kernel
theorem dJ0_isLatin1_aae02_13 : decode cJ0_isLatin1_aae02 13 = .ok (.iconst 1, 1) := by decide +kernel
theorem dJ0_isLatin1_aae02_14 : decode cJ0_isLatin1_aae02 14 = .ok (.goto 4, 3) := by decide +kernel
theorem dJ0_isLatin1_aae02_17 : decode cJ0_isLatin1_aae02 17 = .ok (.iconst 0, 1) := by decide +kernel
theorem dJ0_isLatin1_aae02_18 : decode cJ0_isLatin1_aae02 18 = .ok (.ireturn, 1) := by decide +kernel
theorem dJ0_checkIndex_df160_0 : decode cJ0_checkIndex_df160 0 = .ok (.iload_n 0, 1) := by decide +kernel
theorem dJ0_checkIndex_df160_1 : decode cJ0_checkIndex_df160 1 = .ok (.iload_n 1, 1) := by decide +kernel
theorem dJ0_checkIndex_df160_2 : decode cJ0_checkIndex_df160 2 = .ok (.getstatic 1053, 3) := by decide +kernel
theorem dJ0_checkIndex_df160_5 : decode cJ0_checkIndex_df160 5 = .ok (.invokestatic 1059, 3) := by decide +kernel
theorem dJ0_checkIndex_df160_8 : decode cJ0_checkIndex_df160 8 = .ok (.pop, 1) := by decide +kernel
theorem dJ0_checkIndex_df160_9 : decode cJ0_checkIndex_df160 9 = .ok (.return_, 1) := by decide +kernel
theorem dJ1_charAt_3b067_0 : decode cJ1_charAt_3b067 0 = .ok (.iload_n 1, 1) := by decide +kernel
theorem dJ1_charAt_3b067_1 : decode cJ1_charAt_3b067 1 = .ok (.aload_n 0, 1) := by decide +kernel
theorem dJ1_charAt_3b067_2 : decode cJ1_charAt_3b067 2 = .ok (.arraylength, 1) := by decide +kernel
theorem dJ1_charAt_3b067_3 : decode cJ1_charAt_3b067 3 = .ok (.invokestatic 9, 3) := by decide +kernel
theorem dJ1_charAt_3b067_6 : decode cJ1_charAt_3b067 6 = .ok (.aload_n 0, 1) := by decide +kernel
theorem dJ1_charAt_3b067_7 : decode cJ1_charAt_3b067 7 = .ok (.iload_n 1, 1) := by decide +kernel
theorem dJ1_charAt_3b067_8 : decode cJ1_charAt_3b067 8 = .ok (.baload, 1) := by decide +kernel
theorem dJ1_charAt_3b067_9 : decode cJ1_charAt_3b067 9 = .ok (.sipush 255, 3) := by decide +kernel
theorem dJ1_charAt_3b067_12 : decode cJ1_charAt_3b067 12 = .ok (.iand, 1) := by decide +kernel
theorem dJ1_charAt_3b067_13 : decode cJ1_charAt_3b067 13 = .ok (.i2c, 1) := by decide +kernel
theorem dJ1_charAt_3b067_14 : decode cJ1_charAt_3b067 14 = .ok (.ireturn, 1) := by decide +kernel
theorem dJ2_getChar_3b067_0 : decode cJ2_getChar_3b067 0 = .ok (.getstatic 44, 3) := by decide +kernel
theorem dJ2_getChar_3b067_3 : decode cJ2_getChar_3b067 3 = .ok (.ifCond .ne 25, 3) := by decide +kernel
theorem dJ2_getChar_3b067_6 : decode cJ2_getChar_3b067 6 = .ok (.iload_n 1, 1) := by decide +kernel
theorem dJ2_getChar_3b067_7 : decode cJ2_getChar_3b067 7 = .ok (.ifCond .lt 11, 3) := by decide +kernel
theorem dJ2_getChar_3b067_10 : decode cJ2_getChar_3b067 10 = .ok (.iload_n 1, 1) := by decide +kernel
theorem dJ2_getChar_3b067_11 : decode cJ2_getChar_3b067 11 = .ok (.aload_n 0, 1) := by decide +kernel
theorem dJ2_getChar_3b067_12 : decode cJ2_getChar_3b067 12 = .ok (.invokestatic 48, 3) := by decide +kernel
theorem dJ2_getChar_3b067_15 : decode cJ2_getChar_3b067 15 = .ok (.if_icmp .lt 13, 3) := by decide +kernel
theorem dJ2_getChar_3b067_18 : decode cJ2_getChar_3b067 18 = .ok (.new 52, 3) := by decide +kernel
theorem dJ2_getChar_3b067_21 : decode cJ2_getChar_3b067 21 = .ok (.dup, 1) := by decide +kernel
theorem dJ2_getChar_3b067_22 : decode cJ2_getChar_3b067 22 = .ok (.ldc 54, 2) := by decide +kernel
theorem dJ2_getChar_3b067_24 : decode cJ2_getChar_3b067 24 = .ok (.invokespecial 56, 3) := by decide +kernel
theorem dJ2_getChar_3b067_27 : decode cJ2_getChar_3b067 27 = .ok (.athrow, 1) := by decide +kernel
theorem dJ2_getChar_3b067_28 : decode cJ2_getChar_3b067 28 = .ok (.iload_n 1, 1) := by decide +kernel
theorem dJ2_getChar_3b067_29 : decode cJ2_getChar_3b067 29 = .ok (.iconst 1, 1) := by decide +kernel
theorem dJ2_getChar_3b067_30 : decode cJ2_getChar_3b067 30 = .ok (.ishl, 1) := by decide +kernel
theorem dJ2_getChar_3b067_31 : decode cJ2_getChar_3b067 31 = .ok (.istore_n 1, 1) := by decide +kernel
theorem dJ2_getChar_3b067_32 : decode cJ2_getChar_3b067 32 = .ok (.aload_n 0, 1) := by decide +kernel
theorem dJ2_getChar_3b067_33 : decode cJ2_getChar_3b067 33 = .ok (.iload_n 1, 1) := by decide +kernel
theorem dJ2_getChar_3b067_34 : decode cJ2_getChar_3b067 34 = .ok (.iinc 1 1, 3) := by decide +kernel
theorem dJ2_getChar_3b067_37 : decode cJ2_getChar_3b067 37 = .ok (.baload, 1) := by decide +kernel
theorem dJ2_getChar_3b067_38 : decode cJ2_getChar_3b067 38 = .ok (.sipush 255, 3) := by decide +kernel
theorem dJ2_getChar_3b067_41 : decode cJ2_getChar_3b067 41 = .ok (.iand, 1) := by decide +kernel
theorem dJ2_getChar_3b067_42 : decode cJ2_getChar_3b067 42 = .ok (.getstatic 59, 3) := by decide +kernel
theorem dJ2_getChar_3b067_45 : decode cJ2_getChar_3b067 45 = .ok (.ishl, 1) := by decide +kernel
theorem dJ2_getChar_3b067_46 : decode cJ2_getChar_3b067 46 = .ok (.aload_n 0, 1) := by decide +kernel
theorem dJ2_getChar_3b067_47 : decode cJ2_getChar_3b067 47 = .ok (.iload_n 1, 1) := by decide +kernel
theorem dJ2_getChar_3b067_48 : decode cJ2_getChar_3b067 48 = .ok (.baload, 1) := by decide +kernel
theorem dJ2_getChar_3b067_49 : decode cJ2_getChar_3b067 49 = .ok (.sipush 255, 3) := by decide +kernel
theorem dJ2_getChar_3b067_52 : decode cJ2_getChar_3b067 52 = .ok (.iand, 1) := by decide +kernel
theorem dJ2_getChar_3b067_53 : decode cJ2_getChar_3b067 53 = .ok (.getstatic 63, 3) := by decide +kernel
theorem dJ2_getChar_3b067_56 : decode cJ2_getChar_3b067 56 = .ok (.ishl, 1) := by decide +kernel
theorem dJ2_getChar_3b067_57 : decode cJ2_getChar_3b067 57 = .ok (.ior, 1) := by decide +kernel
theorem dJ2_getChar_3b067_58 : decode cJ2_getChar_3b067 58 = .ok (.i2c, 1) := by decide +kernel
theorem dJ2_getChar_3b067_59 : decode cJ2_getChar_3b067 59 = .ok (.ireturn, 1) := by decide +kernel
theorem dJ2_length_9d52b_0 : decode cJ2_length_9d52b 0 = .ok (.aload_n 0, 1) := by decide +kernel
theorem dJ2_length_9d52b_1 : decode cJ2_length_9d52b 1 = .ok (.arraylength, 1) := by decide +kernel
theorem dJ2_length_9d52b_2 : decode cJ2_length_9d52b 2 = .ok (.iconst 1, 1) := by decide +kernel
theorem dJ2_length_9d52b_3 : decode cJ2_length_9d52b 3 = .ok (.ishr, 1) := by decide +kernel
theorem dJ2_length_9d52b_4 : decode cJ2_length_9d52b 4 = .ok (.ireturn, 1) := by decide +kernel
theorem dJ2_charAt_3b067_0 : decode cJ2_charAt_3b067 0 = .ok (.iload_n 1, 1) := by decide +kernel
theorem dJ2_charAt_3b067_1 : decode cJ2_charAt_3b067 1 = .ok (.aload_n 0, 1) := by decide +kernel
theorem dJ2_charAt_3b067_2 : decode cJ2_charAt_3b067 2 = .ok (.invokestatic 67, 3) := by decide +kernel
theorem dJ2_charAt_3b067_5 : decode cJ2_charAt_3b067 5 = .ok (.aload_n 0, 1) := by decide +kernel
theorem dJ2_charAt_3b067_6 : decode cJ2_charAt_3b067 6 = .ok (.iload_n 1, 1) := by decide +kernel
theorem dJ2_charAt_3b067_7 : decode cJ2_charAt_3b067 7 = .ok (.invokestatic 71, 3) := by decide +kernel
theorem dJ2_charAt_3b067_10 : decode cJ2_charAt_3b067 10 = .ok (.ireturn, 1) := by decide +kernel
theorem dJ2_checkIndex_2214a_0 : decode cJ2_checkIndex_2214a 0 = .ok (.iload_n 0, 1) := by decide +kernel
theorem dJ2_checkIndex_2214a_1 : decode cJ2_checkIndex_2214a 1 = .ok (.aload_n 1, 1) := by decide +kernel
theorem dJ2_checkIndex_2214a_2 : decode cJ2_checkIndex_2214a 2 = .ok (.invokestatic 48, 3) := by decide +kernel
theorem dJ2_checkIndex_2214a_5 : decode cJ2_checkIndex_2214a 5 = .ok (.invokestatic 414, 3) := by decide +kernel
theorem dJ2_checkIndex_2214a_8 : decode cJ2_checkIndex_2214a 8 = .ok (.return_, 1) := by decide +kernel
theorem dJ3_checkIndex_8e157_0 : decode cJ3_checkIndex_8e157 0 = .ok (.iload_n 0, 1) := by decide +kernel
theorem dJ3_checkIndex_8e157_1 : decode cJ3_checkIndex_8e157 1 = .ok (.ifCond .lt 8, 3) := by decide +kernel
theorem dJ3_checkIndex_8e157_4 : decode cJ3_checkIndex_8e157 4 = .ok (.iload_n 0, 1) := by decide +kernel
theorem dJ3_checkIndex_8e157_5 : decode cJ3_checkIndex_8e157 5 = .ok (.iload_n 1, 1) := by decide +kernel
theorem dJ3_checkIndex_8e157_6 : decode cJ3_checkIndex_8e157 6 = .ok (.if_icmp .lt 10, 3) := by decide +kernel
theorem dJ3_checkIndex_8e157_9 : decode cJ3_checkIndex_8e157 9 = .ok (.aload_n 2, 1) := by decide +kernel
theorem dJ3_checkIndex_8e157_10 : decode cJ3_checkIndex_8e157 10 = .ok (.iload_n 0, 1) := by decide +kernel
theorem dJ3_checkIndex_8e157_11 : decode cJ3_checkIndex_8e157 11 = .ok (.iload_n 1, 1) := by decide +kernel
theorem dJ3_checkIndex_8e157_12 : decode cJ3_checkIndex_8e157 12 = .ok (.invokestatic 95, 3) := by decide +kernel
theorem dJ3_checkIndex_8e157_15 : decode cJ3_checkIndex_8e157 15 = .ok (.athrow, 1) := by decide +kernel
theorem dJ3_checkIndex_8e157_16 : decode cJ3_checkIndex_8e157 16 = .ok (.iload_n 0, 1) := by decide +kernel
theorem dJ3_checkIndex_8e157_17 : decode cJ3_checkIndex_8e157 17 = .ok (.ireturn, 1) := by decide +kernel
end
section
theorem dX4_init_0 : decode cX4_init 0 = .ok (.aload_n 0, 1) := by decide +kernel
theorem dX4_init_1 : decode cX4_init 1 = .ok (.invokespecial 3, 3) := by decide +kernel
theorem dX4_init_4 : decode cX4_init 4 = .ok (.aload_n 0, 1) := by decide +kernel
theorem dX4_init_5 : decode cX4_init 5 = .ok (.iconst 1, 1) := by decide +kernel
theorem dX4_init_6 : decode cX4_init 6 = .ok (.putfield 9, 3) := by decide +kernel
theorem dX4_init_9 : decode cX4_init 9 = .ok (.aload_n 0, 1) := by decide +kernel
theorem dX4_init_10 : decode cX4_init 10 = .ok (.iconst 3, 1) := by decide +kernel
theorem dX4_init_11 : decode cX4_init 11 = .ok (.newarray .int, 2) := by decide +kernel
theorem dX4_init_13 : decode cX4_init 13 = .ok (.putfield 15, 3) := by decide +kernel
theorem dX4_init_16 : decode cX4_init 16 = .ok (.aload_n 0, 1) := by decide +kernel
theorem dX4_init_17 : decode cX4_init 17 = .ok (.iconst 4, 1) := by decide +kernel
theorem dX4_init_18 : decode cX4_init 18 = .ok (.newarray .int, 2) := by decide +kernel
theorem dX4_init_20 : decode cX4_init 20 = .ok (.putfield 19, 3) := by decide +kernel
theorem dX4_init_23 : decode cX4_init 23 = .ok (.aload_n 0, 1) := by decide +kernel
theorem dX4_init_24 : decode cX4_init 24 = .ok (.bipush 8, 2) := by decide +kernel
theorem dX4_init_26 : decode cX4_init 26 = .ok (.newarray .int, 2) := by decide +kernel
theorem dX4_init_28 : decode cX4_init 28 = .ok (.putfield 22, 3) := by decide +kernel
theorem dX4_init_31 : decode cX4_init 31 = .ok (.aload_n 0, 1) := by decide +kernel
theorem dX4_init_32 : decode cX4_init 32 = .ok (.bipush 36, 2) := by decide +kernel
theorem dX4_init_34 : decode cX4_init 34 = .ok (.newarray .int, 2) := by decide +kernel
theorem dX4_init_36 : decode cX4_init 36 = .ok (.putfield 25, 3) := by decide +kernel
theorem dX4_init_39 : decode cX4_init 39 = .ok (.aload_n 0, 1) := by decide +kernel
theorem dX4_init_40 : decode cX4_init 40 = .ok (.bipush 12, 2) := by decide +kernel
theorem dX4_init_42 : decode cX4_init 42 = .ok (.newarray .int, 2) := by decide +kernel
theorem dX4_init_44 : decode cX4_init 44 = .ok (.putfield 28, 3) := by decide +kernel
theorem dX4_init_47 : decode cX4_init 47 = .ok (.aload_n 0, 1) := by decide +kernel
theorem dX4_init_48 : decode cX4_init 48 = .ok (.bipush 12, 2) := by decide +kernel
theorem dX4_init_50 : decode cX4_init 50 = .ok (.newarray .int, 2) := by decide +kernel
theorem dX4_init_52 : decode cX4_init 52 = .ok (.putfield 31, 3) := by decide +kernel
theorem dX4_init_55 : decode cX4_init 55 = .ok (.aload_n 0, 1) := by decide +kernel
theorem dX4_init_56 : decode cX4_init 56 = .ok (.bipush 12, 2) := by decide +kernel
theorem dX4_init_58 : decode cX4_init 58 = .ok (.newarray .int, 2) := by decide +kernel
theorem dX4_init_60 : decode cX4_init 60 = .ok (.putfield 34, 3) := by decide +kernel
theorem dX4_init_63 : decode cX4_init 63 = .ok (.aload_n 0, 1) := by decide +kernel
theorem dX4_init_64 : decode cX4_init 64 = .ok (.bipush 12, 2) := by decide +kernel
theorem dX4_init_66 : decode cX4_init 66 = .ok (.newarray .int, 2) := by decide +kernel
theorem dX4_init_68 : decode cX4_init 68 = .ok (.putfield 37, 3) := by decide +kernel
theorem dX4_init_71 : decode cX4_init 71 = .ok (.aload_n 0, 1) := by decide +kernel
theorem dX4_init_72 : decode cX4_init 72 = .ok (.bipush 12, 2) := by decide +kernel
theorem dX4_init_74 : decode cX4_init 74 = .ok (.newarray .int, 2) := by decide +kernel
theorem dX4_init_76 : decode cX4_init 76 = .ok (.putfield 40, 3) := by decide +kernel
theorem dX4_init_79 : decode cX4_init 79 = .ok (.aload_n 0, 1) := by decide +kernel
theorem dX4_init_80 : decode cX4_init 80 = .ok (.bipush 12, 2) := by decide +kernel
theorem dX4_init_82 : decode cX4_init 82 = .ok (.newarray .int, 2) := by decide +kernel
theorem dX4_init_84 : decode cX4_init 84 = .ok (.putfield 43, 3) := by decide +kernel
theorem dX4_init_87 : decode cX4_init 87 = .ok (.aload_n 0, 1) := by decide +kernel
theorem dX4_init_88 : decode cX4_init 88 = .ok (.bipush 12, 2) := by decide +kernel
theorem dX4_init_90 : decode cX4_init 90 = .ok (.newarray .int, 2) := by decide +kernel
theorem dX4_init_92 : decode cX4_init 92 = .ok (.putfield 46, 3) := by decide +kernel
theorem dX4_init_95 : decode cX4_init 95 = .ok (.aload_n 0, 1) := by decide +kernel
theorem dX4_init_96 : decode cX4_init 96 = .ok (.getfield 15, 3) := by decide +kernel
theorem dX4_init_99 : decode cX4_init 99 = .ok (.iconst 1, 1) := by decide +kernel
theorem dX4_init_100 : decode cX4_init 100 = .ok (.invokestatic 49, 3) := by decide +kernel
theorem dX4_init_103 : decode cX4_init 103 = .ok (.aload_n 0, 1) := by decide +kernel
theorem dX4_init_104 : decode cX4_init 104 = .ok (.getfield 22, 3) := by decide +kernel
theorem dX4_init_107 : decode cX4_init 107 = .ok (.iconst 1, 1) := by decide +kernel
theorem dX4_init_108 : decode cX4_init 108 = .ok (.invokestatic 49, 3) := by decide +kernel
theorem dX4_init_111 : decode cX4_init 111 = .ok (.aload_n 0, 1) := by decide +kernel
theorem dX4_init_112 : decode cX4_init 112 = .ok (.getfield 31, 3) := by decide +kernel
theorem dX4_init_115 : decode cX4_init 115 = .ok (.iconst (-1), 1) := by decide +kernel
theorem dX4_init_116 : decode cX4_init 116 = .ok (.invokestatic 49, 3) := by decide +kernel
theorem dX4_init_119 : decode cX4_init 119 = .ok (.aload_n 0, 1) := by decide +kernel
theorem dX4_init_120 : decode cX4_init 120 = .ok (.getfield 19, 3) := by decide +kernel
theorem dX4_init_123 : decode cX4_init 123 = .ok (.iconst 0, 1) := by decide +kernel
theorem dX4_init_124 : decode cX4_init 124 = .ok (.bipush 60, 2) := by decide +kernel
theorem dX4_init_126 : decode cX4_init 126 = .ok (.iastore, 1) := by decide +kernel
theorem dX4_init_127 : decode cX4_init 127 = .ok (.aload_n 0, 1) := by decide +kernel
theorem dX4_init_128 : decode cX4_init 128 = .ok (.getfield 19, 3) := by decide +kernel
theorem dX4_init_131 : decode cX4_init 131 = .ok (.iconst 1, 1) := by decide +kernel
theorem dX4_init_132 : decode cX4_init 132 = .ok (.iconst 2, 1) := by decide +kernel
theorem dX4_init_133 : decode cX4_init 133 = .ok (.iastore, 1) := by decide +kernel
theorem dX4_init_134 : decode cX4_init 134 = .ok (.aload_n 0, 1) := by decide +kernel
theorem dX4_init_135 : decode cX4_init 135 = .ok (.getfield 19, 3) := by decide +kernel
theorem dX4_init_138 : decode cX4_init 138 = .ok (.iconst 2, 1) := by decide +kernel
theorem dX4_init_139 : decode cX4_init 139 = .ok (.iconst 5, 1) := by decide +kernel
theorem dX4_init_140 : decode cX4_init 140 = .ok (.iastore, 1) := by decide +kernel
theorem dX4_init_141 : decode cX4_init 141 = .ok (.return_, 1) := by decide +kernel
theorem dX4_copyFrom_0 : decode cX4_copyFrom 0 = .ok (.aload_n 0, 1) := by decide +kernel
theorem dX4_copyFrom_1 : decode cX4_copyFrom 1 = .ok (.aload_n 1, 1) := by decide +kernel
theorem dX4_copyFrom_2 : decode cX4_copyFrom 2 = .ok (.getfield 9, 3) := by decide +kernel
theorem dX4_copyFrom_5 : decode cX4_copyFrom 5 = .ok (.putfield 9, 3) := by decide +kernel
theorem dX4_copyFrom_8 : decode cX4_copyFrom 8 = .ok (.aload_n 0, 1) := by decide +kernel
theorem dX4_copyFrom_9 : decode cX4_copyFrom 9 = .ok (.aload_n 1, 1) := by decide +kernel
theorem dX4_copyFrom_10 : decode cX4_copyFrom 10 = .ok (.getfield 55, 3) := by decide +kernel
theorem dX4_copyFrom_13 : decode cX4_copyFrom 13 = .ok (.putfield 55, 3) := by decide +kernel
theorem dX4_copyFrom_16 : decode cX4_copyFrom 16 = .ok (.aload_n 1, 1) := by decide +kernel
theorem dX4_copyFrom_17 : decode cX4_copyFrom 17 = .ok (.getfield 15, 3) := by decide +kernel
theorem dX4_copyFrom_20 : decode cX4_copyFrom 20 = .ok (.aload_n 0, 1) := by decide +kernel
theorem dX4_copyFrom_21 : decode cX4_copyFrom 21 = .ok (.getfield 15, 3) := by decide +kernel
theorem dX4_copyFrom_24 : decode cX4_copyFrom 24 = .ok (.invokestatic 58, 3) := by decide +kernel
theorem dX4_copyFrom_27 : decode cX4_copyFrom 27 = .ok (.aload_n 1, 1) := by decide +kernel
theorem dX4_copyFrom_28 : decode cX4_copyFrom 28 = .ok (.getfield 19, 3) := by decide +kernel
theorem dX4_copyFrom_31 : decode cX4_copyFrom 31 = .ok (.aload_n 0, 1) := by decide +kernel
theorem dX4_copyFrom_32 : decode cX4_copyFrom 32 = .ok (.getfield 19, 3) := by decide +kernel
theorem dX4_copyFrom_35 : decode cX4_copyFrom 35 = .ok (.invokestatic 58, 3) := by decide +kernel
theorem dX4_copyFrom_38 : decode cX4_copyFrom 38 = .ok (.aload_n 1, 1) := by decide +kernel
theorem dX4_copyFrom_39 : decode cX4_copyFrom 39 = .ok (.getfield 22, 3) := by decide +kernel
theorem dX4_copyFrom_42 : decode cX4_copyFrom 42 = .ok (.aload_n 0, 1) := by decide +kernel
theorem dX4_copyFrom_43 : decode cX4_copyFrom 43 = .ok (.getfield 22, 3) := by decide +kernel
theorem dX4_copyFrom_46 : decode cX4_copyFrom 46 = .ok (.invokestatic 58, 3) := by decide +kernel
theorem dX4_copyFrom_49 : decode cX4_copyFrom 49 = .ok (.aload_n 1, 1) := by decide +kernel
theorem dX4_copyFrom_50 : decode cX4_copyFrom 50 = .ok (.getfield 25, 3) := by decide +kernel
theorem dX4_copyFrom_53 : decode cX4_copyFrom 53 = .ok (.aload_n 0, 1) := by decide +kernel
theorem dX4_copyFrom_54 : decode cX4_copyFrom 54 = .ok (.getfield 25, 3) := by decide +kernel
theorem dX4_copyFrom_57 : decode cX4_copyFrom 57 = .ok (.invokestatic 58, 3) := by decide +kernel
theorem dX4_copyFrom_60 : decode cX4_copyFrom 60 = .ok (.aload_n 1, 1) := by decide +kernel
theorem dX4_copyFrom_61 : decode cX4_copyFrom 61 = .ok (.getfield 28, 3) := by decide +kernel
theorem dX4_copyFrom_64 : decode cX4_copyFrom 64 = .ok (.aload_n 0, 1) := by decide +kernel
theorem dX4_copyFrom_65 : decode cX4_copyFrom 65 = .ok (.getfield 28, 3) := by decide +kernel
theorem dX4_copyFrom_68 : decode cX4_copyFrom 68 = .ok (.invokestatic 58, 3) := by decide +kernel
theorem dX4_copyFrom_71 : decode cX4_copyFrom 71 = .ok (.aload_n 1, 1) := by decide +kernel
theorem dX4_copyFrom_72 : decode cX4_copyFrom 72 = .ok (.getfield 31, 3) := by decide +kernel
theorem dX4_copyFrom_75 : decode cX4_copyFrom 75 = .ok (.aload_n 0, 1) := by decide +kernel
theorem dX4_copyFrom_76 : decode cX4_copyFrom 76 = .ok (.getfield 31, 3) := by decide +kernel
theorem dX4_copyFrom_79 : decode cX4_copyFrom 79 = .ok (.invokestatic 58, 3) := by decide +kernel
theorem dX4_copyFrom_82 : decode cX4_copyFrom 82 = .ok (.aload_n 1, 1) := by decide +kernel
theorem dX4_copyFrom_83 : decode cX4_copyFrom 83 = .ok (.getfield 34, 3) := by decide +kernel
theorem dX4_copyFrom_86 : decode cX4_copyFrom 86 = .ok (.aload_n 0, 1) := by decide +kernel
theorem dX4_copyFrom_87 : decode cX4_copyFrom 87 = .ok (.getfield 34, 3) := by decide +kernel
theorem dX4_copyFrom_90 : decode cX4_copyFrom 90 = .ok (.invokestatic 58, 3) := by decide +kernel
theorem dX4_copyFrom_93 : decode cX4_copyFrom 93 = .ok (.aload_n 1, 1) := by decide +kernel
theorem dX4_copyFrom_94 : decode cX4_copyFrom 94 = .ok (.getfield 37, 3) := by decide +kernel
theorem dX4_copyFrom_97 : decode cX4_copyFrom 97 = .ok (.aload_n 0, 1) := by decide +kernel
theorem dX4_copyFrom_98 : decode cX4_copyFrom 98 = .ok (.getfield 37, 3) := by decide +kernel
theorem dX4_copyFrom_101 : decode cX4_copyFrom 101 = .ok (.invokestatic 58, 3) := by decide +kernel
theorem dX4_copyFrom_104 : decode cX4_copyFrom 104 = .ok (.aload_n 1, 1) := by decide +kernel
theorem dX4_copyFrom_105 : decode cX4_copyFrom 105 = .ok (.getfield 40, 3) := by decide +kernel
theorem dX4_copyFrom_108 : decode cX4_copyFrom 108 = .ok (.aload_n 0, 1) := by decide +kernel
theorem dX4_copyFrom_109 : decode cX4_copyFrom 109 = .ok (.getfield 40, 3) := by decide +kernel
theorem dX4_copyFrom_112 : decode cX4_copyFrom 112 = .ok (.invokestatic 58, 3) := by decide +kernel
theorem dX4_copyFrom_115 : decode cX4_copyFrom 115 = .ok (.aload_n 1, 1) := by decide +kernel
theorem dX4_copyFrom_116 : decode cX4_copyFrom 116 = .ok (.getfield 43, 3) := by decide +kernel
theorem dX4_copyFrom_119 : decode cX4_copyFrom 119 = .ok (.aload_n 0, 1) := by decide +kernel
theorem dX4_copyFrom_120 : decode cX4_copyFrom 120 = .ok (.getfield 43, 3) := by decide +kernel
theorem dX4_copyFrom_123 : decode cX4_copyFrom 123 = .ok (.invokestatic 58, 3) := by decide +kernel
theorem dX4_copyFrom_126 : decode cX4_copyFrom 126 = .ok (.aload_n 1, 1) := by decide +kernel
theorem dX4_copyFrom_127 : decode cX4_copyFrom 127 = .ok (.getfield 46, 3) := by decide +kernel
theorem dX4_copyFrom_130 : decode cX4_copyFrom 130 = .ok (.aload_n 0, 1) := by decide +kernel
theorem dX4_copyFrom_131 : decode cX4_copyFrom 131 = .ok (.getfield 46, 3) := by decide +kernel
theorem dX4_copyFrom_134 : decode cX4_copyFrom 134 = .ok (.invokestatic 58, 3) := by decide +kernel
theorem dX4_copyFrom_137 : decode cX4_copyFrom 137 = .ok (.return_, 1) := by decide +kernel
theorem dX4_copyRow_0 : decode cX4_copyRow 0 = .ok (.aload_n 0, 1) := by decide +kernel
theorem dX4_copyRow_1 : decode cX4_copyRow 1 = .ok (.iconst 0, 1) := by decide +kernel
theorem dX4_copyRow_2 : decode cX4_copyRow 2 = .ok (.aload_n 1, 1) := by decide +kernel
theorem dX4_copyRow_3 : decode cX4_copyRow 3 = .ok (.iconst 0, 1) := by decide +kernel
theorem dX4_copyRow_4 : decode cX4_copyRow 4 = .ok (.aload_n 0, 1) := by decide +kernel
theorem dX4_copyRow_5 : decode cX4_copyRow 5 = .ok (.arraylength, 1) := by decide +kernel
theorem dX4_copyRow_6 : decode cX4_copyRow 6 = .ok (.aload_n 1, 1) := by decide +kernel
theorem dX4_copyRow_7 : decode cX4_copyRow 7 = .ok (.arraylength, 1) := by decide +kernel
theorem dX4_copyRow_8 : decode cX4_copyRow 8 = .ok (.invokestatic 62, 3) := by decide +kernel
theorem dX4_copyRow_11 : decode cX4_copyRow 11 = .ok (.invokestatic 68, 3) := by decide +kernel
theorem dX4_copyRow_14 : decode cX4_copyRow 14 = .ok (.return_, 1) := by decide +kernel
theorem dX4_hasTask_0 : decode cX4_hasTask 0 = .ok (.iload_n 1, 1) := by decide +kernel
theorem dX4_hasTask_1 : decode cX4_hasTask 1 = .ok (.iconst 0, 1) := by decide +kernel
theorem dX4_hasTask_2 : decode cX4_hasTask 2 = .ok (.aload_n 0, 1) := by decide +kernel
theorem dX4_hasTask_3 : decode cX4_hasTask 3 = .ok (.getfield 55, 3) := by decide +kernel
theorem dX4_hasTask_6 : decode cX4_hasTask 6 = .ok (.iconst 1, 1) := by decide +kernel
theorem dX4_hasTask_7 : decode cX4_hasTask 7 = .ok (.isub, 1) := by decide +kernel
theorem dX4_hasTask_8 : decode cX4_hasTask 8 = .ok (.invokestatic 74, 3) := by decide +kernel
theorem dX4_hasTask_11 : decode cX4_hasTask 11 = .ok (.ireturn, 1) := by decide +kernel
theorem dX4_totalDemand_0 : decode cX4_totalDemand 0 = .ok (.iconst 0, 1) := by decide +kernel
theorem dX4_totalDemand_1 : decode cX4_totalDemand 1 = .ok (.istore_n 1, 1) := by decide +kernel
theorem dX4_totalDemand_2 : decode cX4_totalDemand 2 = .ok (.iconst 0, 1) := by decide +kernel
theorem dX4_totalDemand_3 : decode cX4_totalDemand 3 = .ok (.istore_n 2, 1) := by decide +kernel
theorem dX4_totalDemand_4 : decode cX4_totalDemand 4 = .ok (.iload_n 2, 1) := by decide +kernel
theorem dX4_totalDemand_5 : decode cX4_totalDemand 5 = .ok (.aload_n 0, 1) := by decide +kernel
theorem dX4_totalDemand_6 : decode cX4_totalDemand 6 = .ok (.getfield 9, 3) := by decide +kernel
theorem dX4_totalDemand_9 : decode cX4_totalDemand 9 = .ok (.if_icmp .ge 18, 3) := by decide +kernel
theorem dX4_totalDemand_12 : decode cX4_totalDemand 12 = .ok (.iload_n 1, 1) := by decide +kernel
theorem dX4_totalDemand_13 : decode cX4_totalDemand 13 = .ok (.aload_n 0, 1) := by decide +kernel
theorem dX4_totalDemand_14 : decode cX4_totalDemand 14 = .ok (.getfield 15, 3) := by decide +kernel
theorem dX4_totalDemand_17 : decode cX4_totalDemand 17 = .ok (.iload_n 2, 1) := by decide +kernel
theorem dX4_totalDemand_18 : decode cX4_totalDemand 18 = .ok (.iaload, 1) := by decide +kernel
theorem dX4_totalDemand_19 : decode cX4_totalDemand 19 = .ok (.iadd, 1) := by decide +kernel
theorem dX4_totalDemand_20 : decode cX4_totalDemand 20 = .ok (.istore_n 1, 1) := by decide +kernel
theorem dX4_totalDemand_21 : decode cX4_totalDemand 21 = .ok (.iinc 2 1, 3) := by decide +kernel
theorem dX4_totalDemand_24 : decode cX4_totalDemand 24 = .ok (.goto (-20), 3) := by decide +kernel
theorem dX4_totalDemand_27 : decode cX4_totalDemand 27 = .ok (.iload_n 1, 1) := by decide +kernel
theorem dX4_totalDemand_28 : decode cX4_totalDemand 28 = .ok (.ireturn, 1) := by decide +kernel
theorem dX4_capacity_0 : decode cX4_capacity 0 = .ok (.iload_n 1, 1) := by decide +kernel
theorem dX4_capacity_1 : decode cX4_capacity 1 = .ok (.aload_n 0, 1) := by decide +kernel
theorem dX4_capacity_2 : decode cX4_capacity 2 = .ok (.getfield 19, 3) := by decide +kernel
theorem dX4_capacity_5 : decode cX4_capacity 5 = .ok (.iconst 0, 1) := by decide +kernel
theorem dX4_capacity_6 : decode cX4_capacity 6 = .ok (.iaload, 1) := by decide +kernel
theorem dX4_capacity_7 : decode cX4_capacity 7 = .ok (.imul, 1) := by decide +kernel
theorem dX4_capacity_8 : decode cX4_capacity 8 = .ok (.aload_n 0, 1) := by decide +kernel
theorem dX4_capacity_9 : decode cX4_capacity 9 = .ok (.invokevirtual 78, 3) := by decide +kernel
theorem dX4_capacity_12 : decode cX4_capacity 12 = .ok (.imul, 1) := by decide +kernel
theorem dX4_capacity_13 : decode cX4_capacity 13 = .ok (.ireturn, 1) := by decide +kernel
theorem dX4_weightedTime_0 : decode cX4_weightedTime 0 = .ok (.iconst 0, 1) := by decide +kernel
theorem dX4_weightedTime_1 : decode cX4_weightedTime 1 = .ok (.istore_n 2, 1) := by decide +kernel
theorem dX4_weightedTime_2 : decode cX4_weightedTime 2 = .ok (.iconst 0, 1) := by decide +kernel
theorem dX4_weightedTime_3 : decode cX4_weightedTime 3 = .ok (.istore_n 3, 1) := by decide +kernel
theorem dX4_weightedTime_4 : decode cX4_weightedTime 4 = .ok (.iload_n 3, 1) := by decide +kernel
theorem dX4_weightedTime_5 : decode cX4_weightedTime 5 = .ok (.aload_n 0, 1) := by decide +kernel
theorem dX4_weightedTime_6 : decode cX4_weightedTime 6 = .ok (.getfield 9, 3) := by decide +kernel
theorem dX4_weightedTime_9 : decode cX4_weightedTime 9 = .ok (.if_icmp .ge 29, 3) := by decide +kernel
theorem dX4_weightedTime_12 : decode cX4_weightedTime 12 = .ok (.iload_n 2, 1) := by decide +kernel
theorem dX4_weightedTime_13 : decode cX4_weightedTime 13 = .ok (.aload_n 0, 1) := by decide +kernel
theorem dX4_weightedTime_14 : decode cX4_weightedTime 14 = .ok (.getfield 15, 3) := by decide +kernel
theorem dX4_weightedTime_17 : decode cX4_weightedTime 17 = .ok (.iload_n 3, 1) := by decide +kernel
theorem dX4_weightedTime_18 : decode cX4_weightedTime 18 = .ok (.iaload, 1) := by decide +kernel
theorem dX4_weightedTime_19 : decode cX4_weightedTime 19 = .ok (.aload_n 0, 1) := by decide +kernel
theorem dX4_weightedTime_20 : decode cX4_weightedTime 20 = .ok (.getfield 25, 3) := by decide +kernel
theorem dX4_weightedTime_23 : decode cX4_weightedTime 23 = .ok (.iload_n 1, 1) := by decide +kernel
theorem dX4_weightedTime_24 : decode cX4_weightedTime 24 = .ok (.iconst 3, 1) := by decide +kernel
theorem dX4_weightedTime_25 : decode cX4_weightedTime 25 = .ok (.imul, 1) := by decide +kernel
theorem dX4_weightedTime_26 : decode cX4_weightedTime 26 = .ok (.iload_n 3, 1) := by decide +kernel
theorem dX4_weightedTime_27 : decode cX4_weightedTime 27 = .ok (.iadd, 1) := by decide +kernel
theorem dX4_weightedTime_28 : decode cX4_weightedTime 28 = .ok (.iaload, 1) := by decide +kernel
theorem dX4_weightedTime_29 : decode cX4_weightedTime 29 = .ok (.imul, 1) := by decide +kernel
theorem dX4_weightedTime_30 : decode cX4_weightedTime 30 = .ok (.iadd, 1) := by decide +kernel
theorem dX4_weightedTime_31 : decode cX4_weightedTime 31 = .ok (.istore_n 2, 1) := by decide +kernel
theorem dX4_weightedTime_32 : decode cX4_weightedTime 32 = .ok (.iinc 3 1, 3) := by decide +kernel
theorem dX4_weightedTime_35 : decode cX4_weightedTime 35 = .ok (.goto (-31), 3) := by decide +kernel
theorem dX4_weightedTime_38 : decode cX4_weightedTime 38 = .ok (.iload_n 2, 1) := by decide +kernel
theorem dX4_weightedTime_39 : decode cX4_weightedTime 39 = .ok (.ireturn, 1) := by decide +kernel
theorem dX4_weightedTimes_0 : decode cX4_weightedTimes 0 = .ok (.iconst 0, 1) := by decide +kernel
theorem dX4_weightedTimes_1 : decode cX4_weightedTimes 1 = .ok (.istore_n 2, 1) := by decide +kernel
theorem dX4_weightedTimes_2 : decode cX4_weightedTimes 2 = .ok (.iconst 0, 1) := by decide +kernel
theorem dX4_weightedTimes_3 : decode cX4_weightedTimes 3 = .ok (.istore_n 3, 1) := by decide +kernel
theorem dX4_weightedTimes_4 : decode cX4_weightedTimes 4 = .ok (.iload_n 3, 1) := by decide +kernel
theorem dX4_weightedTimes_5 : decode cX4_weightedTimes 5 = .ok (.aload_n 0, 1) := by decide +kernel
theorem dX4_weightedTimes_6 : decode cX4_weightedTimes 6 = .ok (.getfield 55, 3) := by decide +kernel
theorem dX4_weightedTimes_9 : decode cX4_weightedTimes 9 = .ok (.if_icmp .ge 29, 3) := by decide +kernel
theorem dX4_weightedTimes_12 : decode cX4_weightedTimes 12 = .ok (.iload_n 2, 1) := by decide +kernel
theorem dX4_weightedTimes_13 : decode cX4_weightedTimes 13 = .ok (.iload_n 1, 1) := by decide +kernel
theorem dX4_weightedTimes_14 : decode cX4_weightedTimes 14 = .ok (.iload_n 3, 1) := by decide +kernel
theorem dX4_weightedTimes_15 : decode cX4_weightedTimes 15 = .ok (.invokestatic 82, 3) := by decide +kernel
theorem dX4_weightedTimes_18 : decode cX4_weightedTimes 18 = .ok (.ifCond .eq 11, 3) := by decide +kernel
theorem dX4_weightedTimes_21 : decode cX4_weightedTimes 21 = .ok (.aload_n 0, 1) := by decide +kernel
theorem dX4_weightedTimes_22 : decode cX4_weightedTimes 22 = .ok (.iload_n 3, 1) := by decide +kernel
theorem dX4_weightedTimes_23 : decode cX4_weightedTimes 23 = .ok (.invokevirtual 86, 3) := by decide +kernel
theorem dX4_weightedTimes_26 : decode cX4_weightedTimes 26 = .ok (.goto 4, 3) := by decide +kernel
theorem dX4_weightedTimes_29 : decode cX4_weightedTimes 29 = .ok (.iconst 0, 1) := by decide +kernel
theorem dX4_weightedTimes_30 : decode cX4_weightedTimes 30 = .ok (.iadd, 1) := by decide +kernel
theorem dX4_weightedTimes_31 : decode cX4_weightedTimes 31 = .ok (.istore_n 2, 1) := by decide +kernel
theorem dX4_weightedTimes_32 : decode cX4_weightedTimes 32 = .ok (.iinc 3 1, 3) := by decide +kernel
theorem dX4_weightedTimes_35 : decode cX4_weightedTimes 35 = .ok (.goto (-31), 3) := by decide +kernel
theorem dX4_weightedTimes_38 : decode cX4_weightedTimes 38 = .ok (.iload_n 2, 1) := by decide +kernel
theorem dX4_weightedTimes_39 : decode cX4_weightedTimes 39 = .ok (.ireturn, 1) := by decide +kernel
theorem dX4_priorityOf_0 : decode cX4_priorityOf 0 = .ok (.iload_n 2, 1) := by decide +kernel
theorem dX4_priorityOf_1 : decode cX4_priorityOf 1 = .ok (.tableswitch 60 0 2 #[27, 44, 50], 27) := by decide +kernel
theorem dX4_priorityOf_28 : decode cX4_priorityOf 28 = .ok (.aload_n 0, 1) := by decide +kernel
theorem dX4_priorityOf_29 : decode cX4_priorityOf 29 = .ok (.iload_n 1, 1) := by decide +kernel
theorem dX4_priorityOf_30 : decode cX4_priorityOf 30 = .ok (.invokevirtual 86, 3) := by decide +kernel
theorem dX4_priorityOf_33 : decode cX4_priorityOf 33 = .ok (.aload_n 0, 1) := by decide +kernel
theorem dX4_priorityOf_34 : decode cX4_priorityOf 34 = .ok (.aload_n 0, 1) := by decide +kernel
theorem dX4_priorityOf_35 : decode cX4_priorityOf 35 = .ok (.getfield 40, 3) := by decide +kernel
theorem dX4_priorityOf_38 : decode cX4_priorityOf 38 = .ok (.iload_n 1, 1) := by decide +kernel
theorem dX4_priorityOf_39 : decode cX4_priorityOf 39 = .ok (.iaload, 1) := by decide +kernel
theorem dX4_priorityOf_40 : decode cX4_priorityOf 40 = .ok (.invokevirtual 90, 3) := by decide +kernel
theorem dX4_priorityOf_43 : decode cX4_priorityOf 43 = .ok (.iadd, 1) := by decide +kernel
theorem dX4_priorityOf_44 : decode cX4_priorityOf 44 = .ok (.ireturn, 1) := by decide +kernel
theorem dX4_priorityOf_45 : decode cX4_priorityOf 45 = .ok (.aload_n 0, 1) := by decide +kernel
theorem dX4_priorityOf_46 : decode cX4_priorityOf 46 = .ok (.iload_n 1, 1) := by decide +kernel
theorem dX4_priorityOf_47 : decode cX4_priorityOf 47 = .ok (.invokevirtual 86, 3) := by decide +kernel
theorem dX4_priorityOf_50 : decode cX4_priorityOf 50 = .ok (.ireturn, 1) := by decide +kernel
theorem dX4_priorityOf_51 : decode cX4_priorityOf 51 = .ok (.aload_n 0, 1) := by decide +kernel
theorem dX4_priorityOf_52 : decode cX4_priorityOf 52 = .ok (.getfield 40, 3) := by decide +kernel
theorem dX4_priorityOf_55 : decode cX4_priorityOf 55 = .ok (.iload_n 1, 1) := by decide +kernel
theorem dX4_priorityOf_56 : decode cX4_priorityOf 56 = .ok (.iaload, 1) := by decide +kernel
theorem dX4_priorityOf_57 : decode cX4_priorityOf 57 = .ok (.invokestatic 93, 3) := by decide +kernel
theorem dX4_priorityOf_60 : decode cX4_priorityOf 60 = .ok (.ireturn, 1) := by decide +kernel
theorem dX4_priorityOf_61 : decode cX4_priorityOf 61 = .ok (.iconst 0, 1) := by decide +kernel
theorem dX4_priorityOf_62 : decode cX4_priorityOf 62 = .ok (.ireturn, 1) := by decide +kernel
theorem dX4_append_0 : decode cX4_append 0 = .ok (.aload_n 0, 1) := by decide +kernel
theorem dX4_append_1 : decode cX4_append 1 = .ok (.getfield 55, 3) := by decide +kernel
theorem dX4_append_4 : decode cX4_append 4 = .ok (.istore 5, 2) := by decide +kernel
theorem dX4_append_6 : decode cX4_append 6 = .ok (.aload_n 0, 1) := by decide +kernel
theorem dX4_append_7 : decode cX4_append 7 = .ok (.dup, 1) := by decide +kernel
theorem dX4_append_8 : decode cX4_append 8 = .ok (.getfield 55, 3) := by decide +kernel
theorem dX4_append_11 : decode cX4_append 11 = .ok (.iconst 1, 1) := by decide +kernel
theorem dX4_append_12 : decode cX4_append 12 = .ok (.iadd, 1) := by decide +kernel
theorem dX4_append_13 : decode cX4_append 13 = .ok (.putfield 55, 3) := by decide +kernel
theorem dX4_append_16 : decode cX4_append 16 = .ok (.aload_n 0, 1) := by decide +kernel
theorem dX4_append_17 : decode cX4_append 17 = .ok (.getfield 25, 3) := by decide +kernel
theorem dX4_append_20 : decode cX4_append 20 = .ok (.iload 5, 2) := by decide +kernel
theorem dX4_append_22 : decode cX4_append 22 = .ok (.iconst 3, 1) := by decide +kernel
theorem dX4_append_23 : decode cX4_append 23 = .ok (.imul, 1) := by decide +kernel
theorem dX4_append_24 : decode cX4_append 24 = .ok (.iload_n 1, 1) := by decide +kernel
theorem dX4_append_25 : decode cX4_append 25 = .ok (.iastore, 1) := by decide +kernel
theorem dX4_append_26 : decode cX4_append 26 = .ok (.aload_n 0, 1) := by decide +kernel
theorem dX4_append_27 : decode cX4_append 27 = .ok (.getfield 25, 3) := by decide +kernel
theorem dX4_append_30 : decode cX4_append 30 = .ok (.iload 5, 2) := by decide +kernel
theorem dX4_append_32 : decode cX4_append 32 = .ok (.iconst 3, 1) := by decide +kernel
theorem dX4_append_33 : decode cX4_append 33 = .ok (.imul, 1) := by decide +kernel
theorem dX4_append_34 : decode cX4_append 34 = .ok (.iconst 1, 1) := by decide +kernel
theorem dX4_append_35 : decode cX4_append 35 = .ok (.iadd, 1) := by decide +kernel
theorem dX4_append_36 : decode cX4_append 36 = .ok (.iload_n 2, 1) := by decide +kernel
theorem dX4_append_37 : decode cX4_append 37 = .ok (.iastore, 1) := by decide +kernel
theorem dX4_append_38 : decode cX4_append 38 = .ok (.aload_n 0, 1) := by decide +kernel
theorem dX4_append_39 : decode cX4_append 39 = .ok (.getfield 25, 3) := by decide +kernel
theorem dX4_append_42 : decode cX4_append 42 = .ok (.iload 5, 2) := by decide +kernel
theorem dX4_append_44 : decode cX4_append 44 = .ok (.iconst 3, 1) := by decide +kernel
theorem dX4_append_45 : decode cX4_append 45 = .ok (.imul, 1) := by decide +kernel
theorem dX4_append_46 : decode cX4_append 46 = .ok (.iconst 2, 1) := by decide +kernel
theorem dX4_append_47 : decode cX4_append 47 = .ok (.iadd, 1) := by decide +kernel
theorem dX4_append_48 : decode cX4_append 48 = .ok (.iload_n 3, 1) := by decide +kernel
theorem dX4_append_49 : decode cX4_append 49 = .ok (.iastore, 1) := by decide +kernel
theorem dX4_append_50 : decode cX4_append 50 = .ok (.aload_n 0, 1) := by decide +kernel
theorem dX4_append_51 : decode cX4_append 51 = .ok (.getfield 28, 3) := by decide +kernel
theorem dX4_append_54 : decode cX4_append 54 = .ok (.iload 5, 2) := by decide +kernel
theorem dX4_append_56 : decode cX4_append 56 = .ok (.iload 4, 2) := by decide +kernel
theorem dX4_append_58 : decode cX4_append 58 = .ok (.iastore, 1) := by decide +kernel
theorem dX4_append_59 : decode cX4_append 59 = .ok (.iload 5, 2) := by decide +kernel
theorem dX4_append_61 : decode cX4_append 61 = .ok (.ireturn, 1) := by decide +kernel
theorem dX4_isDirectlyBefore_0 : decode cX4_isDirectlyBefore 0 = .ok (.aload_n 0, 1) := by decide +kernel
theorem dX4_isDirectlyBefore_1 : decode cX4_isDirectlyBefore 1 = .ok (.getfield 34, 3) := by decide +kernel
theorem dX4_isDirectlyBefore_4 : decode cX4_isDirectlyBefore 4 = .ok (.iload_n 2, 1) := by decide +kernel
theorem dX4_isDirectlyBefore_5 : decode cX4_isDirectlyBefore 5 = .ok (.iaload, 1) := by decide +kernel
theorem dX4_isDirectlyBefore_6 : decode cX4_isDirectlyBefore 6 = .ok (.iload_n 1, 1) := by decide +kernel
theorem dX4_isDirectlyBefore_7 : decode cX4_isDirectlyBefore 7 = .ok (.invokestatic 82, 3) := by decide +kernel
theorem dX4_isDirectlyBefore_10 : decode cX4_isDirectlyBefore 10 = .ok (.ireturn, 1) := by decide +kernel
theorem dX4_isBefore_0 : decode cX4_isBefore 0 = .ok (.aload_n 0, 1) := by decide +kernel
theorem dX4_isBefore_1 : decode cX4_isBefore 1 = .ok (.getfield 37, 3) := by decide +kernel
theorem dX4_isBefore_4 : decode cX4_isBefore 4 = .ok (.iload_n 2, 1) := by decide +kernel
theorem dX4_isBefore_5 : decode cX4_isBefore 5 = .ok (.iaload, 1) := by decide +kernel
theorem dX4_isBefore_6 : decode cX4_isBefore 6 = .ok (.iload_n 1, 1) := by decide +kernel
theorem dX4_isBefore_7 : decode cX4_isBefore 7 = .ok (.invokestatic 82, 3) := by decide +kernel
theorem dX4_isBefore_10 : decode cX4_isBefore 10 = .ok (.ireturn, 1) := by decide +kernel
theorem dX4_link_0 : decode cX4_link 0 = .ok (.aload_n 0, 1) := by decide +kernel
theorem dX4_link_1 : decode cX4_link 1 = .ok (.getfield 34, 3) := by decide +kernel
theorem dX4_link_4 : decode cX4_link 4 = .ok (.iload_n 2, 1) := by decide +kernel
theorem dX4_link_5 : decode cX4_link 5 = .ok (.dup2, 1) := by decide +kernel
theorem dX4_link_6 : decode cX4_link 6 = .ok (.iaload, 1) := by decide +kernel
theorem dX4_link_7 : decode cX4_link 7 = .ok (.iconst 1, 1) := by decide +kernel
theorem dX4_link_8 : decode cX4_link 8 = .ok (.iload_n 1, 1) := by decide +kernel
theorem dX4_link_9 : decode cX4_link 9 = .ok (.ishl, 1) := by decide +kernel
theorem dX4_link_10 : decode cX4_link 10 = .ok (.ior, 1) := by decide +kernel
theorem dX4_link_11 : decode cX4_link 11 = .ok (.iastore, 1) := by decide +kernel
theorem dX4_link_12 : decode cX4_link 12 = .ok (.aload_n 0, 1) := by decide +kernel
theorem dX4_link_13 : decode cX4_link 13 = .ok (.invokevirtual 98, 3) := by decide +kernel
theorem dX4_link_16 : decode cX4_link 16 = .ok (.return_, 1) := by decide +kernel
theorem dX4_unlink_0 : decode cX4_unlink 0 = .ok (.aload_n 0, 1) := by decide +kernel
theorem dX4_unlink_1 : decode cX4_unlink 1 = .ok (.getfield 34, 3) := by decide +kernel
theorem dX4_unlink_4 : decode cX4_unlink 4 = .ok (.iload_n 2, 1) := by decide +kernel
theorem dX4_unlink_5 : decode cX4_unlink 5 = .ok (.dup2, 1) := by decide +kernel
theorem dX4_unlink_6 : decode cX4_unlink 6 = .ok (.iaload, 1) := by decide +kernel
theorem dX4_unlink_7 : decode cX4_unlink 7 = .ok (.iconst 1, 1) := by decide +kernel
theorem dX4_unlink_8 : decode cX4_unlink 8 = .ok (.iload_n 1, 1) := by decide +kernel
theorem dX4_unlink_9 : decode cX4_unlink 9 = .ok (.ishl, 1) := by decide +kernel
theorem dX4_unlink_10 : decode cX4_unlink 10 = .ok (.iconst (-1), 1) := by decide +kernel
theorem dX4_unlink_11 : decode cX4_unlink 11 = .ok (.ixor, 1) := by decide +kernel
theorem dX4_unlink_12 : decode cX4_unlink 12 = .ok (.iand, 1) := by decide +kernel
theorem dX4_unlink_13 : decode cX4_unlink 13 = .ok (.iastore, 1) := by decide +kernel
theorem dX4_unlink_14 : decode cX4_unlink 14 = .ok (.aload_n 0, 1) := by decide +kernel
theorem dX4_unlink_15 : decode cX4_unlink 15 = .ok (.getfield 34, 3) := by decide +kernel
theorem dX4_unlink_18 : decode cX4_unlink 18 = .ok (.iload_n 1, 1) := by decide +kernel
theorem dX4_unlink_19 : decode cX4_unlink 19 = .ok (.dup2, 1) := by decide +kernel
theorem dX4_unlink_20 : decode cX4_unlink 20 = .ok (.iaload, 1) := by decide +kernel
theorem dX4_unlink_21 : decode cX4_unlink 21 = .ok (.iconst 1, 1) := by decide +kernel
theorem dX4_unlink_22 : decode cX4_unlink 22 = .ok (.iload_n 2, 1) := by decide +kernel
theorem dX4_unlink_23 : decode cX4_unlink 23 = .ok (.ishl, 1) := by decide +kernel
theorem dX4_unlink_24 : decode cX4_unlink 24 = .ok (.iconst (-1), 1) := by decide +kernel
theorem dX4_unlink_25 : decode cX4_unlink 25 = .ok (.ixor, 1) := by decide +kernel
theorem dX4_unlink_26 : decode cX4_unlink 26 = .ok (.iand, 1) := by decide +kernel
theorem dX4_unlink_27 : decode cX4_unlink 27 = .ok (.iastore, 1) := by decide +kernel
theorem dX4_unlink_28 : decode cX4_unlink 28 = .ok (.aload_n 0, 1) := by decide +kernel
theorem dX4_unlink_29 : decode cX4_unlink 29 = .ok (.invokevirtual 98, 3) := by decide +kernel
theorem dX4_unlink_32 : decode cX4_unlink 32 = .ok (.return_, 1) := by decide +kernel
theorem dX4_followChains_0 : decode cX4_followChains 0 = .ok (.aload_n 0, 1) := by decide +kernel
theorem dX4_followChains_1 : decode cX4_followChains 1 = .ok (.getfield 34, 3) := by decide +kernel
theorem dX4_followChains_4 : decode cX4_followChains 4 = .ok (.iconst 0, 1) := by decide +kernel
theorem dX4_followChains_5 : decode cX4_followChains 5 = .ok (.aload_n 0, 1) := by decide +kernel
theorem dX4_followChains_6 : decode cX4_followChains 6 = .ok (.getfield 37, 3) := by decide +kernel
theorem dX4_followChains_9 : decode cX4_followChains 9 = .ok (.iconst 0, 1) := by decide +kernel
theorem dX4_followChains_10 : decode cX4_followChains 10 = .ok (.bipush 12, 2) := by decide +kernel
theorem dX4_followChains_12 : decode cX4_followChains 12 = .ok (.invokestatic 68, 3) := by decide +kernel
theorem dX4_followChains_15 : decode cX4_followChains 15 = .ok (.iconst 0, 1) := by decide +kernel
theorem dX4_followChains_16 : decode cX4_followChains 16 = .ok (.istore_n 1, 1) := by decide +kernel
theorem dX4_followChains_17 : decode cX4_followChains 17 = .ok (.iload_n 1, 1) := by decide +kernel
theorem dX4_followChains_18 : decode cX4_followChains 18 = .ok (.bipush 12, 2) := by decide +kernel
theorem dX4_followChains_20 : decode cX4_followChains 20 = .ok (.if_icmp .ge 55, 3) := by decide +kernel
theorem dX4_followChains_23 : decode cX4_followChains 23 = .ok (.iconst 0, 1) := by decide +kernel
theorem dX4_followChains_24 : decode cX4_followChains 24 = .ok (.istore_n 2, 1) := by decide +kernel
theorem dX4_followChains_25 : decode cX4_followChains 25 = .ok (.iload_n 2, 1) := by decide +kernel
theorem dX4_followChains_26 : decode cX4_followChains 26 = .ok (.bipush 12, 2) := by decide +kernel
theorem dX4_followChains_28 : decode cX4_followChains 28 = .ok (.if_icmp .ge 41, 3) := by decide +kernel
theorem dX4_followChains_31 : decode cX4_followChains 31 = .ok (.aload_n 0, 1) := by decide +kernel
theorem dX4_followChains_32 : decode cX4_followChains 32 = .ok (.getfield 37, 3) := by decide +kernel
theorem dX4_followChains_35 : decode cX4_followChains 35 = .ok (.iload_n 2, 1) := by decide +kernel
theorem dX4_followChains_36 : decode cX4_followChains 36 = .ok (.dup2, 1) := by decide +kernel
theorem dX4_followChains_37 : decode cX4_followChains 37 = .ok (.iaload, 1) := by decide +kernel
theorem dX4_followChains_38 : decode cX4_followChains 38 = .ok (.aload_n 0, 1) := by decide +kernel
theorem dX4_followChains_39 : decode cX4_followChains 39 = .ok (.getfield 37, 3) := by decide +kernel
theorem dX4_followChains_42 : decode cX4_followChains 42 = .ok (.iload_n 2, 1) := by decide +kernel
theorem dX4_followChains_43 : decode cX4_followChains 43 = .ok (.iaload, 1) := by decide +kernel
theorem dX4_followChains_44 : decode cX4_followChains 44 = .ok (.iload_n 1, 1) := by decide +kernel
theorem dX4_followChains_45 : decode cX4_followChains 45 = .ok (.invokestatic 82, 3) := by decide +kernel
theorem dX4_followChains_48 : decode cX4_followChains 48 = .ok (.ifCond .eq 12, 3) := by decide +kernel
theorem dX4_followChains_51 : decode cX4_followChains 51 = .ok (.aload_n 0, 1) := by decide +kernel
theorem dX4_followChains_52 : decode cX4_followChains 52 = .ok (.getfield 37, 3) := by decide +kernel
theorem dX4_followChains_55 : decode cX4_followChains 55 = .ok (.iload_n 1, 1) := by decide +kernel
theorem dX4_followChains_56 : decode cX4_followChains 56 = .ok (.iaload, 1) := by decide +kernel
theorem dX4_followChains_57 : decode cX4_followChains 57 = .ok (.goto 4, 3) := by decide +kernel
theorem dX4_followChains_60 : decode cX4_followChains 60 = .ok (.iconst 0, 1) := by decide +kernel
theorem dX4_followChains_61 : decode cX4_followChains 61 = .ok (.ior, 1) := by decide +kernel
theorem dX4_followChains_62 : decode cX4_followChains 62 = .ok (.iastore, 1) := by decide +kernel
theorem dX4_followChains_63 : decode cX4_followChains 63 = .ok (.iinc 2 1, 3) := by decide +kernel
theorem dX4_followChains_66 : decode cX4_followChains 66 = .ok (.goto (-41), 3) := by decide +kernel
theorem dX4_followChains_69 : decode cX4_followChains 69 = .ok (.iinc 1 1, 3) := by decide +kernel
theorem dX4_followChains_72 : decode cX4_followChains 72 = .ok (.goto (-55), 3) := by decide +kernel
theorem dX4_followChains_75 : decode cX4_followChains 75 = .ok (.aload_n 0, 1) := by decide +kernel
theorem dX4_followChains_76 : decode cX4_followChains 76 = .ok (.getfield 40, 3) := by decide +kernel
theorem dX4_followChains_79 : decode cX4_followChains 79 = .ok (.iconst 0, 1) := by decide +kernel
theorem dX4_followChains_80 : decode cX4_followChains 80 = .ok (.invokestatic 49, 3) := by decide +kernel
theorem dX4_followChains_83 : decode cX4_followChains 83 = .ok (.iconst 0, 1) := by decide +kernel
theorem dX4_followChains_84 : decode cX4_followChains 84 = .ok (.istore_n 1, 1) := by decide +kernel
theorem dX4_followChains_85 : decode cX4_followChains 85 = .ok (.iload_n 1, 1) := by decide +kernel
theorem dX4_followChains_86 : decode cX4_followChains 86 = .ok (.bipush 12, 2) := by decide +kernel
theorem dX4_followChains_88 : decode cX4_followChains 88 = .ok (.if_icmp .ge 52, 3) := by decide +kernel
theorem dX4_followChains_91 : decode cX4_followChains 91 = .ok (.iconst 0, 1) := by decide +kernel
theorem dX4_followChains_92 : decode cX4_followChains 92 = .ok (.istore_n 2, 1) := by decide +kernel
theorem dX4_followChains_93 : decode cX4_followChains 93 = .ok (.iload_n 2, 1) := by decide +kernel
theorem dX4_followChains_94 : decode cX4_followChains 94 = .ok (.bipush 12, 2) := by decide +kernel
theorem dX4_followChains_96 : decode cX4_followChains 96 = .ok (.if_icmp .ge 38, 3) := by decide +kernel
theorem dX4_followChains_99 : decode cX4_followChains 99 = .ok (.aload_n 0, 1) := by decide +kernel
theorem dX4_followChains_100 : decode cX4_followChains 100 = .ok (.getfield 40, 3) := by decide +kernel
theorem dX4_followChains_103 : decode cX4_followChains 103 = .ok (.iload_n 1, 1) := by decide +kernel
theorem dX4_followChains_104 : decode cX4_followChains 104 = .ok (.dup2, 1) := by decide +kernel
theorem dX4_followChains_105 : decode cX4_followChains 105 = .ok (.iaload, 1) := by decide +kernel
theorem dX4_followChains_106 : decode cX4_followChains 106 = .ok (.aload_n 0, 1) := by decide +kernel
theorem dX4_followChains_107 : decode cX4_followChains 107 = .ok (.getfield 37, 3) := by decide +kernel
theorem dX4_followChains_110 : decode cX4_followChains 110 = .ok (.iload_n 2, 1) := by decide +kernel
theorem dX4_followChains_111 : decode cX4_followChains 111 = .ok (.iaload, 1) := by decide +kernel
theorem dX4_followChains_112 : decode cX4_followChains 112 = .ok (.iload_n 1, 1) := by decide +kernel
theorem dX4_followChains_113 : decode cX4_followChains 113 = .ok (.invokestatic 82, 3) := by decide +kernel
theorem dX4_followChains_116 : decode cX4_followChains 116 = .ok (.ifCond .eq 9, 3) := by decide +kernel
theorem dX4_followChains_119 : decode cX4_followChains 119 = .ok (.iconst 1, 1) := by decide +kernel
theorem dX4_followChains_120 : decode cX4_followChains 120 = .ok (.iload_n 2, 1) := by decide +kernel
theorem dX4_followChains_121 : decode cX4_followChains 121 = .ok (.ishl, 1) := by decide +kernel
theorem dX4_followChains_122 : decode cX4_followChains 122 = .ok (.goto 4, 3) := by decide +kernel
theorem dX4_followChains_125 : decode cX4_followChains 125 = .ok (.iconst 0, 1) := by decide +kernel
theorem dX4_followChains_126 : decode cX4_followChains 126 = .ok (.ior, 1) := by decide +kernel
theorem dX4_followChains_127 : decode cX4_followChains 127 = .ok (.iastore, 1) := by decide +kernel
theorem dX4_followChains_128 : decode cX4_followChains 128 = .ok (.iinc 2 1, 3) := by decide +kernel
theorem dX4_followChains_131 : decode cX4_followChains 131 = .ok (.goto (-38), 3) := by decide +kernel
theorem dX4_followChains_134 : decode cX4_followChains 134 = .ok (.iinc 1 1, 3) := by decide +kernel
theorem dX4_followChains_137 : decode cX4_followChains 137 = .ok (.goto (-52), 3) := by decide +kernel
theorem dX4_followChains_140 : decode cX4_followChains 140 = .ok (.return_, 1) := by decide +kernel
theorem dX4_pairKind_0 : decode cX4_pairKind 0 = .ok (.aload_n 0, 1) := by decide +kernel
theorem dX4_pairKind_1 : decode cX4_pairKind 1 = .ok (.getfield 43, 3) := by decide +kernel
theorem dX4_pairKind_4 : decode cX4_pairKind 4 = .ok (.iload_n 1, 1) := by decide +kernel
theorem dX4_pairKind_5 : decode cX4_pairKind 5 = .ok (.iaload, 1) := by decide +kernel
theorem dX4_pairKind_6 : decode cX4_pairKind 6 = .ok (.iload_n 2, 1) := by decide +kernel
theorem dX4_pairKind_7 : decode cX4_pairKind 7 = .ok (.invokestatic 82, 3) := by decide +kernel
theorem dX4_pairKind_10 : decode cX4_pairKind 10 = .ok (.ifCond .eq 5, 3) := by decide +kernel
theorem dX4_pairKind_13 : decode cX4_pairKind 13 = .ok (.iconst 1, 1) := by decide +kernel
theorem dX4_pairKind_14 : decode cX4_pairKind 14 = .ok (.ireturn, 1) := by decide +kernel
theorem dX4_pairKind_15 : decode cX4_pairKind 15 = .ok (.aload_n 0, 1) := by decide +kernel
theorem dX4_pairKind_16 : decode cX4_pairKind 16 = .ok (.getfield 46, 3) := by decide +kernel
theorem dX4_pairKind_19 : decode cX4_pairKind 19 = .ok (.iload_n 1, 1) := by decide +kernel
theorem dX4_pairKind_20 : decode cX4_pairKind 20 = .ok (.iaload, 1) := by decide +kernel
theorem dX4_pairKind_21 : decode cX4_pairKind 21 = .ok (.iload_n 2, 1) := by decide +kernel
theorem dX4_pairKind_22 : decode cX4_pairKind 22 = .ok (.invokestatic 82, 3) := by decide +kernel
theorem dX4_pairKind_25 : decode cX4_pairKind 25 = .ok (.ifCond .eq 7, 3) := by decide +kernel
theorem dX4_pairKind_28 : decode cX4_pairKind 28 = .ok (.iconst 2, 1) := by decide +kernel
theorem dX4_pairKind_29 : decode cX4_pairKind 29 = .ok (.goto 4, 3) := by decide +kernel
theorem dX4_pairKind_32 : decode cX4_pairKind 32 = .ok (.iconst 0, 1) := by decide +kernel
theorem dX4_pairKind_33 : decode cX4_pairKind 33 = .ok (.ireturn, 1) := by decide +kernel
theorem dX4_join_0 : decode cX4_join 0 = .ok (.aload_n 0, 1) := by decide +kernel
theorem dX4_join_1 : decode cX4_join 1 = .ok (.iload_n 1, 1) := by decide +kernel
theorem dX4_join_2 : decode cX4_join 2 = .ok (.iload_n 2, 1) := by decide +kernel
theorem dX4_join_3 : decode cX4_join 3 = .ok (.invokevirtual 101, 3) := by decide +kernel
theorem dX4_join_6 : decode cX4_join 6 = .ok (.iload_n 3, 1) := by decide +kernel
theorem dX4_join_7 : decode cX4_join 7 = .ok (.ifCond .eq 10, 3) := by decide +kernel
theorem dX4_join_10 : decode cX4_join 10 = .ok (.aload_n 0, 1) := by decide +kernel
theorem dX4_join_11 : decode cX4_join 11 = .ok (.getfield 43, 3) := by decide +kernel
theorem dX4_join_14 : decode cX4_join 14 = .ok (.goto 7, 3) := by decide +kernel
theorem dX4_join_17 : decode cX4_join 17 = .ok (.aload_n 0, 1) := by decide +kernel
theorem dX4_join_18 : decode cX4_join 18 = .ok (.getfield 46, 3) := by decide +kernel
theorem dX4_join_21 : decode cX4_join 21 = .ok (.astore 4, 2) := by decide +kernel
theorem dX4_join_23 : decode cX4_join 23 = .ok (.aload 4, 2) := by decide +kernel
theorem dX4_join_25 : decode cX4_join 25 = .ok (.iload_n 1, 1) := by decide +kernel
theorem dX4_join_26 : decode cX4_join 26 = .ok (.dup2, 1) := by decide +kernel
theorem dX4_join_27 : decode cX4_join 27 = .ok (.iaload, 1) := by decide +kernel
theorem dX4_join_28 : decode cX4_join 28 = .ok (.iconst 1, 1) := by decide +kernel
theorem dX4_join_29 : decode cX4_join 29 = .ok (.iload_n 2, 1) := by decide +kernel
theorem dX4_join_30 : decode cX4_join 30 = .ok (.ishl, 1) := by decide +kernel
theorem dX4_join_31 : decode cX4_join 31 = .ok (.ior, 1) := by decide +kernel
theorem dX4_join_32 : decode cX4_join 32 = .ok (.iastore, 1) := by decide +kernel
theorem dX4_join_33 : decode cX4_join 33 = .ok (.aload 4, 2) := by decide +kernel
theorem dX4_join_35 : decode cX4_join 35 = .ok (.iload_n 2, 1) := by decide +kernel
theorem dX4_join_36 : decode cX4_join 36 = .ok (.dup2, 1) := by decide +kernel
theorem dX4_join_37 : decode cX4_join 37 = .ok (.iaload, 1) := by decide +kernel
theorem dX4_join_38 : decode cX4_join 38 = .ok (.iconst 1, 1) := by decide +kernel
theorem dX4_join_39 : decode cX4_join 39 = .ok (.iload_n 1, 1) := by decide +kernel
theorem dX4_join_40 : decode cX4_join 40 = .ok (.ishl, 1) := by decide +kernel
theorem dX4_join_41 : decode cX4_join 41 = .ok (.ior, 1) := by decide +kernel
theorem dX4_join_42 : decode cX4_join 42 = .ok (.iastore, 1) := by decide +kernel
theorem dX4_join_43 : decode cX4_join 43 = .ok (.return_, 1) := by decide +kernel
theorem dX4_unpair_0 : decode cX4_unpair 0 = .ok (.aload_n 0, 1) := by decide +kernel
theorem dX4_unpair_1 : decode cX4_unpair 1 = .ok (.getfield 43, 3) := by decide +kernel
theorem dX4_unpair_4 : decode cX4_unpair 4 = .ok (.iload_n 1, 1) := by decide +kernel
theorem dX4_unpair_5 : decode cX4_unpair 5 = .ok (.dup2, 1) := by decide +kernel
theorem dX4_unpair_6 : decode cX4_unpair 6 = .ok (.iaload, 1) := by decide +kernel
theorem dX4_unpair_7 : decode cX4_unpair 7 = .ok (.iconst 1, 1) := by decide +kernel
theorem dX4_unpair_8 : decode cX4_unpair 8 = .ok (.iload_n 2, 1) := by decide +kernel
theorem dX4_unpair_9 : decode cX4_unpair 9 = .ok (.ishl, 1) := by decide +kernel
theorem dX4_unpair_10 : decode cX4_unpair 10 = .ok (.iconst (-1), 1) := by decide +kernel
theorem dX4_unpair_11 : decode cX4_unpair 11 = .ok (.ixor, 1) := by decide +kernel
theorem dX4_unpair_12 : decode cX4_unpair 12 = .ok (.iand, 1) := by decide +kernel
theorem dX4_unpair_13 : decode cX4_unpair 13 = .ok (.iastore, 1) := by decide +kernel
theorem dX4_unpair_14 : decode cX4_unpair 14 = .ok (.aload_n 0, 1) := by decide +kernel
theorem dX4_unpair_15 : decode cX4_unpair 15 = .ok (.getfield 43, 3) := by decide +kernel
theorem dX4_unpair_18 : decode cX4_unpair 18 = .ok (.iload_n 2, 1) := by decide +kernel
theorem dX4_unpair_19 : decode cX4_unpair 19 = .ok (.dup2, 1) := by decide +kernel
theorem dX4_unpair_20 : decode cX4_unpair 20 = .ok (.iaload, 1) := by decide +kernel
theorem dX4_unpair_21 : decode cX4_unpair 21 = .ok (.iconst 1, 1) := by decide +kernel
theorem dX4_unpair_22 : decode cX4_unpair 22 = .ok (.iload_n 1, 1) := by decide +kernel
theorem dX4_unpair_23 : decode cX4_unpair 23 = .ok (.ishl, 1) := by decide +kernel
theorem dX4_unpair_24 : decode cX4_unpair 24 = .ok (.iconst (-1), 1) := by decide +kernel
theorem dX4_unpair_25 : decode cX4_unpair 25 = .ok (.ixor, 1) := by decide +kernel
theorem dX4_unpair_26 : decode cX4_unpair 26 = .ok (.iand, 1) := by decide +kernel
theorem dX4_unpair_27 : decode cX4_unpair 27 = .ok (.iastore, 1) := by decide +kernel
theorem dX4_unpair_28 : decode cX4_unpair 28 = .ok (.aload_n 0, 1) := by decide +kernel
theorem dX4_unpair_29 : decode cX4_unpair 29 = .ok (.getfield 46, 3) := by decide +kernel
theorem dX4_unpair_32 : decode cX4_unpair 32 = .ok (.iload_n 1, 1) := by decide +kernel
theorem dX4_unpair_33 : decode cX4_unpair 33 = .ok (.dup2, 1) := by decide +kernel
theorem dX4_unpair_34 : decode cX4_unpair 34 = .ok (.iaload, 1) := by decide +kernel
theorem dX4_unpair_35 : decode cX4_unpair 35 = .ok (.iconst 1, 1) := by decide +kernel
theorem dX4_unpair_36 : decode cX4_unpair 36 = .ok (.iload_n 2, 1) := by decide +kernel
theorem dX4_unpair_37 : decode cX4_unpair 37 = .ok (.ishl, 1) := by decide +kernel
theorem dX4_unpair_38 : decode cX4_unpair 38 = .ok (.iconst (-1), 1) := by decide +kernel
theorem dX4_unpair_39 : decode cX4_unpair 39 = .ok (.ixor, 1) := by decide +kernel
theorem dX4_unpair_40 : decode cX4_unpair 40 = .ok (.iand, 1) := by decide +kernel
theorem dX4_unpair_41 : decode cX4_unpair 41 = .ok (.iastore, 1) := by decide +kernel
theorem dX4_unpair_42 : decode cX4_unpair 42 = .ok (.aload_n 0, 1) := by decide +kernel
theorem dX4_unpair_43 : decode cX4_unpair 43 = .ok (.getfield 46, 3) := by decide +kernel
theorem dX4_unpair_46 : decode cX4_unpair 46 = .ok (.iload_n 2, 1) := by decide +kernel
theorem dX4_unpair_47 : decode cX4_unpair 47 = .ok (.dup2, 1) := by decide +kernel
theorem dX4_unpair_48 : decode cX4_unpair 48 = .ok (.iaload, 1) := by decide +kernel
theorem dX4_unpair_49 : decode cX4_unpair 49 = .ok (.iconst 1, 1) := by decide +kernel
theorem dX4_unpair_50 : decode cX4_unpair 50 = .ok (.iload_n 1, 1) := by decide +kernel
theorem dX4_unpair_51 : decode cX4_unpair 51 = .ok (.ishl, 1) := by decide +kernel
theorem dX4_unpair_52 : decode cX4_unpair 52 = .ok (.iconst (-1), 1) := by decide +kernel
theorem dX4_unpair_53 : decode cX4_unpair 53 = .ok (.ixor, 1) := by decide +kernel
theorem dX4_unpair_54 : decode cX4_unpair 54 = .ok (.iand, 1) := by decide +kernel
theorem dX4_unpair_55 : decode cX4_unpair 55 = .ok (.iastore, 1) := by decide +kernel
theorem dX4_unpair_56 : decode cX4_unpair 56 = .ok (.return_, 1) := by decide +kernel
theorem dX4_takeAllOut_0 : decode cX4_takeAllOut 0 = .ok (.aload_n 0, 1) := by decide +kernel
theorem dX4_takeAllOut_1 : decode cX4_takeAllOut 1 = .ok (.getfield 31, 3) := by decide +kernel
theorem dX4_takeAllOut_4 : decode cX4_takeAllOut 4 = .ok (.iconst (-1), 1) := by decide +kernel
theorem dX4_takeAllOut_5 : decode cX4_takeAllOut 5 = .ok (.invokestatic 49, 3) := by decide +kernel
theorem dX4_takeAllOut_8 : decode cX4_takeAllOut 8 = .ok (.return_, 1) := by decide +kernel
theorem dX5_init_0 : decode cX5_init 0 = .ok (.aload_n 0, 1) := by decide +kernel
theorem dX5_init_1 : decode cX5_init 1 = .ok (.invokespecial 3, 3) := by decide +kernel
theorem dX5_init_4 : decode cX5_init 4 = .ok (.aload_n 0, 1) := by decide +kernel
theorem dX5_init_5 : decode cX5_init 5 = .ok (.new 9, 3) := by decide +kernel
theorem dX5_init_8 : decode cX5_init 8 = .ok (.dup, 1) := by decide +kernel
theorem dX5_init_9 : decode cX5_init 9 = .ok (.invokespecial 11, 3) := by decide +kernel
theorem dX5_init_12 : decode cX5_init 12 = .ok (.putfield 12, 3) := by decide +kernel
theorem dX5_init_15 : decode cX5_init 15 = .ok (.aload_n 0, 1) := by decide +kernel
theorem dX5_init_16 : decode cX5_init 16 = .ok (.aload_n 1, 1) := by decide +kernel
theorem dX5_init_17 : decode cX5_init 17 = .ok (.putfield 18, 3) := by decide +kernel
theorem dX5_init_20 : decode cX5_init 20 = .ok (.return_, 1) := by decide +kernel
theorem dX5_tasksIn_0 : decode cX5_tasksIn 0 = .ok (.iconst 0, 1) := by decide +kernel
theorem dX5_tasksIn_1 : decode cX5_tasksIn 1 = .ok (.istore_n 3, 1) := by decide +kernel
theorem dX5_tasksIn_2 : decode cX5_tasksIn 2 = .ok (.iconst 0, 1) := by decide +kernel
theorem dX5_tasksIn_3 : decode cX5_tasksIn 3 = .ok (.istore 4, 2) := by decide +kernel
theorem dX5_tasksIn_5 : decode cX5_tasksIn 5 = .ok (.iload 4, 2) := by decide +kernel
theorem dX5_tasksIn_7 : decode cX5_tasksIn 7 = .ok (.bipush 12, 2) := by decide +kernel
theorem dX5_tasksIn_9 : decode cX5_tasksIn 9 = .ok (.if_icmp .ge 38, 3) := by decide +kernel
theorem dX5_tasksIn_12 : decode cX5_tasksIn 12 = .ok (.iload_n 3, 1) := by decide +kernel
theorem dX5_tasksIn_13 : decode cX5_tasksIn 13 = .ok (.aload_n 0, 1) := by decide +kernel
theorem dX5_tasksIn_14 : decode cX5_tasksIn 14 = .ok (.getfield 18, 3) := by decide +kernel
theorem dX5_tasksIn_17 : decode cX5_tasksIn 17 = .ok (.getfield 22, 3) := by decide +kernel
theorem dX5_tasksIn_20 : decode cX5_tasksIn 20 = .ok (.iload 4, 2) := by decide +kernel
theorem dX5_tasksIn_22 : decode cX5_tasksIn 22 = .ok (.iaload, 1) := by decide +kernel
theorem dX5_tasksIn_23 : decode cX5_tasksIn 23 = .ok (.iload_n 1, 1) := by decide +kernel
theorem dX5_tasksIn_24 : decode cX5_tasksIn 24 = .ok (.iload_n 2, 1) := by decide +kernel
theorem dX5_tasksIn_25 : decode cX5_tasksIn 25 = .ok (.invokestatic 28, 3) := by decide +kernel
theorem dX5_tasksIn_28 : decode cX5_tasksIn 28 = .ok (.ifCond .eq 10, 3) := by decide +kernel
theorem dX5_tasksIn_31 : decode cX5_tasksIn 31 = .ok (.iconst 1, 1) := by decide +kernel
theorem dX5_tasksIn_32 : decode cX5_tasksIn 32 = .ok (.iload 4, 2) := by decide +kernel
theorem dX5_tasksIn_34 : decode cX5_tasksIn 34 = .ok (.ishl, 1) := by decide +kernel
theorem dX5_tasksIn_35 : decode cX5_tasksIn 35 = .ok (.goto 4, 3) := by decide +kernel
theorem dX5_tasksIn_38 : decode cX5_tasksIn 38 = .ok (.iconst 0, 1) := by decide +kernel
theorem dX5_tasksIn_39 : decode cX5_tasksIn 39 = .ok (.ior, 1) := by decide +kernel
theorem dX5_tasksIn_40 : decode cX5_tasksIn 40 = .ok (.istore_n 3, 1) := by decide +kernel
theorem dX5_tasksIn_41 : decode cX5_tasksIn 41 = .ok (.iinc 4 1, 3) := by decide +kernel
theorem dX5_tasksIn_44 : decode cX5_tasksIn 44 = .ok (.goto (-39), 3) := by decide +kernel
theorem dX5_tasksIn_47 : decode cX5_tasksIn 47 = .ok (.iload_n 3, 1) := by decide +kernel
theorem dX5_tasksIn_48 : decode cX5_tasksIn 48 = .ok (.ireturn, 1) := by decide +kernel
theorem dX5_placed_0 : decode cX5_placed 0 = .ok (.aload_n 0, 1) := by decide +kernel
theorem dX5_placed_1 : decode cX5_placed 1 = .ok (.iconst 0, 1) := by decide +kernel
theorem dX5_placed_2 : decode cX5_placed 2 = .ok (.bipush 7, 2) := by decide +kernel
theorem dX5_placed_4 : decode cX5_placed 4 = .ok (.invokevirtual 32, 3) := by decide +kernel
theorem dX5_placed_7 : decode cX5_placed 7 = .ok (.ireturn, 1) := by decide +kernel
theorem dX5_isUsed_0 : decode cX5_isUsed 0 = .ok (.aload_n 0, 1) := by decide +kernel
theorem dX5_isUsed_1 : decode cX5_isUsed 1 = .ok (.iload_n 1, 1) := by decide +kernel
theorem dX5_isUsed_2 : decode cX5_isUsed 2 = .ok (.iload_n 1, 1) := by decide +kernel
theorem dX5_isUsed_3 : decode cX5_isUsed 3 = .ok (.invokevirtual 32, 3) := by decide +kernel
theorem dX5_isUsed_6 : decode cX5_isUsed 6 = .ok (.ifCond .eq 7, 3) := by decide +kernel
theorem dX5_isUsed_9 : decode cX5_isUsed 9 = .ok (.iconst 1, 1) := by decide +kernel
theorem dX5_isUsed_10 : decode cX5_isUsed 10 = .ok (.goto 4, 3) := by decide +kernel
theorem dX5_isUsed_13 : decode cX5_isUsed 13 = .ok (.iconst 0, 1) := by decide +kernel
theorem dX5_isUsed_14 : decode cX5_isUsed 14 = .ok (.ireturn, 1) := by decide +kernel
theorem dX5_workIn_0 : decode cX5_workIn 0 = .ok (.aload_n 0, 1) := by decide +kernel
theorem dX5_workIn_1 : decode cX5_workIn 1 = .ok (.getfield 12, 3) := by decide +kernel
theorem dX5_workIn_4 : decode cX5_workIn 4 = .ok (.aload_n 0, 1) := by decide +kernel
theorem dX5_workIn_5 : decode cX5_workIn 5 = .ok (.getfield 18, 3) := by decide +kernel
theorem dX5_workIn_8 : decode cX5_workIn 8 = .ok (.aload_n 0, 1) := by decide +kernel
theorem dX5_workIn_9 : decode cX5_workIn 9 = .ok (.iload_n 1, 1) := by decide +kernel
theorem dX5_workIn_10 : decode cX5_workIn 10 = .ok (.iload_n 1, 1) := by decide +kernel
theorem dX5_workIn_11 : decode cX5_workIn 11 = .ok (.invokevirtual 32, 3) := by decide +kernel
theorem dX5_workIn_14 : decode cX5_workIn 14 = .ok (.invokevirtual 36, 3) := by decide +kernel
theorem dX5_workIn_17 : decode cX5_workIn 17 = .ok (.aload_n 0, 1) := by decide +kernel
theorem dX5_workIn_18 : decode cX5_workIn 18 = .ok (.getfield 12, 3) := by decide +kernel
theorem dX5_workIn_21 : decode cX5_workIn 21 = .ok (.areturn, 1) := by decide +kernel
theorem dX5_loadOf_0 : decode cX5_loadOf 0 = .ok (.aload_n 0, 1) := by decide +kernel
theorem dX5_loadOf_1 : decode cX5_loadOf 1 = .ok (.iload_n 1, 1) := by decide +kernel
theorem dX5_loadOf_2 : decode cX5_loadOf 2 = .ok (.invokevirtual 40, 3) := by decide +kernel
theorem dX5_loadOf_5 : decode cX5_loadOf 5 = .ok (.getfield 44, 3) := by decide +kernel
theorem dX5_loadOf_8 : decode cX5_loadOf 8 = .ok (.ireturn, 1) := by decide +kernel
theorem dX5_lackOf_0 : decode cX5_lackOf 0 = .ok (.aload_n 0, 1) := by decide +kernel
theorem dX5_lackOf_1 : decode cX5_lackOf 1 = .ok (.iload_n 1, 1) := by decide +kernel
theorem dX5_lackOf_2 : decode cX5_lackOf 2 = .ok (.invokevirtual 40, 3) := by decide +kernel
theorem dX5_lackOf_5 : decode cX5_lackOf 5 = .ok (.aload_n 0, 1) := by decide +kernel
theorem dX5_lackOf_6 : decode cX5_lackOf 6 = .ok (.getfield 18, 3) := by decide +kernel
theorem dX5_lackOf_9 : decode cX5_lackOf 9 = .ok (.aload_n 0, 1) := by decide +kernel
theorem dX5_lackOf_10 : decode cX5_lackOf 10 = .ok (.getfield 18, 3) := by decide +kernel
theorem dX5_lackOf_13 : decode cX5_lackOf 13 = .ok (.getfield 48, 3) := by decide +kernel
theorem dX5_lackOf_16 : decode cX5_lackOf 16 = .ok (.iload_n 1, 1) := by decide +kernel
theorem dX5_lackOf_17 : decode cX5_lackOf 17 = .ok (.iaload, 1) := by decide +kernel
theorem dX5_lackOf_18 : decode cX5_lackOf 18 = .ok (.invokevirtual 51, 3) := by decide +kernel
theorem dX5_lackOf_21 : decode cX5_lackOf 21 = .ok (.ireturn, 1) := by decide +kernel
theorem dX5_isFitting_0 : decode cX5_isFitting 0 = .ok (.aload_n 0, 1) := by decide +kernel
theorem dX5_isFitting_1 : decode cX5_isFitting 1 = .ok (.iload_n 1, 1) := by decide +kernel
theorem dX5_isFitting_2 : decode cX5_isFitting 2 = .ok (.invokevirtual 40, 3) := by decide +kernel
theorem dX5_isFitting_5 : decode cX5_isFitting 5 = .ok (.aload_n 0, 1) := by decide +kernel
theorem dX5_isFitting_6 : decode cX5_isFitting 6 = .ok (.getfield 18, 3) := by decide +kernel
theorem dX5_isFitting_9 : decode cX5_isFitting 9 = .ok (.aload_n 0, 1) := by decide +kernel
theorem dX5_isFitting_10 : decode cX5_isFitting 10 = .ok (.getfield 18, 3) := by decide +kernel
theorem dX5_isFitting_13 : decode cX5_isFitting 13 = .ok (.getfield 48, 3) := by decide +kernel
theorem dX5_isFitting_16 : decode cX5_isFitting 16 = .ok (.iload_n 1, 1) := by decide +kernel
theorem dX5_isFitting_17 : decode cX5_isFitting 17 = .ok (.iaload, 1) := by decide +kernel
theorem dX5_isFitting_18 : decode cX5_isFitting 18 = .ok (.invokevirtual 55, 3) := by decide +kernel
theorem dX5_isFitting_21 : decode cX5_isFitting 21 = .ok (.ireturn, 1) := by decide +kernel
theorem dX5_refusal_0 : decode cX5_refusal 0 = .ok (.aload_n 0, 1) := by decide +kernel
theorem dX5_refusal_1 : decode cX5_refusal 1 = .ok (.iconst 0, 1) := by decide +kernel
theorem dX5_refusal_2 : decode cX5_refusal 2 = .ok (.iload_n 2, 1) := by decide +kernel
theorem dX5_refusal_3 : decode cX5_refusal 3 = .ok (.iconst 1, 1) := by decide +kernel
theorem dX5_refusal_4 : decode cX5_refusal 4 = .ok (.isub, 1) := by decide +kernel
theorem dX5_refusal_5 : decode cX5_refusal 5 = .ok (.invokevirtual 32, 3) := by decide +kernel
theorem dX5_refusal_8 : decode cX5_refusal 8 = .ok (.istore_n 3, 1) := by decide +kernel
theorem dX5_refusal_9 : decode cX5_refusal 9 = .ok (.aload_n 0, 1) := by decide +kernel
theorem dX5_refusal_10 : decode cX5_refusal 10 = .ok (.iload_n 2, 1) := by decide +kernel
theorem dX5_refusal_11 : decode cX5_refusal 11 = .ok (.iload_n 2, 1) := by decide +kernel
theorem dX5_refusal_12 : decode cX5_refusal 12 = .ok (.invokevirtual 32, 3) := by decide +kernel
theorem dX5_refusal_15 : decode cX5_refusal 15 = .ok (.istore 4, 2) := by decide +kernel
theorem dX5_refusal_17 : decode cX5_refusal 17 = .ok (.aload_n 0, 1) := by decide +kernel
theorem dX5_refusal_18 : decode cX5_refusal 18 = .ok (.iload_n 2, 1) := by decide +kernel
theorem dX5_refusal_19 : decode cX5_refusal 19 = .ok (.iconst 1, 1) := by decide +kernel
theorem dX5_refusal_20 : decode cX5_refusal 20 = .ok (.iadd, 1) := by decide +kernel
theorem dX5_refusal_21 : decode cX5_refusal 21 = .ok (.bipush 7, 2) := by decide +kernel
theorem dX5_refusal_23 : decode cX5_refusal 23 = .ok (.invokevirtual 32, 3) := by decide +kernel
theorem dX5_refusal_26 : decode cX5_refusal 26 = .ok (.istore 5, 2) := by decide +kernel
theorem dX5_refusal_28 : decode cX5_refusal 28 = .ok (.aload_n 0, 1) := by decide +kernel
theorem dX5_refusal_29 : decode cX5_refusal 29 = .ok (.getfield 18, 3) := by decide +kernel
theorem dX5_refusal_32 : decode cX5_refusal 32 = .ok (.getfield 59, 3) := by decide +kernel
theorem dX5_refusal_35 : decode cX5_refusal 35 = .ok (.iload_n 1, 1) := by decide +kernel
theorem dX5_refusal_36 : decode cX5_refusal 36 = .ok (.iaload, 1) := by decide +kernel
theorem dX5_refusal_37 : decode cX5_refusal 37 = .ok (.iload 5, 2) := by decide +kernel
theorem dX5_refusal_39 : decode cX5_refusal 39 = .ok (.iand, 1) := by decide +kernel
theorem dX5_refusal_40 : decode cX5_refusal 40 = .ok (.ifCond .eq 5, 3) := by decide +kernel
theorem dX5_refusal_43 : decode cX5_refusal 43 = .ok (.iconst 1, 1) := by decide +kernel
theorem dX5_refusal_44 : decode cX5_refusal 44 = .ok (.ireturn, 1) := by decide +kernel
theorem dX5_refusal_45 : decode cX5_refusal 45 = .ok (.aload_n 0, 1) := by decide +kernel
theorem dX5_refusal_46 : decode cX5_refusal 46 = .ok (.getfield 18, 3) := by decide +kernel
theorem dX5_refusal_49 : decode cX5_refusal 49 = .ok (.getfield 62, 3) := by decide +kernel
theorem dX5_refusal_52 : decode cX5_refusal 52 = .ok (.iload_n 1, 1) := by decide +kernel
theorem dX5_refusal_53 : decode cX5_refusal 53 = .ok (.iaload, 1) := by decide +kernel
theorem dX5_refusal_54 : decode cX5_refusal 54 = .ok (.iload_n 3, 1) := by decide +kernel
theorem dX5_refusal_55 : decode cX5_refusal 55 = .ok (.iand, 1) := by decide +kernel
theorem dX5_refusal_56 : decode cX5_refusal 56 = .ok (.ifCond .eq 5, 3) := by decide +kernel
theorem dX5_refusal_59 : decode cX5_refusal 59 = .ok (.iconst 2, 1) := by decide +kernel
theorem dX5_refusal_60 : decode cX5_refusal 60 = .ok (.ireturn, 1) := by decide +kernel
theorem dX5_refusal_61 : decode cX5_refusal 61 = .ok (.aload_n 0, 1) := by decide +kernel
theorem dX5_refusal_62 : decode cX5_refusal 62 = .ok (.getfield 18, 3) := by decide +kernel
theorem dX5_refusal_65 : decode cX5_refusal 65 = .ok (.getfield 65, 3) := by decide +kernel
theorem dX5_refusal_68 : decode cX5_refusal 68 = .ok (.iload_n 1, 1) := by decide +kernel
theorem dX5_refusal_69 : decode cX5_refusal 69 = .ok (.iaload, 1) := by decide +kernel
theorem dX5_refusal_70 : decode cX5_refusal 70 = .ok (.iload 4, 2) := by decide +kernel
theorem dX5_refusal_72 : decode cX5_refusal 72 = .ok (.iand, 1) := by decide +kernel
theorem dX5_refusal_73 : decode cX5_refusal 73 = .ok (.ifCond .eq 5, 3) := by decide +kernel
theorem dX5_refusal_76 : decode cX5_refusal 76 = .ok (.iconst 3, 1) := by decide +kernel
theorem dX5_refusal_77 : decode cX5_refusal 77 = .ok (.ireturn, 1) := by decide +kernel
theorem dX5_refusal_78 : decode cX5_refusal 78 = .ok (.aload_n 0, 1) := by decide +kernel
theorem dX5_refusal_79 : decode cX5_refusal 79 = .ok (.getfield 18, 3) := by decide +kernel
theorem dX5_refusal_82 : decode cX5_refusal 82 = .ok (.getfield 68, 3) := by decide +kernel
theorem dX5_refusal_85 : decode cX5_refusal 85 = .ok (.iload_n 1, 1) := by decide +kernel
theorem dX5_refusal_86 : decode cX5_refusal 86 = .ok (.iaload, 1) := by decide +kernel
theorem dX5_refusal_87 : decode cX5_refusal 87 = .ok (.iload_n 3, 1) := by decide +kernel
theorem dX5_refusal_88 : decode cX5_refusal 88 = .ok (.iload 5, 2) := by decide +kernel
theorem dX5_refusal_90 : decode cX5_refusal 90 = .ok (.ior, 1) := by decide +kernel
theorem dX5_refusal_91 : decode cX5_refusal 91 = .ok (.iand, 1) := by decide +kernel
theorem dX5_refusal_92 : decode cX5_refusal 92 = .ok (.ifCond .eq 5, 3) := by decide +kernel
theorem dX5_refusal_95 : decode cX5_refusal 95 = .ok (.iconst 4, 1) := by decide +kernel
theorem dX5_refusal_96 : decode cX5_refusal 96 = .ok (.ireturn, 1) := by decide +kernel
theorem dX5_refusal_97 : decode cX5_refusal 97 = .ok (.aload_n 0, 1) := by decide +kernel
theorem dX5_refusal_98 : decode cX5_refusal 98 = .ok (.getfield 12, 3) := by decide +kernel
theorem dX5_refusal_101 : decode cX5_refusal 101 = .ok (.aload_n 0, 1) := by decide +kernel
theorem dX5_refusal_102 : decode cX5_refusal 102 = .ok (.getfield 18, 3) := by decide +kernel
theorem dX5_refusal_105 : decode cX5_refusal 105 = .ok (.iload 4, 2) := by decide +kernel
theorem dX5_refusal_107 : decode cX5_refusal 107 = .ok (.iconst 1, 1) := by decide +kernel
theorem dX5_refusal_108 : decode cX5_refusal 108 = .ok (.iload_n 1, 1) := by decide +kernel
theorem dX5_refusal_109 : decode cX5_refusal 109 = .ok (.ishl, 1) := by decide +kernel
theorem dX5_refusal_110 : decode cX5_refusal 110 = .ok (.ior, 1) := by decide +kernel
theorem dX5_refusal_111 : decode cX5_refusal 111 = .ok (.invokevirtual 36, 3) := by decide +kernel
theorem dX5_refusal_114 : decode cX5_refusal 114 = .ok (.aload_n 0, 1) := by decide +kernel
theorem dX5_refusal_115 : decode cX5_refusal 115 = .ok (.getfield 12, 3) := by decide +kernel
theorem dX5_refusal_118 : decode cX5_refusal 118 = .ok (.aload_n 0, 1) := by decide +kernel
theorem dX5_refusal_119 : decode cX5_refusal 119 = .ok (.getfield 18, 3) := by decide +kernel
theorem dX5_refusal_122 : decode cX5_refusal 122 = .ok (.invokevirtual 71, 3) := by decide +kernel
theorem dX5_refusal_125 : decode cX5_refusal 125 = .ok (.ifCond .ne 5, 3) := by decide +kernel
theorem dX5_refusal_128 : decode cX5_refusal 128 = .ok (.iconst 5, 1) := by decide +kernel
theorem dX5_refusal_129 : decode cX5_refusal 129 = .ok (.ireturn, 1) := by decide +kernel
theorem dX5_refusal_130 : decode cX5_refusal 130 = .ok (.aload_n 0, 1) := by decide +kernel
theorem dX5_refusal_131 : decode cX5_refusal 131 = .ok (.getfield 12, 3) := by decide +kernel
theorem dX5_refusal_134 : decode cX5_refusal 134 = .ok (.aload_n 0, 1) := by decide +kernel
theorem dX5_refusal_135 : decode cX5_refusal 135 = .ok (.getfield 18, 3) := by decide +kernel
theorem dX5_refusal_138 : decode cX5_refusal 138 = .ok (.aload_n 0, 1) := by decide +kernel
theorem dX5_refusal_139 : decode cX5_refusal 139 = .ok (.getfield 18, 3) := by decide +kernel
theorem dX5_refusal_142 : decode cX5_refusal 142 = .ok (.getfield 48, 3) := by decide +kernel
theorem dX5_refusal_145 : decode cX5_refusal 145 = .ok (.iload_n 2, 1) := by decide +kernel
theorem dX5_refusal_146 : decode cX5_refusal 146 = .ok (.iaload, 1) := by decide +kernel
theorem dX5_refusal_147 : decode cX5_refusal 147 = .ok (.invokevirtual 55, 3) := by decide +kernel
theorem dX5_refusal_150 : decode cX5_refusal 150 = .ok (.ifCond .eq 7, 3) := by decide +kernel
theorem dX5_refusal_153 : decode cX5_refusal 153 = .ok (.iconst 0, 1) := by decide +kernel
theorem dX5_refusal_154 : decode cX5_refusal 154 = .ok (.goto 5, 3) := by decide +kernel
theorem dX5_refusal_157 : decode cX5_refusal 157 = .ok (.bipush 6, 2) := by decide +kernel
theorem dX5_refusal_159 : decode cX5_refusal 159 = .ok (.ireturn, 1) := by decide +kernel
theorem dX5_lowestFor_0 : decode cX5_lowestFor 0 = .ok (.iconst 0, 1) := by decide +kernel
theorem dX5_lowestFor_1 : decode cX5_lowestFor 1 = .ok (.istore_n 2, 1) := by decide +kernel
theorem dX5_lowestFor_2 : decode cX5_lowestFor 2 = .ok (.iload_n 2, 1) := by decide +kernel
theorem dX5_lowestFor_3 : decode cX5_lowestFor 3 = .ok (.bipush 8, 2) := by decide +kernel
theorem dX5_lowestFor_5 : decode cX5_lowestFor 5 = .ok (.if_icmp .ge 20, 3) := by decide +kernel
theorem dX5_lowestFor_8 : decode cX5_lowestFor 8 = .ok (.aload_n 0, 1) := by decide +kernel
theorem dX5_lowestFor_9 : decode cX5_lowestFor 9 = .ok (.iload_n 1, 1) := by decide +kernel
theorem dX5_lowestFor_10 : decode cX5_lowestFor 10 = .ok (.iload_n 2, 1) := by decide +kernel
theorem dX5_lowestFor_11 : decode cX5_lowestFor 11 = .ok (.invokevirtual 75, 3) := by decide +kernel
theorem dX5_lowestFor_14 : decode cX5_lowestFor 14 = .ok (.ifCond .ne 5, 3) := by decide +kernel
theorem dX5_lowestFor_17 : decode cX5_lowestFor 17 = .ok (.iload_n 2, 1) := by decide +kernel
theorem dX5_lowestFor_18 : decode cX5_lowestFor 18 = .ok (.ireturn, 1) := by decide +kernel
theorem dX5_lowestFor_19 : decode cX5_lowestFor 19 = .ok (.iinc 2 1, 3) := by decide +kernel
theorem dX5_lowestFor_22 : decode cX5_lowestFor 22 = .ok (.goto (-20), 3) := by decide +kernel
theorem dX5_lowestFor_25 : decode cX5_lowestFor 25 = .ok (.iconst (-1), 1) := by decide +kernel
theorem dX5_lowestFor_26 : decode cX5_lowestFor 26 = .ok (.ireturn, 1) := by decide +kernel
theorem dX5_fillBy_0 : decode cX5_fillBy 0 = .ok (.aload_n 0, 1) := by decide +kernel
theorem dX5_fillBy_1 : decode cX5_fillBy 1 = .ok (.getfield 18, 3) := by decide +kernel
theorem dX5_fillBy_4 : decode cX5_fillBy 4 = .ok (.invokevirtual 78, 3) := by decide +kernel
theorem dX5_fillBy_7 : decode cX5_fillBy 7 = .ok (.iconst 0, 1) := by decide +kernel
theorem dX5_fillBy_8 : decode cX5_fillBy 8 = .ok (.istore_n 2, 1) := by decide +kernel
theorem dX5_fillBy_9 : decode cX5_fillBy 9 = .ok (.iload_n 2, 1) := by decide +kernel
theorem dX5_fillBy_10 : decode cX5_fillBy 10 = .ok (.aload_n 0, 1) := by decide +kernel
theorem dX5_fillBy_11 : decode cX5_fillBy 11 = .ok (.getfield 18, 3) := by decide +kernel
theorem dX5_fillBy_14 : decode cX5_fillBy 14 = .ok (.getfield 81, 3) := by decide +kernel
theorem dX5_fillBy_17 : decode cX5_fillBy 17 = .ok (.if_icmp .ge 47, 3) := by decide +kernel
theorem dX5_fillBy_20 : decode cX5_fillBy 20 = .ok (.aload_n 0, 1) := by decide +kernel
theorem dX5_fillBy_21 : decode cX5_fillBy 21 = .ok (.iload_n 1, 1) := by decide +kernel
theorem dX5_fillBy_22 : decode cX5_fillBy 22 = .ok (.invokevirtual 84, 3) := by decide +kernel
theorem dX5_fillBy_25 : decode cX5_fillBy 25 = .ok (.istore_n 3, 1) := by decide +kernel
theorem dX5_fillBy_26 : decode cX5_fillBy 26 = .ok (.aload_n 0, 1) := by decide +kernel
theorem dX5_fillBy_27 : decode cX5_fillBy 27 = .ok (.iload_n 3, 1) := by decide +kernel
theorem dX5_fillBy_28 : decode cX5_fillBy 28 = .ok (.invokevirtual 88, 3) := by decide +kernel
theorem dX5_fillBy_31 : decode cX5_fillBy 31 = .ok (.istore 4, 2) := by decide +kernel
theorem dX5_fillBy_33 : decode cX5_fillBy 33 = .ok (.iload 4, 2) := by decide +kernel
theorem dX5_fillBy_35 : decode cX5_fillBy 35 = .ok (.iconst (-1), 1) := by decide +kernel
theorem dX5_fillBy_36 : decode cX5_fillBy 36 = .ok (.if_icmp .ne 11, 3) := by decide +kernel
theorem dX5_fillBy_39 : decode cX5_fillBy 39 = .ok (.aload_n 0, 1) := by decide +kernel
theorem dX5_fillBy_40 : decode cX5_fillBy 40 = .ok (.iload_n 3, 1) := by decide +kernel
theorem dX5_fillBy_41 : decode cX5_fillBy 41 = .ok (.bipush 7, 2) := by decide +kernel
theorem dX5_fillBy_43 : decode cX5_fillBy 43 = .ok (.invokevirtual 75, 3) := by decide +kernel
theorem dX5_fillBy_46 : decode cX5_fillBy 46 = .ok (.ireturn, 1) := by decide +kernel
theorem dX5_fillBy_47 : decode cX5_fillBy 47 = .ok (.aload_n 0, 1) := by decide +kernel
theorem dX5_fillBy_48 : decode cX5_fillBy 48 = .ok (.getfield 18, 3) := by decide +kernel
theorem dX5_fillBy_51 : decode cX5_fillBy 51 = .ok (.getfield 22, 3) := by decide +kernel
theorem dX5_fillBy_54 : decode cX5_fillBy 54 = .ok (.iload_n 3, 1) := by decide +kernel
theorem dX5_fillBy_55 : decode cX5_fillBy 55 = .ok (.iload 4, 2) := by decide +kernel
theorem dX5_fillBy_57 : decode cX5_fillBy 57 = .ok (.iastore, 1) := by decide +kernel
theorem dX5_fillBy_58 : decode cX5_fillBy 58 = .ok (.iinc 2 1, 3) := by decide +kernel
theorem dX5_fillBy_61 : decode cX5_fillBy 61 = .ok (.goto (-52), 3) := by decide +kernel
theorem dX5_fillBy_64 : decode cX5_fillBy 64 = .ok (.iconst 0, 1) := by decide +kernel
theorem dX5_fillBy_65 : decode cX5_fillBy 65 = .ok (.ireturn, 1) := by decide +kernel
theorem dX5_nextToFill_0 : decode cX5_nextToFill 0 = .ok (.aload_n 0, 1) := by decide +kernel
theorem dX5_nextToFill_1 : decode cX5_nextToFill 1 = .ok (.invokevirtual 91, 3) := by decide +kernel
theorem dX5_nextToFill_4 : decode cX5_nextToFill 4 = .ok (.istore_n 2, 1) := by decide +kernel
theorem dX5_nextToFill_5 : decode cX5_nextToFill 5 = .ok (.iconst 0, 1) := by decide +kernel
theorem dX5_nextToFill_6 : decode cX5_nextToFill 6 = .ok (.istore_n 3, 1) := by decide +kernel
theorem dX5_nextToFill_7 : decode cX5_nextToFill 7 = .ok (.iconst (-1), 1) := by decide +kernel
theorem dX5_nextToFill_8 : decode cX5_nextToFill 8 = .ok (.istore 4, 2) := by decide +kernel
theorem dX5_nextToFill_10 : decode cX5_nextToFill 10 = .ok (.iconst 0, 1) := by decide +kernel
theorem dX5_nextToFill_11 : decode cX5_nextToFill 11 = .ok (.istore 5, 2) := by decide +kernel
theorem dX5_nextToFill_13 : decode cX5_nextToFill 13 = .ok (.iload 5, 2) := by decide +kernel
theorem dX5_nextToFill_15 : decode cX5_nextToFill 15 = .ok (.aload_n 0, 1) := by decide +kernel
theorem dX5_nextToFill_16 : decode cX5_nextToFill 16 = .ok (.getfield 18, 3) := by decide +kernel
theorem dX5_nextToFill_19 : decode cX5_nextToFill 19 = .ok (.getfield 81, 3) := by decide +kernel
theorem dX5_nextToFill_22 : decode cX5_nextToFill 22 = .ok (.if_icmp .ge 70, 3) := by decide +kernel
theorem dX5_nextToFill_25 : decode cX5_nextToFill 25 = .ok (.iload_n 2, 1) := by decide +kernel
theorem dX5_nextToFill_26 : decode cX5_nextToFill 26 = .ok (.iload 5, 2) := by decide +kernel
theorem dX5_nextToFill_28 : decode cX5_nextToFill 28 = .ok (.invokestatic 95, 3) := by decide +kernel
theorem dX5_nextToFill_31 : decode cX5_nextToFill 31 = .ok (.ifCond .ne 55, 3) := by decide +kernel
theorem dX5_nextToFill_34 : decode cX5_nextToFill 34 = .ok (.aload_n 0, 1) := by decide +kernel
theorem dX5_nextToFill_35 : decode cX5_nextToFill 35 = .ok (.getfield 18, 3) := by decide +kernel
theorem dX5_nextToFill_38 : decode cX5_nextToFill 38 = .ok (.getfield 59, 3) := by decide +kernel
theorem dX5_nextToFill_41 : decode cX5_nextToFill 41 = .ok (.iload 5, 2) := by decide +kernel
theorem dX5_nextToFill_43 : decode cX5_nextToFill 43 = .ok (.iaload, 1) := by decide +kernel
theorem dX5_nextToFill_44 : decode cX5_nextToFill 44 = .ok (.iload_n 2, 1) := by decide +kernel
theorem dX5_nextToFill_45 : decode cX5_nextToFill 45 = .ok (.iconst (-1), 1) := by decide +kernel
theorem dX5_nextToFill_46 : decode cX5_nextToFill 46 = .ok (.ixor, 1) := by decide +kernel
theorem dX5_nextToFill_47 : decode cX5_nextToFill 47 = .ok (.iand, 1) := by decide +kernel
theorem dX5_nextToFill_48 : decode cX5_nextToFill 48 = .ok (.ifCond .ne 38, 3) := by decide +kernel
theorem dX5_nextToFill_51 : decode cX5_nextToFill 51 = .ok (.aload_n 0, 1) := by decide +kernel
theorem dX5_nextToFill_52 : decode cX5_nextToFill 52 = .ok (.getfield 18, 3) := by decide +kernel
theorem dX5_nextToFill_55 : decode cX5_nextToFill 55 = .ok (.iload 5, 2) := by decide +kernel
theorem dX5_nextToFill_57 : decode cX5_nextToFill 57 = .ok (.iload_n 1, 1) := by decide +kernel
theorem dX5_nextToFill_58 : decode cX5_nextToFill 58 = .ok (.invokevirtual 99, 3) := by decide +kernel
theorem dX5_nextToFill_61 : decode cX5_nextToFill 61 = .ok (.istore 6, 2) := by decide +kernel
theorem dX5_nextToFill_63 : decode cX5_nextToFill 63 = .ok (.iload 6, 2) := by decide +kernel
theorem dX5_nextToFill_65 : decode cX5_nextToFill 65 = .ok (.iload 4, 2) := by decide +kernel
theorem dX5_nextToFill_67 : decode cX5_nextToFill 67 = .ok (.if_icmp .le 8, 3) := by decide +kernel
theorem dX5_nextToFill_70 : decode cX5_nextToFill 70 = .ok (.iload 5, 2) := by decide +kernel
theorem dX5_nextToFill_72 : decode cX5_nextToFill 72 = .ok (.goto 4, 3) := by decide +kernel
theorem dX5_nextToFill_75 : decode cX5_nextToFill 75 = .ok (.iload_n 3, 1) := by decide +kernel
theorem dX5_nextToFill_76 : decode cX5_nextToFill 76 = .ok (.istore_n 3, 1) := by decide +kernel
theorem dX5_nextToFill_77 : decode cX5_nextToFill 77 = .ok (.iload 4, 2) := by decide +kernel
theorem dX5_nextToFill_79 : decode cX5_nextToFill 79 = .ok (.iload 6, 2) := by decide +kernel
theorem dX5_nextToFill_81 : decode cX5_nextToFill 81 = .ok (.invokestatic 102, 3) := by decide +kernel
theorem dX5_nextToFill_84 : decode cX5_nextToFill 84 = .ok (.istore 4, 2) := by decide +kernel
theorem dX5_nextToFill_86 : decode cX5_nextToFill 86 = .ok (.iinc 5 1, 3) := by decide +kernel
theorem dX5_nextToFill_89 : decode cX5_nextToFill 89 = .ok (.goto (-76), 3) := by decide +kernel
theorem dX5_nextToFill_92 : decode cX5_nextToFill 92 = .ok (.iload_n 3, 1) := by decide +kernel
theorem dX5_nextToFill_93 : decode cX5_nextToFill 93 = .ok (.ireturn, 1) := by decide +kernel
theorem dX5_countUsed_0 : decode cX5_countUsed 0 = .ok (.iconst 0, 1) := by decide +kernel
theorem dX5_countUsed_1 : decode cX5_countUsed 1 = .ok (.istore_n 1, 1) := by decide +kernel
theorem dX5_countUsed_2 : decode cX5_countUsed 2 = .ok (.iconst 0, 1) := by decide +kernel
theorem dX5_countUsed_3 : decode cX5_countUsed 3 = .ok (.istore_n 2, 1) := by decide +kernel
theorem dX5_countUsed_4 : decode cX5_countUsed 4 = .ok (.iload_n 2, 1) := by decide +kernel
theorem dX5_countUsed_5 : decode cX5_countUsed 5 = .ok (.bipush 8, 2) := by decide +kernel
theorem dX5_countUsed_7 : decode cX5_countUsed 7 = .ok (.if_icmp .ge 25, 3) := by decide +kernel
theorem dX5_countUsed_10 : decode cX5_countUsed 10 = .ok (.iload_n 1, 1) := by decide +kernel
theorem dX5_countUsed_11 : decode cX5_countUsed 11 = .ok (.aload_n 0, 1) := by decide +kernel
theorem dX5_countUsed_12 : decode cX5_countUsed 12 = .ok (.iload_n 2, 1) := by decide +kernel
theorem dX5_countUsed_13 : decode cX5_countUsed 13 = .ok (.invokevirtual 107, 3) := by decide +kernel
theorem dX5_countUsed_16 : decode cX5_countUsed 16 = .ok (.ifCond .eq 7, 3) := by decide +kernel
theorem dX5_countUsed_19 : decode cX5_countUsed 19 = .ok (.iconst 1, 1) := by decide +kernel
theorem dX5_countUsed_20 : decode cX5_countUsed 20 = .ok (.goto 4, 3) := by decide +kernel
theorem dX5_countUsed_23 : decode cX5_countUsed 23 = .ok (.iconst 0, 1) := by decide +kernel
theorem dX5_countUsed_24 : decode cX5_countUsed 24 = .ok (.iadd, 1) := by decide +kernel
theorem dX5_countUsed_25 : decode cX5_countUsed 25 = .ok (.istore_n 1, 1) := by decide +kernel
theorem dX5_countUsed_26 : decode cX5_countUsed 26 = .ok (.iinc 2 1, 3) := by decide +kernel
theorem dX5_countUsed_29 : decode cX5_countUsed 29 = .ok (.goto (-25), 3) := by decide +kernel
theorem dX5_countUsed_32 : decode cX5_countUsed 32 = .ok (.iload_n 1, 1) := by decide +kernel
theorem dX5_countUsed_33 : decode cX5_countUsed 33 = .ok (.ireturn, 1) := by decide +kernel
theorem dX5_usedCopies_0 : decode cX5_usedCopies 0 = .ok (.iconst 0, 1) := by decide +kernel
theorem dX5_usedCopies_1 : decode cX5_usedCopies 1 = .ok (.istore_n 1, 1) := by decide +kernel
theorem dX5_usedCopies_2 : decode cX5_usedCopies 2 = .ok (.iconst 0, 1) := by decide +kernel
theorem dX5_usedCopies_3 : decode cX5_usedCopies 3 = .ok (.istore_n 2, 1) := by decide +kernel
theorem dX5_usedCopies_4 : decode cX5_usedCopies 4 = .ok (.iload_n 2, 1) := by decide +kernel
theorem dX5_usedCopies_5 : decode cX5_usedCopies 5 = .ok (.bipush 8, 2) := by decide +kernel
theorem dX5_usedCopies_7 : decode cX5_usedCopies 7 = .ok (.if_icmp .ge 33, 3) := by decide +kernel
theorem dX5_usedCopies_10 : decode cX5_usedCopies 10 = .ok (.iload_n 1, 1) := by decide +kernel
theorem dX5_usedCopies_11 : decode cX5_usedCopies 11 = .ok (.aload_n 0, 1) := by decide +kernel
theorem dX5_usedCopies_12 : decode cX5_usedCopies 12 = .ok (.iload_n 2, 1) := by decide +kernel
theorem dX5_usedCopies_13 : decode cX5_usedCopies 13 = .ok (.invokevirtual 107, 3) := by decide +kernel
theorem dX5_usedCopies_16 : decode cX5_usedCopies 16 = .ok (.ifCond .eq 15, 3) := by decide +kernel
theorem dX5_usedCopies_19 : decode cX5_usedCopies 19 = .ok (.aload_n 0, 1) := by decide +kernel
theorem dX5_usedCopies_20 : decode cX5_usedCopies 20 = .ok (.getfield 18, 3) := by decide +kernel
theorem dX5_usedCopies_23 : decode cX5_usedCopies 23 = .ok (.getfield 48, 3) := by decide +kernel
theorem dX5_usedCopies_26 : decode cX5_usedCopies 26 = .ok (.iload_n 2, 1) := by decide +kernel
theorem dX5_usedCopies_27 : decode cX5_usedCopies 27 = .ok (.iaload, 1) := by decide +kernel
theorem dX5_usedCopies_28 : decode cX5_usedCopies 28 = .ok (.goto 4, 3) := by decide +kernel
theorem dX5_usedCopies_31 : decode cX5_usedCopies 31 = .ok (.iconst 0, 1) := by decide +kernel
theorem dX5_usedCopies_32 : decode cX5_usedCopies 32 = .ok (.iadd, 1) := by decide +kernel
theorem dX5_usedCopies_33 : decode cX5_usedCopies 33 = .ok (.istore_n 1, 1) := by decide +kernel
theorem dX5_usedCopies_34 : decode cX5_usedCopies 34 = .ok (.iinc 2 1, 3) := by decide +kernel
theorem dX5_usedCopies_37 : decode cX5_usedCopies 37 = .ok (.goto (-33), 3) := by decide +kernel
theorem dX5_usedCopies_40 : decode cX5_usedCopies 40 = .ok (.iload_n 1, 1) := by decide +kernel
theorem dX5_usedCopies_41 : decode cX5_usedCopies 41 = .ok (.ireturn, 1) := by decide +kernel
theorem dX5_busiest_0 : decode cX5_busiest 0 = .ok (.iconst 0, 1) := by decide +kernel
theorem dX5_busiest_1 : decode cX5_busiest 1 = .ok (.istore_n 1, 1) := by decide +kernel
theorem dX5_busiest_2 : decode cX5_busiest 2 = .ok (.aload_n 0, 1) := by decide +kernel
theorem dX5_busiest_3 : decode cX5_busiest 3 = .ok (.iconst 0, 1) := by decide +kernel
theorem dX5_busiest_4 : decode cX5_busiest 4 = .ok (.invokevirtual 111, 3) := by decide +kernel
theorem dX5_busiest_7 : decode cX5_busiest 7 = .ok (.istore_n 2, 1) := by decide +kernel
theorem dX5_busiest_8 : decode cX5_busiest 8 = .ok (.iconst 1, 1) := by decide +kernel
theorem dX5_busiest_9 : decode cX5_busiest 9 = .ok (.istore_n 3, 1) := by decide +kernel
theorem dX5_busiest_10 : decode cX5_busiest 10 = .ok (.iload_n 3, 1) := by decide +kernel
theorem dX5_busiest_11 : decode cX5_busiest 11 = .ok (.bipush 8, 2) := by decide +kernel
theorem dX5_busiest_13 : decode cX5_busiest 13 = .ok (.if_icmp .ge 47, 3) := by decide +kernel
theorem dX5_busiest_16 : decode cX5_busiest 16 = .ok (.aload_n 0, 1) := by decide +kernel
theorem dX5_busiest_17 : decode cX5_busiest 17 = .ok (.iload_n 3, 1) := by decide +kernel
theorem dX5_busiest_18 : decode cX5_busiest 18 = .ok (.invokevirtual 111, 3) := by decide +kernel
theorem dX5_busiest_21 : decode cX5_busiest 21 = .ok (.istore 4, 2) := by decide +kernel
theorem dX5_busiest_23 : decode cX5_busiest 23 = .ok (.iload 4, 2) := by decide +kernel
theorem dX5_busiest_25 : decode cX5_busiest 25 = .ok (.aload_n 0, 1) := by decide +kernel
theorem dX5_busiest_26 : decode cX5_busiest 26 = .ok (.getfield 18, 3) := by decide +kernel
theorem dX5_busiest_29 : decode cX5_busiest 29 = .ok (.getfield 48, 3) := by decide +kernel
theorem dX5_busiest_32 : decode cX5_busiest 32 = .ok (.iload_n 1, 1) := by decide +kernel
theorem dX5_busiest_33 : decode cX5_busiest 33 = .ok (.iaload, 1) := by decide +kernel
theorem dX5_busiest_34 : decode cX5_busiest 34 = .ok (.imul, 1) := by decide +kernel
theorem dX5_busiest_35 : decode cX5_busiest 35 = .ok (.iload_n 2, 1) := by decide +kernel
theorem dX5_busiest_36 : decode cX5_busiest 36 = .ok (.aload_n 0, 1) := by decide +kernel
theorem dX5_busiest_37 : decode cX5_busiest 37 = .ok (.getfield 18, 3) := by decide +kernel
theorem dX5_busiest_40 : decode cX5_busiest 40 = .ok (.getfield 48, 3) := by decide +kernel
theorem dX5_busiest_43 : decode cX5_busiest 43 = .ok (.iload_n 3, 1) := by decide +kernel
theorem dX5_busiest_44 : decode cX5_busiest 44 = .ok (.iaload, 1) := by decide +kernel
theorem dX5_busiest_45 : decode cX5_busiest 45 = .ok (.imul, 1) := by decide +kernel
theorem dX5_busiest_46 : decode cX5_busiest 46 = .ok (.if_icmp .le 8, 3) := by decide +kernel
theorem dX5_busiest_49 : decode cX5_busiest 49 = .ok (.iload_n 3, 1) := by decide +kernel
theorem dX5_busiest_50 : decode cX5_busiest 50 = .ok (.istore_n 1, 1) := by decide +kernel
theorem dX5_busiest_51 : decode cX5_busiest 51 = .ok (.iload 4, 2) := by decide +kernel
theorem dX5_busiest_53 : decode cX5_busiest 53 = .ok (.istore_n 2, 1) := by decide +kernel
theorem dX5_busiest_54 : decode cX5_busiest 54 = .ok (.iinc 3 1, 3) := by decide +kernel
theorem dX5_busiest_57 : decode cX5_busiest 57 = .ok (.goto (-47), 3) := by decide +kernel
theorem dX5_busiest_60 : decode cX5_busiest 60 = .ok (.iload_n 1, 1) := by decide +kernel
theorem dX5_busiest_61 : decode cX5_busiest 61 = .ok (.ireturn, 1) := by decide +kernel
theorem dX5_sumOfLoads_0 : decode cX5_sumOfLoads 0 = .ok (.iconst 0, 1) := by decide +kernel
theorem dX5_sumOfLoads_1 : decode cX5_sumOfLoads 1 = .ok (.istore_n 1, 1) := by decide +kernel
theorem dX5_sumOfLoads_2 : decode cX5_sumOfLoads 2 = .ok (.iconst 0, 1) := by decide +kernel
theorem dX5_sumOfLoads_3 : decode cX5_sumOfLoads 3 = .ok (.istore_n 2, 1) := by decide +kernel
theorem dX5_sumOfLoads_4 : decode cX5_sumOfLoads 4 = .ok (.iload_n 2, 1) := by decide +kernel
theorem dX5_sumOfLoads_5 : decode cX5_sumOfLoads 5 = .ok (.bipush 8, 2) := by decide +kernel
theorem dX5_sumOfLoads_7 : decode cX5_sumOfLoads 7 = .ok (.if_icmp .ge 17, 3) := by decide +kernel
theorem dX5_sumOfLoads_10 : decode cX5_sumOfLoads 10 = .ok (.iload_n 1, 1) := by decide +kernel
theorem dX5_sumOfLoads_11 : decode cX5_sumOfLoads 11 = .ok (.aload_n 0, 1) := by decide +kernel
theorem dX5_sumOfLoads_12 : decode cX5_sumOfLoads 12 = .ok (.iload_n 2, 1) := by decide +kernel
theorem dX5_sumOfLoads_13 : decode cX5_sumOfLoads 13 = .ok (.invokevirtual 111, 3) := by decide +kernel
theorem dX5_sumOfLoads_16 : decode cX5_sumOfLoads 16 = .ok (.iadd, 1) := by decide +kernel
theorem dX5_sumOfLoads_17 : decode cX5_sumOfLoads 17 = .ok (.istore_n 1, 1) := by decide +kernel
theorem dX5_sumOfLoads_18 : decode cX5_sumOfLoads 18 = .ok (.iinc 2 1, 3) := by decide +kernel
theorem dX5_sumOfLoads_21 : decode cX5_sumOfLoads 21 = .ok (.goto (-17), 3) := by decide +kernel
theorem dX5_sumOfLoads_24 : decode cX5_sumOfLoads 24 = .ok (.iload_n 1, 1) := by decide +kernel
theorem dX5_sumOfLoads_25 : decode cX5_sumOfLoads 25 = .ok (.ireturn, 1) := by decide +kernel
theorem dX5_countRefused_0 : decode cX5_countRefused 0 = .ok (.iconst 0, 1) := by decide +kernel
theorem dX5_countRefused_1 : decode cX5_countRefused 1 = .ok (.istore_n 1, 1) := by decide +kernel
theorem dX5_countRefused_2 : decode cX5_countRefused 2 = .ok (.iconst 0, 1) := by decide +kernel
theorem dX5_countRefused_3 : decode cX5_countRefused 3 = .ok (.istore_n 2, 1) := by decide +kernel
theorem dX5_countRefused_4 : decode cX5_countRefused 4 = .ok (.iload_n 2, 1) := by decide +kernel
theorem dX5_countRefused_5 : decode cX5_countRefused 5 = .ok (.aload_n 0, 1) := by decide +kernel
theorem dX5_countRefused_6 : decode cX5_countRefused 6 = .ok (.getfield 18, 3) := by decide +kernel
theorem dX5_countRefused_9 : decode cX5_countRefused 9 = .ok (.getfield 81, 3) := by decide +kernel
theorem dX5_countRefused_12 : decode cX5_countRefused 12 = .ok (.if_icmp .ge 43, 3) := by decide +kernel
theorem dX5_countRefused_15 : decode cX5_countRefused 15 = .ok (.aload_n 0, 1) := by decide +kernel
theorem dX5_countRefused_16 : decode cX5_countRefused 16 = .ok (.getfield 18, 3) := by decide +kernel
theorem dX5_countRefused_19 : decode cX5_countRefused 19 = .ok (.getfield 22, 3) := by decide +kernel
theorem dX5_countRefused_22 : decode cX5_countRefused 22 = .ok (.iload_n 2, 1) := by decide +kernel
theorem dX5_countRefused_23 : decode cX5_countRefused 23 = .ok (.iaload, 1) := by decide +kernel
theorem dX5_countRefused_24 : decode cX5_countRefused 24 = .ok (.istore_n 3, 1) := by decide +kernel
theorem dX5_countRefused_25 : decode cX5_countRefused 25 = .ok (.iload_n 1, 1) := by decide +kernel
theorem dX5_countRefused_26 : decode cX5_countRefused 26 = .ok (.iload_n 3, 1) := by decide +kernel
theorem dX5_countRefused_27 : decode cX5_countRefused 27 = .ok (.invokestatic 114, 3) := by decide +kernel
theorem dX5_countRefused_30 : decode cX5_countRefused 30 = .ok (.ifCond .eq 16, 3) := by decide +kernel
theorem dX5_countRefused_33 : decode cX5_countRefused 33 = .ok (.aload_n 0, 1) := by decide +kernel
theorem dX5_countRefused_34 : decode cX5_countRefused 34 = .ok (.iload_n 2, 1) := by decide +kernel
theorem dX5_countRefused_35 : decode cX5_countRefused 35 = .ok (.iload_n 3, 1) := by decide +kernel
theorem dX5_countRefused_36 : decode cX5_countRefused 36 = .ok (.invokevirtual 75, 3) := by decide +kernel
theorem dX5_countRefused_39 : decode cX5_countRefused 39 = .ok (.ifCond .eq 7, 3) := by decide +kernel
theorem dX5_countRefused_42 : decode cX5_countRefused 42 = .ok (.iconst 1, 1) := by decide +kernel
theorem dX5_countRefused_43 : decode cX5_countRefused 43 = .ok (.goto 4, 3) := by decide +kernel
theorem dX5_countRefused_46 : decode cX5_countRefused 46 = .ok (.iconst 0, 1) := by decide +kernel
theorem dX5_countRefused_47 : decode cX5_countRefused 47 = .ok (.iadd, 1) := by decide +kernel
theorem dX5_countRefused_48 : decode cX5_countRefused 48 = .ok (.istore_n 1, 1) := by decide +kernel
theorem dX5_countRefused_49 : decode cX5_countRefused 49 = .ok (.iinc 2 1, 3) := by decide +kernel
theorem dX5_countRefused_52 : decode cX5_countRefused 52 = .ok (.goto (-48), 3) := by decide +kernel
theorem dX5_countRefused_55 : decode cX5_countRefused 55 = .ok (.iload_n 1, 1) := by decide +kernel
theorem dX5_countRefused_56 : decode cX5_countRefused 56 = .ok (.ireturn, 1) := by decide +kernel
theorem dX5_countUnfitting_0 : decode cX5_countUnfitting 0 = .ok (.iconst 0, 1) := by decide +kernel
theorem dX5_countUnfitting_1 : decode cX5_countUnfitting 1 = .ok (.istore_n 1, 1) := by decide +kernel
theorem dX5_countUnfitting_2 : decode cX5_countUnfitting 2 = .ok (.iconst 0, 1) := by decide +kernel
theorem dX5_countUnfitting_3 : decode cX5_countUnfitting 3 = .ok (.istore_n 2, 1) := by decide +kernel
theorem dX5_countUnfitting_4 : decode cX5_countUnfitting 4 = .ok (.iload_n 2, 1) := by decide +kernel
theorem dX5_countUnfitting_5 : decode cX5_countUnfitting 5 = .ok (.bipush 8, 2) := by decide +kernel
theorem dX5_countUnfitting_7 : decode cX5_countUnfitting 7 = .ok (.if_icmp .ge 25, 3) := by decide +kernel
theorem dX5_countUnfitting_10 : decode cX5_countUnfitting 10 = .ok (.iload_n 1, 1) := by decide +kernel
theorem dX5_countUnfitting_11 : decode cX5_countUnfitting 11 = .ok (.aload_n 0, 1) := by decide +kernel
theorem dX5_countUnfitting_12 : decode cX5_countUnfitting 12 = .ok (.iload_n 2, 1) := by decide +kernel
theorem dX5_countUnfitting_13 : decode cX5_countUnfitting 13 = .ok (.invokevirtual 117, 3) := by decide +kernel
theorem dX5_countUnfitting_16 : decode cX5_countUnfitting 16 = .ok (.ifCond .eq 7, 3) := by decide +kernel
theorem dX5_countUnfitting_19 : decode cX5_countUnfitting 19 = .ok (.iconst 0, 1) := by decide +kernel
theorem dX5_countUnfitting_20 : decode cX5_countUnfitting 20 = .ok (.goto 4, 3) := by decide +kernel
theorem dX5_countUnfitting_23 : decode cX5_countUnfitting 23 = .ok (.iconst 1, 1) := by decide +kernel
theorem dX5_countUnfitting_24 : decode cX5_countUnfitting 24 = .ok (.iadd, 1) := by decide +kernel
theorem dX5_countUnfitting_25 : decode cX5_countUnfitting 25 = .ok (.istore_n 1, 1) := by decide +kernel
theorem dX5_countUnfitting_26 : decode cX5_countUnfitting 26 = .ok (.iinc 2 1, 3) := by decide +kernel
theorem dX5_countUnfitting_29 : decode cX5_countUnfitting 29 = .ok (.goto (-25), 3) := by decide +kernel
theorem dX5_countUnfitting_32 : decode cX5_countUnfitting 32 = .ok (.iload_n 1, 1) := by decide +kernel
theorem dX5_countUnfitting_33 : decode cX5_countUnfitting 33 = .ok (.ireturn, 1) := by decide +kernel
theorem dX5_sumOfSquares_0 : decode cX5_sumOfSquares 0 = .ok (.lconst 0, 1) := by decide +kernel
theorem dX5_sumOfSquares_1 : decode cX5_sumOfSquares 1 = .ok (.lstore_n 1, 1) := by decide +kernel
theorem dX5_sumOfSquares_2 : decode cX5_sumOfSquares 2 = .ok (.iconst 0, 1) := by decide +kernel
theorem dX5_sumOfSquares_3 : decode cX5_sumOfSquares 3 = .ok (.istore_n 3, 1) := by decide +kernel
theorem dX5_sumOfSquares_4 : decode cX5_sumOfSquares 4 = .ok (.iload_n 3, 1) := by decide +kernel
theorem dX5_sumOfSquares_5 : decode cX5_sumOfSquares 5 = .ok (.bipush 8, 2) := by decide +kernel
theorem dX5_sumOfSquares_7 : decode cX5_sumOfSquares 7 = .ok (.if_icmp .ge 37, 3) := by decide +kernel
theorem dX5_sumOfSquares_10 : decode cX5_sumOfSquares 10 = .ok (.aload_n 0, 1) := by decide +kernel
theorem dX5_sumOfSquares_11 : decode cX5_sumOfSquares 11 = .ok (.iload_n 3, 1) := by decide +kernel
theorem dX5_sumOfSquares_12 : decode cX5_sumOfSquares 12 = .ok (.invokevirtual 107, 3) := by decide +kernel
theorem dX5_sumOfSquares_15 : decode cX5_sumOfSquares 15 = .ok (.ifCond .eq 12, 3) := by decide +kernel
theorem dX5_sumOfSquares_18 : decode cX5_sumOfSquares 18 = .ok (.aload_n 0, 1) := by decide +kernel
theorem dX5_sumOfSquares_19 : decode cX5_sumOfSquares 19 = .ok (.iload_n 3, 1) := by decide +kernel
theorem dX5_sumOfSquares_20 : decode cX5_sumOfSquares 20 = .ok (.invokevirtual 120, 3) := by decide +kernel
theorem dX5_sumOfSquares_23 : decode cX5_sumOfSquares 23 = .ok (.i2l, 1) := by decide +kernel
theorem dX5_sumOfSquares_24 : decode cX5_sumOfSquares 24 = .ok (.goto 4, 3) := by decide +kernel
theorem dX5_sumOfSquares_27 : decode cX5_sumOfSquares 27 = .ok (.lconst 0, 1) := by decide +kernel
theorem dX5_sumOfSquares_28 : decode cX5_sumOfSquares 28 = .ok (.lstore 4, 2) := by decide +kernel
theorem dX5_sumOfSquares_30 : decode cX5_sumOfSquares 30 = .ok (.lload_n 1, 1) := by decide +kernel
theorem dX5_sumOfSquares_31 : decode cX5_sumOfSquares 31 = .ok (.lload 4, 2) := by decide +kernel
theorem dX5_sumOfSquares_33 : decode cX5_sumOfSquares 33 = .ok (.lload 4, 2) := by decide +kernel
theorem dX5_sumOfSquares_35 : decode cX5_sumOfSquares 35 = .ok (.lmul, 1) := by decide +kernel
theorem dX5_sumOfSquares_36 : decode cX5_sumOfSquares 36 = .ok (.ladd, 1) := by decide +kernel
theorem dX5_sumOfSquares_37 : decode cX5_sumOfSquares 37 = .ok (.lstore_n 1, 1) := by decide +kernel
theorem dX5_sumOfSquares_38 : decode cX5_sumOfSquares 38 = .ok (.iinc 3 1, 3) := by decide +kernel
theorem dX5_sumOfSquares_41 : decode cX5_sumOfSquares 41 = .ok (.goto (-37), 3) := by decide +kernel
theorem dX5_sumOfSquares_44 : decode cX5_sumOfSquares 44 = .ok (.lload_n 1, 1) := by decide +kernel
theorem dX5_sumOfSquares_45 : decode cX5_sumOfSquares 45 = .ok (.lreturn, 1) := by decide +kernel
theorem dX6_init_0 : decode cX6_init 0 = .ok (.aload_n 0, 1) := by decide +kernel
theorem dX6_init_1 : decode cX6_init 1 = .ok (.invokespecial 3, 3) := by decide +kernel
theorem dX6_init_4 : decode cX6_init 4 = .ok (.aload_n 0, 1) := by decide +kernel
theorem dX6_init_5 : decode cX6_init 5 = .ok (.bipush 12, 2) := by decide +kernel
theorem dX6_init_7 : decode cX6_init 7 = .ok (.newarray .int, 2) := by decide +kernel
theorem dX6_init_9 : decode cX6_init 9 = .ok (.putfield 9, 3) := by decide +kernel
theorem dX6_init_12 : decode cX6_init 12 = .ok (.aload_n 0, 1) := by decide +kernel
theorem dX6_init_13 : decode cX6_init 13 = .ok (.iconst 3, 1) := by decide +kernel
theorem dX6_init_14 : decode cX6_init 14 = .ok (.newarray .int, 2) := by decide +kernel
theorem dX6_init_16 : decode cX6_init 16 = .ok (.putfield 15, 3) := by decide +kernel
theorem dX6_init_19 : decode cX6_init 19 = .ok (.aload_n 0, 1) := by decide +kernel
theorem dX6_init_20 : decode cX6_init 20 = .ok (.iconst 3, 1) := by decide +kernel
theorem dX6_init_21 : decode cX6_init 21 = .ok (.newarray .int, 2) := by decide +kernel
theorem dX6_init_23 : decode cX6_init 23 = .ok (.putfield 18, 3) := by decide +kernel
theorem dX6_init_26 : decode cX6_init 26 = .ok (.return_, 1) := by decide +kernel
theorem dX6_measure_0 : decode cX6_measure 0 = .ok (.aload_n 0, 1) := by decide +kernel
theorem dX6_measure_1 : decode cX6_measure 1 = .ok (.aload_n 1, 1) := by decide +kernel
theorem dX6_measure_2 : decode cX6_measure 2 = .ok (.iload_n 2, 1) := by decide +kernel
theorem dX6_measure_3 : decode cX6_measure 3 = .ok (.invokevirtual 21, 3) := by decide +kernel
theorem dX6_measure_6 : decode cX6_measure 6 = .ok (.aload_n 0, 1) := by decide +kernel
theorem dX6_measure_7 : decode cX6_measure 7 = .ok (.aload_n 1, 1) := by decide +kernel
theorem dX6_measure_8 : decode cX6_measure 8 = .ok (.invokevirtual 25, 3) := by decide +kernel
theorem dX6_measure_11 : decode cX6_measure 11 = .ok (.aload_n 0, 1) := by decide +kernel
theorem dX6_measure_12 : decode cX6_measure 12 = .ok (.iconst 0, 1) := by decide +kernel
theorem dX6_measure_13 : decode cX6_measure 13 = .ok (.putfield 29, 3) := by decide +kernel
theorem dX6_measure_16 : decode cX6_measure 16 = .ok (.aload_n 0, 1) := by decide +kernel
theorem dX6_measure_17 : decode cX6_measure 17 = .ok (.iconst 0, 1) := by decide +kernel
theorem dX6_measure_18 : decode cX6_measure 18 = .ok (.putfield 33, 3) := by decide +kernel
theorem dX6_measure_21 : decode cX6_measure 21 = .ok (.aload_n 0, 1) := by decide +kernel
theorem dX6_measure_22 : decode cX6_measure 22 = .ok (.iconst 0, 1) := by decide +kernel
theorem dX6_measure_23 : decode cX6_measure 23 = .ok (.putfield 36, 3) := by decide +kernel
theorem dX6_measure_26 : decode cX6_measure 26 = .ok (.iconst 0, 1) := by decide +kernel
theorem dX6_measure_27 : decode cX6_measure 27 = .ok (.istore_n 3, 1) := by decide +kernel
theorem dX6_measure_28 : decode cX6_measure 28 = .ok (.iload_n 3, 1) := by decide +kernel
theorem dX6_measure_29 : decode cX6_measure 29 = .ok (.aload_n 1, 1) := by decide +kernel
theorem dX6_measure_30 : decode cX6_measure 30 = .ok (.getfield 39, 3) := by decide +kernel
theorem dX6_measure_33 : decode cX6_measure 33 = .ok (.if_icmp .ge 101, 3) := by decide +kernel
theorem dX6_measure_36 : decode cX6_measure 36 = .ok (.aload_n 0, 1) := by decide +kernel
theorem dX6_measure_37 : decode cX6_measure 37 = .ok (.getfield 15, 3) := by decide +kernel
theorem dX6_measure_40 : decode cX6_measure 40 = .ok (.iload_n 3, 1) := by decide +kernel
theorem dX6_measure_41 : decode cX6_measure 41 = .ok (.aload_n 0, 1) := by decide +kernel
theorem dX6_measure_42 : decode cX6_measure 42 = .ok (.aload_n 1, 1) := by decide +kernel
theorem dX6_measure_43 : decode cX6_measure 43 = .ok (.iload_n 3, 1) := by decide +kernel
theorem dX6_measure_44 : decode cX6_measure 44 = .ok (.invokevirtual 44, 3) := by decide +kernel
theorem dX6_measure_47 : decode cX6_measure 47 = .ok (.iastore, 1) := by decide +kernel
theorem dX6_measure_48 : decode cX6_measure 48 = .ok (.aload_n 0, 1) := by decide +kernel
theorem dX6_measure_49 : decode cX6_measure 49 = .ok (.getfield 18, 3) := by decide +kernel
theorem dX6_measure_52 : decode cX6_measure 52 = .ok (.iload_n 3, 1) := by decide +kernel
theorem dX6_measure_53 : decode cX6_measure 53 = .ok (.aload_n 0, 1) := by decide +kernel
theorem dX6_measure_54 : decode cX6_measure 54 = .ok (.aload_n 1, 1) := by decide +kernel
theorem dX6_measure_55 : decode cX6_measure 55 = .ok (.iload_n 3, 1) := by decide +kernel
theorem dX6_measure_56 : decode cX6_measure 56 = .ok (.invokevirtual 48, 3) := by decide +kernel
theorem dX6_measure_59 : decode cX6_measure 59 = .ok (.aload_n 0, 1) := by decide +kernel
theorem dX6_measure_60 : decode cX6_measure 60 = .ok (.getfield 15, 3) := by decide +kernel
theorem dX6_measure_63 : decode cX6_measure 63 = .ok (.iload_n 3, 1) := by decide +kernel
theorem dX6_measure_64 : decode cX6_measure 64 = .ok (.iaload, 1) := by decide +kernel
theorem dX6_measure_65 : decode cX6_measure 65 = .ok (.aload_n 1, 1) := by decide +kernel
theorem dX6_measure_66 : decode cX6_measure 66 = .ok (.getfield 51, 3) := by decide +kernel
theorem dX6_measure_69 : decode cX6_measure 69 = .ok (.iconst 1, 1) := by decide +kernel
theorem dX6_measure_70 : decode cX6_measure 70 = .ok (.iaload, 1) := by decide +kernel
theorem dX6_measure_71 : decode cX6_measure 71 = .ok (.imul, 1) := by decide +kernel
theorem dX6_measure_72 : decode cX6_measure 72 = .ok (.iadd, 1) := by decide +kernel
theorem dX6_measure_73 : decode cX6_measure 73 = .ok (.iastore, 1) := by decide +kernel
theorem dX6_measure_74 : decode cX6_measure 74 = .ok (.aload_n 0, 1) := by decide +kernel
theorem dX6_measure_75 : decode cX6_measure 75 = .ok (.dup, 1) := by decide +kernel
theorem dX6_measure_76 : decode cX6_measure 76 = .ok (.getfield 29, 3) := by decide +kernel
theorem dX6_measure_79 : decode cX6_measure 79 = .ok (.aload_n 1, 1) := by decide +kernel
theorem dX6_measure_80 : decode cX6_measure 80 = .ok (.getfield 54, 3) := by decide +kernel
theorem dX6_measure_83 : decode cX6_measure 83 = .ok (.iload_n 3, 1) := by decide +kernel
theorem dX6_measure_84 : decode cX6_measure 84 = .ok (.iaload, 1) := by decide +kernel
theorem dX6_measure_85 : decode cX6_measure 85 = .ok (.aload_n 0, 1) := by decide +kernel
theorem dX6_measure_86 : decode cX6_measure 86 = .ok (.getfield 18, 3) := by decide +kernel
theorem dX6_measure_89 : decode cX6_measure 89 = .ok (.iload_n 3, 1) := by decide +kernel
theorem dX6_measure_90 : decode cX6_measure 90 = .ok (.iaload, 1) := by decide +kernel
theorem dX6_measure_91 : decode cX6_measure 91 = .ok (.imul, 1) := by decide +kernel
theorem dX6_measure_92 : decode cX6_measure 92 = .ok (.iadd, 1) := by decide +kernel
theorem dX6_measure_93 : decode cX6_measure 93 = .ok (.putfield 29, 3) := by decide +kernel
theorem dX6_measure_96 : decode cX6_measure 96 = .ok (.aload_n 0, 1) := by decide +kernel
theorem dX6_measure_97 : decode cX6_measure 97 = .ok (.aload_n 0, 1) := by decide +kernel
theorem dX6_measure_98 : decode cX6_measure 98 = .ok (.getfield 33, 3) := by decide +kernel
theorem dX6_measure_101 : decode cX6_measure 101 = .ok (.aload_n 0, 1) := by decide +kernel
theorem dX6_measure_102 : decode cX6_measure 102 = .ok (.getfield 18, 3) := by decide +kernel
theorem dX6_measure_105 : decode cX6_measure 105 = .ok (.iload_n 3, 1) := by decide +kernel
theorem dX6_measure_106 : decode cX6_measure 106 = .ok (.iaload, 1) := by decide +kernel
theorem dX6_measure_107 : decode cX6_measure 107 = .ok (.invokestatic 57, 3) := by decide +kernel
theorem dX6_measure_110 : decode cX6_measure 110 = .ok (.putfield 33, 3) := by decide +kernel
theorem dX6_measure_113 : decode cX6_measure 113 = .ok (.aload_n 0, 1) := by decide +kernel
theorem dX6_measure_114 : decode cX6_measure 114 = .ok (.dup, 1) := by decide +kernel
theorem dX6_measure_115 : decode cX6_measure 115 = .ok (.getfield 36, 3) := by decide +kernel
theorem dX6_measure_118 : decode cX6_measure 118 = .ok (.aload_n 1, 1) := by decide +kernel
theorem dX6_measure_119 : decode cX6_measure 119 = .ok (.getfield 54, 3) := by decide +kernel
theorem dX6_measure_122 : decode cX6_measure 122 = .ok (.iload_n 3, 1) := by decide +kernel
theorem dX6_measure_123 : decode cX6_measure 123 = .ok (.iaload, 1) := by decide +kernel
theorem dX6_measure_124 : decode cX6_measure 124 = .ok (.iadd, 1) := by decide +kernel
theorem dX6_measure_125 : decode cX6_measure 125 = .ok (.putfield 36, 3) := by decide +kernel
theorem dX6_measure_128 : decode cX6_measure 128 = .ok (.iinc 3 1, 3) := by decide +kernel
theorem dX6_measure_131 : decode cX6_measure 131 = .ok (.goto (-103), 3) := by decide +kernel
theorem dX6_measure_134 : decode cX6_measure 134 = .ok (.return_, 1) := by decide +kernel
theorem dX6_lack_0 : decode cX6_lack 0 = .ok (.iload_n 2, 1) := by decide +kernel
theorem dX6_lack_1 : decode cX6_lack 1 = .ok (.aload_n 1, 1) := by decide +kernel
theorem dX6_lack_2 : decode cX6_lack 2 = .ok (.getfield 51, 3) := by decide +kernel
theorem dX6_lack_5 : decode cX6_lack 5 = .ok (.iconst 0, 1) := by decide +kernel
theorem dX6_lack_6 : decode cX6_lack 6 = .ok (.iaload, 1) := by decide +kernel
theorem dX6_lack_7 : decode cX6_lack 7 = .ok (.imul, 1) := by decide +kernel
theorem dX6_lack_8 : decode cX6_lack 8 = .ok (.aload_n 0, 1) := by decide +kernel
theorem dX6_lack_9 : decode cX6_lack 9 = .ok (.getfield 36, 3) := by decide +kernel
theorem dX6_lack_12 : decode cX6_lack 12 = .ok (.imul, 1) := by decide +kernel
theorem dX6_lack_13 : decode cX6_lack 13 = .ok (.aload_n 0, 1) := by decide +kernel
theorem dX6_lack_14 : decode cX6_lack 14 = .ok (.getfield 29, 3) := by decide +kernel
theorem dX6_lack_17 : decode cX6_lack 17 = .ok (.isub, 1) := by decide +kernel
theorem dX6_lack_18 : decode cX6_lack 18 = .ok (.ireturn, 1) := by decide +kernel
theorem dX6_isWithinToolLimit_0 : decode cX6_isWithinToolLimit 0 = .ok (.aload_n 0, 1) := by decide +kernel
theorem dX6_isWithinToolLimit_1 : decode cX6_isWithinToolLimit 1 = .ok (.getfield 63, 3) := by decide +kernel
theorem dX6_isWithinToolLimit_4 : decode cX6_isWithinToolLimit 4 = .ok (.invokestatic 66, 3) := by decide +kernel
theorem dX6_isWithinToolLimit_7 : decode cX6_isWithinToolLimit 7 = .ok (.aload_n 1, 1) := by decide +kernel
theorem dX6_isWithinToolLimit_8 : decode cX6_isWithinToolLimit 8 = .ok (.getfield 51, 3) := by decide +kernel
theorem dX6_isWithinToolLimit_11 : decode cX6_isWithinToolLimit 11 = .ok (.iconst 2, 1) := by decide +kernel
theorem dX6_isWithinToolLimit_12 : decode cX6_isWithinToolLimit 12 = .ok (.iaload, 1) := by decide +kernel
theorem dX6_isWithinToolLimit_13 : decode cX6_isWithinToolLimit 13 = .ok (.if_icmp .gt 7, 3) := by decide +kernel
theorem dX6_isWithinToolLimit_16 : decode cX6_isWithinToolLimit 16 = .ok (.iconst 1, 1) := by decide +kernel
theorem dX6_isWithinToolLimit_17 : decode cX6_isWithinToolLimit 17 = .ok (.goto 4, 3) := by decide +kernel
theorem dX6_isWithinToolLimit_20 : decode cX6_isWithinToolLimit 20 = .ok (.iconst 0, 1) := by decide +kernel
theorem dX6_isWithinToolLimit_21 : decode cX6_isWithinToolLimit 21 = .ok (.ireturn, 1) := by decide +kernel
theorem dX6_fits_0 : decode cX6_fits 0 = .ok (.aload_n 1, 1) := by decide +kernel
theorem dX6_fits_1 : decode cX6_fits 1 = .ok (.getfield 51, 3) := by decide +kernel
theorem dX6_fits_4 : decode cX6_fits 4 = .ok (.iconst 3, 1) := by decide +kernel
theorem dX6_fits_5 : decode cX6_fits 5 = .ok (.iaload, 1) := by decide +kernel
theorem dX6_fits_6 : decode cX6_fits 6 = .ok (.iconst 1, 1) := by decide +kernel
theorem dX6_fits_7 : decode cX6_fits 7 = .ok (.if_icmp .ne 24, 3) := by decide +kernel
theorem dX6_fits_10 : decode cX6_fits 10 = .ok (.aload_n 0, 1) := by decide +kernel
theorem dX6_fits_11 : decode cX6_fits 11 = .ok (.getfield 33, 3) := by decide +kernel
theorem dX6_fits_14 : decode cX6_fits 14 = .ok (.iload_n 2, 1) := by decide +kernel
theorem dX6_fits_15 : decode cX6_fits 15 = .ok (.aload_n 1, 1) := by decide +kernel
theorem dX6_fits_16 : decode cX6_fits 16 = .ok (.getfield 51, 3) := by decide +kernel
theorem dX6_fits_19 : decode cX6_fits 19 = .ok (.iconst 0, 1) := by decide +kernel
theorem dX6_fits_20 : decode cX6_fits 20 = .ok (.iaload, 1) := by decide +kernel
theorem dX6_fits_21 : decode cX6_fits 21 = .ok (.imul, 1) := by decide +kernel
theorem dX6_fits_22 : decode cX6_fits 22 = .ok (.if_icmp .gt 7, 3) := by decide +kernel
theorem dX6_fits_25 : decode cX6_fits 25 = .ok (.iconst 1, 1) := by decide +kernel
theorem dX6_fits_26 : decode cX6_fits 26 = .ok (.goto 4, 3) := by decide +kernel
theorem dX6_fits_29 : decode cX6_fits 29 = .ok (.iconst 0, 1) := by decide +kernel
theorem dX6_fits_30 : decode cX6_fits 30 = .ok (.ireturn, 1) := by decide +kernel
theorem dX6_fits_31 : decode cX6_fits 31 = .ok (.aload_n 0, 1) := by decide +kernel
theorem dX6_fits_32 : decode cX6_fits 32 = .ok (.aload_n 1, 1) := by decide +kernel
theorem dX6_fits_33 : decode cX6_fits 33 = .ok (.iload_n 2, 1) := by decide +kernel
theorem dX6_fits_34 : decode cX6_fits 34 = .ok (.invokevirtual 72, 3) := by decide +kernel
theorem dX6_fits_37 : decode cX6_fits 37 = .ok (.ifCond .lt 7, 3) := by decide +kernel
theorem dX6_fits_40 : decode cX6_fits 40 = .ok (.iconst 1, 1) := by decide +kernel
theorem dX6_fits_41 : decode cX6_fits 41 = .ok (.goto 4, 3) := by decide +kernel
theorem dX6_fits_44 : decode cX6_fits 44 = .ok (.iconst 0, 1) := by decide +kernel
theorem dX6_fits_45 : decode cX6_fits 45 = .ok (.ireturn, 1) := by decide +kernel
theorem dX6_arrange_0 : decode cX6_arrange 0 = .ok (.iload_n 2, 1) := by decide +kernel
theorem dX6_arrange_1 : decode cX6_arrange 1 = .ok (.istore_n 3, 1) := by decide +kernel
theorem dX6_arrange_2 : decode cX6_arrange 2 = .ok (.aload_n 0, 1) := by decide +kernel
theorem dX6_arrange_3 : decode cX6_arrange 3 = .ok (.iconst 0, 1) := by decide +kernel
theorem dX6_arrange_4 : decode cX6_arrange 4 = .ok (.putfield 75, 3) := by decide +kernel
theorem dX6_arrange_7 : decode cX6_arrange 7 = .ok (.iconst 0, 1) := by decide +kernel
theorem dX6_arrange_8 : decode cX6_arrange 8 = .ok (.istore 4, 2) := by decide +kernel
theorem dX6_arrange_10 : decode cX6_arrange 10 = .ok (.iload 4, 2) := by decide +kernel
theorem dX6_arrange_12 : decode cX6_arrange 12 = .ok (.bipush 12, 2) := by decide +kernel
theorem dX6_arrange_14 : decode cX6_arrange 14 = .ok (.if_icmp .ge 78, 3) := by decide +kernel
theorem dX6_arrange_17 : decode cX6_arrange 17 = .ok (.iload_n 3, 1) := by decide +kernel
theorem dX6_arrange_18 : decode cX6_arrange 18 = .ok (.ifCond .eq 74, 3) := by decide +kernel
theorem dX6_arrange_21 : decode cX6_arrange 21 = .ok (.iconst 0, 1) := by decide +kernel
theorem dX6_arrange_22 : decode cX6_arrange 22 = .ok (.istore 5, 2) := by decide +kernel
theorem dX6_arrange_24 : decode cX6_arrange 24 = .ok (.iload 5, 2) := by decide +kernel
theorem dX6_arrange_26 : decode cX6_arrange 26 = .ok (.bipush 11, 2) := by decide +kernel
theorem dX6_arrange_28 : decode cX6_arrange 28 = .ok (.if_icmp .ge 30, 3) := by decide +kernel
theorem dX6_arrange_31 : decode cX6_arrange 31 = .ok (.iload_n 3, 1) := by decide +kernel
theorem dX6_arrange_32 : decode cX6_arrange 32 = .ok (.iload 5, 2) := by decide +kernel
theorem dX6_arrange_34 : decode cX6_arrange 34 = .ok (.ishr, 1) := by decide +kernel
theorem dX6_arrange_35 : decode cX6_arrange 35 = .ok (.iconst 1, 1) := by decide +kernel
theorem dX6_arrange_36 : decode cX6_arrange 36 = .ok (.iand, 1) := by decide +kernel
theorem dX6_arrange_37 : decode cX6_arrange 37 = .ok (.ifCond .eq 15, 3) := by decide +kernel
theorem dX6_arrange_40 : decode cX6_arrange 40 = .ok (.aload_n 1, 1) := by decide +kernel
theorem dX6_arrange_41 : decode cX6_arrange 41 = .ok (.getfield 78, 3) := by decide +kernel
theorem dX6_arrange_44 : decode cX6_arrange 44 = .ok (.iload 5, 2) := by decide +kernel
theorem dX6_arrange_46 : decode cX6_arrange 46 = .ok (.iaload, 1) := by decide +kernel
theorem dX6_arrange_47 : decode cX6_arrange 47 = .ok (.iload_n 3, 1) := by decide +kernel
theorem dX6_arrange_48 : decode cX6_arrange 48 = .ok (.iand, 1) := by decide +kernel
theorem dX6_arrange_49 : decode cX6_arrange 49 = .ok (.ifCond .eq 9, 3) := by decide +kernel
theorem dX6_arrange_52 : decode cX6_arrange 52 = .ok (.iinc 5 1, 3) := by decide +kernel
theorem dX6_arrange_55 : decode cX6_arrange 55 = .ok (.goto (-31), 3) := by decide +kernel
theorem dX6_arrange_58 : decode cX6_arrange 58 = .ok (.aload_n 0, 1) := by decide +kernel
theorem dX6_arrange_59 : decode cX6_arrange 59 = .ok (.getfield 9, 3) := by decide +kernel
theorem dX6_arrange_62 : decode cX6_arrange 62 = .ok (.iload 4, 2) := by decide +kernel
theorem dX6_arrange_64 : decode cX6_arrange 64 = .ok (.iload 5, 2) := by decide +kernel
theorem dX6_arrange_66 : decode cX6_arrange 66 = .ok (.iastore, 1) := by decide +kernel
theorem dX6_arrange_67 : decode cX6_arrange 67 = .ok (.aload_n 0, 1) := by decide +kernel
theorem dX6_arrange_68 : decode cX6_arrange 68 = .ok (.dup, 1) := by decide +kernel
theorem dX6_arrange_69 : decode cX6_arrange 69 = .ok (.getfield 75, 3) := by decide +kernel
theorem dX6_arrange_72 : decode cX6_arrange 72 = .ok (.iconst 1, 1) := by decide +kernel
theorem dX6_arrange_73 : decode cX6_arrange 73 = .ok (.iadd, 1) := by decide +kernel
theorem dX6_arrange_74 : decode cX6_arrange 74 = .ok (.putfield 75, 3) := by decide +kernel
theorem dX6_arrange_77 : decode cX6_arrange 77 = .ok (.iload_n 3, 1) := by decide +kernel
theorem dX6_arrange_78 : decode cX6_arrange 78 = .ok (.iconst 1, 1) := by decide +kernel
theorem dX6_arrange_79 : decode cX6_arrange 79 = .ok (.iload 5, 2) := by decide +kernel
theorem dX6_arrange_81 : decode cX6_arrange 81 = .ok (.ishl, 1) := by decide +kernel
theorem dX6_arrange_82 : decode cX6_arrange 82 = .ok (.iconst (-1), 1) := by decide +kernel
theorem dX6_arrange_83 : decode cX6_arrange 83 = .ok (.ixor, 1) := by decide +kernel
theorem dX6_arrange_84 : decode cX6_arrange 84 = .ok (.iand, 1) := by decide +kernel
theorem dX6_arrange_85 : decode cX6_arrange 85 = .ok (.istore_n 3, 1) := by decide +kernel
theorem dX6_arrange_86 : decode cX6_arrange 86 = .ok (.iinc 4 1, 3) := by decide +kernel
theorem dX6_arrange_89 : decode cX6_arrange 89 = .ok (.goto (-79), 3) := by decide +kernel
theorem dX6_arrange_92 : decode cX6_arrange 92 = .ok (.return_, 1) := by decide +kernel
theorem dX6_collectTools_0 : decode cX6_collectTools 0 = .ok (.aload_n 0, 1) := by decide +kernel
theorem dX6_collectTools_1 : decode cX6_collectTools 1 = .ok (.iconst 0, 1) := by decide +kernel
theorem dX6_collectTools_2 : decode cX6_collectTools 2 = .ok (.putfield 63, 3) := by decide +kernel
theorem dX6_collectTools_5 : decode cX6_collectTools 5 = .ok (.iconst 0, 1) := by decide +kernel
theorem dX6_collectTools_6 : decode cX6_collectTools 6 = .ok (.istore_n 2, 1) := by decide +kernel
theorem dX6_collectTools_7 : decode cX6_collectTools 7 = .ok (.iload_n 2, 1) := by decide +kernel
theorem dX6_collectTools_8 : decode cX6_collectTools 8 = .ok (.aload_n 0, 1) := by decide +kernel
theorem dX6_collectTools_9 : decode cX6_collectTools 9 = .ok (.getfield 75, 3) := by decide +kernel
theorem dX6_collectTools_12 : decode cX6_collectTools 12 = .ok (.if_icmp .ge 41, 3) := by decide +kernel
theorem dX6_collectTools_15 : decode cX6_collectTools 15 = .ok (.aload_n 1, 1) := by decide +kernel
theorem dX6_collectTools_16 : decode cX6_collectTools 16 = .ok (.getfield 81, 3) := by decide +kernel
theorem dX6_collectTools_19 : decode cX6_collectTools 19 = .ok (.aload_n 0, 1) := by decide +kernel
theorem dX6_collectTools_20 : decode cX6_collectTools 20 = .ok (.getfield 9, 3) := by decide +kernel
theorem dX6_collectTools_23 : decode cX6_collectTools 23 = .ok (.iload_n 2, 1) := by decide +kernel
theorem dX6_collectTools_24 : decode cX6_collectTools 24 = .ok (.iaload, 1) := by decide +kernel
theorem dX6_collectTools_25 : decode cX6_collectTools 25 = .ok (.iaload, 1) := by decide +kernel
theorem dX6_collectTools_26 : decode cX6_collectTools 26 = .ok (.istore_n 3, 1) := by decide +kernel
theorem dX6_collectTools_27 : decode cX6_collectTools 27 = .ok (.aload_n 0, 1) := by decide +kernel
theorem dX6_collectTools_28 : decode cX6_collectTools 28 = .ok (.dup, 1) := by decide +kernel
theorem dX6_collectTools_29 : decode cX6_collectTools 29 = .ok (.getfield 63, 3) := by decide +kernel
theorem dX6_collectTools_32 : decode cX6_collectTools 32 = .ok (.iload_n 3, 1) := by decide +kernel
theorem dX6_collectTools_33 : decode cX6_collectTools 33 = .ok (.ifCond .ne 7, 3) := by decide +kernel
theorem dX6_collectTools_36 : decode cX6_collectTools 36 = .ok (.iconst 0, 1) := by decide +kernel
theorem dX6_collectTools_37 : decode cX6_collectTools 37 = .ok (.goto 6, 3) := by decide +kernel
theorem dX6_collectTools_40 : decode cX6_collectTools 40 = .ok (.iconst 1, 1) := by decide +kernel
theorem dX6_collectTools_41 : decode cX6_collectTools 41 = .ok (.iload_n 3, 1) := by decide +kernel
theorem dX6_collectTools_42 : decode cX6_collectTools 42 = .ok (.ishl, 1) := by decide +kernel
theorem dX6_collectTools_43 : decode cX6_collectTools 43 = .ok (.ior, 1) := by decide +kernel
theorem dX6_collectTools_44 : decode cX6_collectTools 44 = .ok (.putfield 63, 3) := by decide +kernel
theorem dX6_collectTools_47 : decode cX6_collectTools 47 = .ok (.iinc 2 1, 3) := by decide +kernel
theorem dX6_collectTools_50 : decode cX6_collectTools 50 = .ok (.goto (-43), 3) := by decide +kernel
theorem dX6_collectTools_53 : decode cX6_collectTools 53 = .ok (.return_, 1) := by decide +kernel
theorem dX6_sumTimes_0 : decode cX6_sumTimes 0 = .ok (.iconst 0, 1) := by decide +kernel
theorem dX6_sumTimes_1 : decode cX6_sumTimes 1 = .ok (.istore_n 3, 1) := by decide +kernel
theorem dX6_sumTimes_2 : decode cX6_sumTimes 2 = .ok (.iconst 0, 1) := by decide +kernel
theorem dX6_sumTimes_3 : decode cX6_sumTimes 3 = .ok (.istore 4, 2) := by decide +kernel
theorem dX6_sumTimes_5 : decode cX6_sumTimes 5 = .ok (.iload 4, 2) := by decide +kernel
theorem dX6_sumTimes_7 : decode cX6_sumTimes 7 = .ok (.aload_n 0, 1) := by decide +kernel
theorem dX6_sumTimes_8 : decode cX6_sumTimes 8 = .ok (.getfield 75, 3) := by decide +kernel
theorem dX6_sumTimes_11 : decode cX6_sumTimes 11 = .ok (.if_icmp .ge 28, 3) := by decide +kernel
theorem dX6_sumTimes_14 : decode cX6_sumTimes 14 = .ok (.iload_n 3, 1) := by decide +kernel
theorem dX6_sumTimes_15 : decode cX6_sumTimes 15 = .ok (.aload_n 1, 1) := by decide +kernel
theorem dX6_sumTimes_16 : decode cX6_sumTimes 16 = .ok (.getfield 83, 3) := by decide +kernel
theorem dX6_sumTimes_19 : decode cX6_sumTimes 19 = .ok (.aload_n 0, 1) := by decide +kernel
theorem dX6_sumTimes_20 : decode cX6_sumTimes 20 = .ok (.getfield 9, 3) := by decide +kernel
theorem dX6_sumTimes_23 : decode cX6_sumTimes 23 = .ok (.iload 4, 2) := by decide +kernel
theorem dX6_sumTimes_25 : decode cX6_sumTimes 25 = .ok (.iaload, 1) := by decide +kernel
theorem dX6_sumTimes_26 : decode cX6_sumTimes 26 = .ok (.iconst 3, 1) := by decide +kernel
theorem dX6_sumTimes_27 : decode cX6_sumTimes 27 = .ok (.imul, 1) := by decide +kernel
theorem dX6_sumTimes_28 : decode cX6_sumTimes 28 = .ok (.iload_n 2, 1) := by decide +kernel
theorem dX6_sumTimes_29 : decode cX6_sumTimes 29 = .ok (.iadd, 1) := by decide +kernel
theorem dX6_sumTimes_30 : decode cX6_sumTimes 30 = .ok (.iaload, 1) := by decide +kernel
theorem dX6_sumTimes_31 : decode cX6_sumTimes 31 = .ok (.iadd, 1) := by decide +kernel
theorem dX6_sumTimes_32 : decode cX6_sumTimes 32 = .ok (.istore_n 3, 1) := by decide +kernel
theorem dX6_sumTimes_33 : decode cX6_sumTimes 33 = .ok (.iinc 4 1, 3) := by decide +kernel
theorem dX6_sumTimes_36 : decode cX6_sumTimes 36 = .ok (.goto (-31), 3) := by decide +kernel
theorem dX6_sumTimes_39 : decode cX6_sumTimes 39 = .ok (.iload_n 3, 1) := by decide +kernel
theorem dX6_sumTimes_40 : decode cX6_sumTimes 40 = .ok (.ireturn, 1) := by decide +kernel
theorem dX6_countChanges_0 : decode cX6_countChanges 0 = .ok (.iconst 0, 1) := by decide +kernel
theorem dX6_countChanges_1 : decode cX6_countChanges 1 = .ok (.istore_n 3, 1) := by decide +kernel
theorem dX6_countChanges_2 : decode cX6_countChanges 2 = .ok (.iconst 0, 1) := by decide +kernel
theorem dX6_countChanges_3 : decode cX6_countChanges 3 = .ok (.istore 4, 2) := by decide +kernel
theorem dX6_countChanges_5 : decode cX6_countChanges 5 = .ok (.iconst 0, 1) := by decide +kernel
theorem dX6_countChanges_6 : decode cX6_countChanges 6 = .ok (.istore 5, 2) := by decide +kernel
theorem dX6_countChanges_8 : decode cX6_countChanges 8 = .ok (.iconst 0, 1) := by decide +kernel
theorem dX6_countChanges_9 : decode cX6_countChanges 9 = .ok (.istore 6, 2) := by decide +kernel
theorem dX6_countChanges_11 : decode cX6_countChanges 11 = .ok (.iload 6, 2) := by decide +kernel
theorem dX6_countChanges_13 : decode cX6_countChanges 13 = .ok (.aload_n 0, 1) := by decide +kernel
theorem dX6_countChanges_14 : decode cX6_countChanges 14 = .ok (.getfield 75, 3) := by decide +kernel
theorem dX6_countChanges_17 : decode cX6_countChanges 17 = .ok (.if_icmp .ge 84, 3) := by decide +kernel
theorem dX6_countChanges_20 : decode cX6_countChanges 20 = .ok (.aload_n 1, 1) := by decide +kernel
theorem dX6_countChanges_21 : decode cX6_countChanges 21 = .ok (.getfield 81, 3) := by decide +kernel
theorem dX6_countChanges_24 : decode cX6_countChanges 24 = .ok (.aload_n 0, 1) := by decide +kernel
theorem dX6_countChanges_25 : decode cX6_countChanges 25 = .ok (.getfield 9, 3) := by decide +kernel
theorem dX6_countChanges_28 : decode cX6_countChanges 28 = .ok (.iload 6, 2) := by decide +kernel
theorem dX6_countChanges_30 : decode cX6_countChanges 30 = .ok (.iaload, 1) := by decide +kernel
theorem dX6_countChanges_31 : decode cX6_countChanges 31 = .ok (.iaload, 1) := by decide +kernel
theorem dX6_countChanges_32 : decode cX6_countChanges 32 = .ok (.istore 7, 2) := by decide +kernel
theorem dX6_countChanges_34 : decode cX6_countChanges 34 = .ok (.iload 7, 2) := by decide +kernel
theorem dX6_countChanges_36 : decode cX6_countChanges 36 = .ok (.ifCond .eq 59, 3) := by decide +kernel
theorem dX6_countChanges_39 : decode cX6_countChanges 39 = .ok (.aload_n 1, 1) := by decide +kernel
theorem dX6_countChanges_40 : decode cX6_countChanges 40 = .ok (.getfield 83, 3) := by decide +kernel
theorem dX6_countChanges_43 : decode cX6_countChanges 43 = .ok (.aload_n 0, 1) := by decide +kernel
theorem dX6_countChanges_44 : decode cX6_countChanges 44 = .ok (.getfield 9, 3) := by decide +kernel
theorem dX6_countChanges_47 : decode cX6_countChanges 47 = .ok (.iload 6, 2) := by decide +kernel
theorem dX6_countChanges_49 : decode cX6_countChanges 49 = .ok (.iaload, 1) := by decide +kernel
theorem dX6_countChanges_50 : decode cX6_countChanges 50 = .ok (.iconst 3, 1) := by decide +kernel
theorem dX6_countChanges_51 : decode cX6_countChanges 51 = .ok (.imul, 1) := by decide +kernel
theorem dX6_countChanges_52 : decode cX6_countChanges 52 = .ok (.iload_n 2, 1) := by decide +kernel
theorem dX6_countChanges_53 : decode cX6_countChanges 53 = .ok (.iadd, 1) := by decide +kernel
theorem dX6_countChanges_54 : decode cX6_countChanges 54 = .ok (.iaload, 1) := by decide +kernel
theorem dX6_countChanges_55 : decode cX6_countChanges 55 = .ok (.ifCond .le 40, 3) := by decide +kernel
theorem dX6_countChanges_58 : decode cX6_countChanges 58 = .ok (.iload 5, 2) := by decide +kernel
theorem dX6_countChanges_60 : decode cX6_countChanges 60 = .ok (.iload 4, 2) := by decide +kernel
theorem dX6_countChanges_62 : decode cX6_countChanges 62 = .ok (.ifCond .eq 14, 3) := by decide +kernel
theorem dX6_countChanges_65 : decode cX6_countChanges 65 = .ok (.iload 7, 2) := by decide +kernel
theorem dX6_countChanges_67 : decode cX6_countChanges 67 = .ok (.iload 4, 2) := by decide +kernel
theorem dX6_countChanges_69 : decode cX6_countChanges 69 = .ok (.if_icmp .eq 7, 3) := by decide +kernel
theorem dX6_countChanges_72 : decode cX6_countChanges 72 = .ok (.iconst 1, 1) := by decide +kernel
theorem dX6_countChanges_73 : decode cX6_countChanges 73 = .ok (.goto 4, 3) := by decide +kernel
theorem dX6_countChanges_76 : decode cX6_countChanges 76 = .ok (.iconst 0, 1) := by decide +kernel
theorem dX6_countChanges_77 : decode cX6_countChanges 77 = .ok (.iadd, 1) := by decide +kernel
theorem dX6_countChanges_78 : decode cX6_countChanges 78 = .ok (.istore 5, 2) := by decide +kernel
theorem dX6_countChanges_80 : decode cX6_countChanges 80 = .ok (.iload_n 3, 1) := by decide +kernel
theorem dX6_countChanges_81 : decode cX6_countChanges 81 = .ok (.ifCond .ne 8, 3) := by decide +kernel
theorem dX6_countChanges_84 : decode cX6_countChanges 84 = .ok (.iload 7, 2) := by decide +kernel
theorem dX6_countChanges_86 : decode cX6_countChanges 86 = .ok (.goto 4, 3) := by decide +kernel
theorem dX6_countChanges_89 : decode cX6_countChanges 89 = .ok (.iload_n 3, 1) := by decide +kernel
theorem dX6_countChanges_90 : decode cX6_countChanges 90 = .ok (.istore_n 3, 1) := by decide +kernel
theorem dX6_countChanges_91 : decode cX6_countChanges 91 = .ok (.iload 7, 2) := by decide +kernel
theorem dX6_countChanges_93 : decode cX6_countChanges 93 = .ok (.istore 4, 2) := by decide +kernel
theorem dX6_countChanges_95 : decode cX6_countChanges 95 = .ok (.iinc 6 1, 3) := by decide +kernel
theorem dX6_countChanges_98 : decode cX6_countChanges 98 = .ok (.goto (-87), 3) := by decide +kernel
theorem dX6_countChanges_101 : decode cX6_countChanges 101 = .ok (.iload 4, 2) := by decide +kernel
theorem dX6_countChanges_103 : decode cX6_countChanges 103 = .ok (.iload_n 3, 1) := by decide +kernel
theorem dX6_countChanges_104 : decode cX6_countChanges 104 = .ok (.if_icmp .ne 8, 3) := by decide +kernel
theorem dX6_countChanges_107 : decode cX6_countChanges 107 = .ok (.iload 5, 2) := by decide +kernel
theorem dX6_countChanges_109 : decode cX6_countChanges 109 = .ok (.goto 7, 3) := by decide +kernel
theorem dX6_countChanges_112 : decode cX6_countChanges 112 = .ok (.iload 5, 2) := by decide +kernel
theorem dX6_countChanges_114 : decode cX6_countChanges 114 = .ok (.iconst 1, 1) := by decide +kernel
theorem dX6_countChanges_115 : decode cX6_countChanges 115 = .ok (.iadd, 1) := by decide +kernel
theorem dX6_countChanges_116 : decode cX6_countChanges 116 = .ok (.ireturn, 1) := by decide +kernel
end
section
theorem dX7_init_0 : decode cX7_init 0 = .ok (.aload_n 0, 1) := by decide +kernel
theorem dX7_init_1 : decode cX7_init 1 = .ok (.invokespecial 3, 3) := by decide +kernel
theorem dX7_init_4 : decode cX7_init 4 = .ok (.aload_n 0, 1) := by decide +kernel
theorem dX7_init_5 : decode cX7_init 5 = .ok (.new 9, 3) := by decide +kernel
theorem dX7_init_8 : decode cX7_init 8 = .ok (.dup, 1) := by decide +kernel
theorem dX7_init_9 : decode cX7_init 9 = .ok (.invokespecial 11, 3) := by decide +kernel
theorem dX7_init_12 : decode cX7_init 12 = .ok (.putfield 12, 3) := by decide +kernel
theorem dX7_init_15 : decode cX7_init 15 = .ok (.aload_n 0, 1) := by decide +kernel
theorem dX7_init_16 : decode cX7_init 16 = .ok (.new 9, 3) := by decide +kernel
theorem dX7_init_19 : decode cX7_init 19 = .ok (.dup, 1) := by decide +kernel
theorem dX7_init_20 : decode cX7_init 20 = .ok (.invokespecial 11, 3) := by decide +kernel
theorem dX7_init_23 : decode cX7_init 23 = .ok (.putfield 16, 3) := by decide +kernel
theorem dX7_init_26 : decode cX7_init 26 = .ok (.aload_n 0, 1) := by decide +kernel
theorem dX7_init_27 : decode cX7_init 27 = .ok (.new 19, 3) := by decide +kernel
theorem dX7_init_30 : decode cX7_init 30 = .ok (.dup, 1) := by decide +kernel
theorem dX7_init_31 : decode cX7_init 31 = .ok (.aload_n 0, 1) := by decide +kernel
theorem dX7_init_32 : decode cX7_init 32 = .ok (.getfield 12, 3) := by decide +kernel
theorem dX7_init_35 : decode cX7_init 35 = .ok (.invokespecial 21, 3) := by decide +kernel
theorem dX7_init_38 : decode cX7_init 38 = .ok (.putfield 24, 3) := by decide +kernel
theorem dX7_init_41 : decode cX7_init 41 = .ok (.aload_n 0, 1) := by decide +kernel
theorem dX7_init_42 : decode cX7_init 42 = .ok (.new 28, 3) := by decide +kernel
theorem dX7_init_45 : decode cX7_init 45 = .ok (.dup, 1) := by decide +kernel
theorem dX7_init_46 : decode cX7_init 46 = .ok (.aload_n 0, 1) := by decide +kernel
theorem dX7_init_47 : decode cX7_init 47 = .ok (.getfield 12, 3) := by decide +kernel
theorem dX7_init_50 : decode cX7_init 50 = .ok (.invokespecial 30, 3) := by decide +kernel
theorem dX7_init_53 : decode cX7_init 53 = .ok (.putfield 31, 3) := by decide +kernel
theorem dX7_init_56 : decode cX7_init 56 = .ok (.aload_n 0, 1) := by decide +kernel
theorem dX7_init_57 : decode cX7_init 57 = .ok (.new 35, 3) := by decide +kernel
theorem dX7_init_60 : decode cX7_init 60 = .ok (.dup, 1) := by decide +kernel
theorem dX7_init_61 : decode cX7_init 61 = .ok (.invokespecial 37, 3) := by decide +kernel
theorem dX7_init_64 : decode cX7_init 64 = .ok (.putfield 38, 3) := by decide +kernel
theorem dX7_init_67 : decode cX7_init 67 = .ok (.aload_n 0, 1) := by decide +kernel
theorem dX7_init_68 : decode cX7_init 68 = .ok (.new 42, 3) := by decide +kernel
theorem dX7_init_71 : decode cX7_init 71 = .ok (.dup, 1) := by decide +kernel
theorem dX7_init_72 : decode cX7_init 72 = .ok (.invokespecial 44, 3) := by decide +kernel
theorem dX7_init_75 : decode cX7_init 75 = .ok (.putfield 45, 3) := by decide +kernel
theorem dX7_init_78 : decode cX7_init 78 = .ok (.return_, 1) := by decide +kernel
theorem dX7_setModels_0 : decode cX7_setModels 0 = .ok (.iload_n 1, 1) := by decide +kernel
theorem dX7_setModels_1 : decode cX7_setModels 1 = .ok (.iconst 1, 1) := by decide +kernel
theorem dX7_setModels_2 : decode cX7_setModels 2 = .ok (.iconst 3, 1) := by decide +kernel
theorem dX7_setModels_3 : decode cX7_setModels 3 = .ok (.invokestatic 49, 3) := by decide +kernel
theorem dX7_setModels_6 : decode cX7_setModels 6 = .ok (.invokestatic 53, 3) := by decide +kernel
theorem dX7_setModels_9 : decode cX7_setModels 9 = .ok (.aload_n 0, 1) := by decide +kernel
theorem dX7_setModels_10 : decode cX7_setModels 10 = .ok (.invokevirtual 57, 3) := by decide +kernel
theorem dX7_setModels_13 : decode cX7_setModels 13 = .ok (.aload_n 0, 1) := by decide +kernel
theorem dX7_setModels_14 : decode cX7_setModels 14 = .ok (.getfield 12, 3) := by decide +kernel
theorem dX7_setModels_17 : decode cX7_setModels 17 = .ok (.getfield 60, 3) := by decide +kernel
theorem dX7_setModels_20 : decode cX7_setModels 20 = .ok (.istore_n 2, 1) := by decide +kernel
theorem dX7_setModels_21 : decode cX7_setModels 21 = .ok (.aload_n 0, 1) := by decide +kernel
theorem dX7_setModels_22 : decode cX7_setModels 22 = .ok (.getfield 12, 3) := by decide +kernel
theorem dX7_setModels_25 : decode cX7_setModels 25 = .ok (.iload_n 1, 1) := by decide +kernel
theorem dX7_setModels_26 : decode cX7_setModels 26 = .ok (.putfield 60, 3) := by decide +kernel
theorem dX7_setModels_29 : decode cX7_setModels 29 = .ok (.iload_n 2, 1) := by decide +kernel
theorem dX7_setModels_30 : decode cX7_setModels 30 = .ok (.ireturn, 1) := by decide +kernel
theorem dX7_setDemand_0 : decode cX7_setDemand 0 = .ok (.iload_n 1, 1) := by decide +kernel
theorem dX7_setDemand_1 : decode cX7_setDemand 1 = .ok (.iconst 0, 1) := by decide +kernel
theorem dX7_setDemand_2 : decode cX7_setDemand 2 = .ok (.iconst 2, 1) := by decide +kernel
theorem dX7_setDemand_3 : decode cX7_setDemand 3 = .ok (.invokestatic 49, 3) := by decide +kernel
theorem dX7_setDemand_6 : decode cX7_setDemand 6 = .ok (.invokestatic 64, 3) := by decide +kernel
theorem dX7_setDemand_9 : decode cX7_setDemand 9 = .ok (.iload_n 2, 1) := by decide +kernel
theorem dX7_setDemand_10 : decode cX7_setDemand 10 = .ok (.iconst 1, 1) := by decide +kernel
theorem dX7_setDemand_11 : decode cX7_setDemand 11 = .ok (.bipush 9, 2) := by decide +kernel
theorem dX7_setDemand_13 : decode cX7_setDemand 13 = .ok (.invokestatic 49, 3) := by decide +kernel
theorem dX7_setDemand_16 : decode cX7_setDemand 16 = .ok (.invokestatic 53, 3) := by decide +kernel
theorem dX7_setDemand_19 : decode cX7_setDemand 19 = .ok (.aload_n 0, 1) := by decide +kernel
theorem dX7_setDemand_20 : decode cX7_setDemand 20 = .ok (.invokevirtual 57, 3) := by decide +kernel
theorem dX7_setDemand_23 : decode cX7_setDemand 23 = .ok (.aload_n 0, 1) := by decide +kernel
theorem dX7_setDemand_24 : decode cX7_setDemand 24 = .ok (.getfield 12, 3) := by decide +kernel
theorem dX7_setDemand_27 : decode cX7_setDemand 27 = .ok (.getfield 67, 3) := by decide +kernel
theorem dX7_setDemand_30 : decode cX7_setDemand 30 = .ok (.iload_n 1, 1) := by decide +kernel
theorem dX7_setDemand_31 : decode cX7_setDemand 31 = .ok (.iaload, 1) := by decide +kernel
theorem dX7_setDemand_32 : decode cX7_setDemand 32 = .ok (.istore_n 3, 1) := by decide +kernel
theorem dX7_setDemand_33 : decode cX7_setDemand 33 = .ok (.aload_n 0, 1) := by decide +kernel
theorem dX7_setDemand_34 : decode cX7_setDemand 34 = .ok (.getfield 12, 3) := by decide +kernel
theorem dX7_setDemand_37 : decode cX7_setDemand 37 = .ok (.getfield 67, 3) := by decide +kernel
theorem dX7_setDemand_40 : decode cX7_setDemand 40 = .ok (.iload_n 1, 1) := by decide +kernel
theorem dX7_setDemand_41 : decode cX7_setDemand 41 = .ok (.iload_n 2, 1) := by decide +kernel
theorem dX7_setDemand_42 : decode cX7_setDemand 42 = .ok (.iastore, 1) := by decide +kernel
theorem dX7_setDemand_43 : decode cX7_setDemand 43 = .ok (.iload_n 3, 1) := by decide +kernel
theorem dX7_setDemand_44 : decode cX7_setDemand 44 = .ok (.ireturn, 1) := by decide +kernel
theorem dX7_setRule_0 : decode cX7_setRule 0 = .ok (.iload_n 1, 1) := by decide +kernel
theorem dX7_setRule_1 : decode cX7_setRule 1 = .ok (.iload_n 2, 1) := by decide +kernel
theorem dX7_setRule_2 : decode cX7_setRule 2 = .ok (.invokestatic 71, 3) := by decide +kernel
theorem dX7_setRule_5 : decode cX7_setRule 5 = .ok (.invokestatic 53, 3) := by decide +kernel
theorem dX7_setRule_8 : decode cX7_setRule 8 = .ok (.aload_n 0, 1) := by decide +kernel
theorem dX7_setRule_9 : decode cX7_setRule 9 = .ok (.invokevirtual 57, 3) := by decide +kernel
theorem dX7_setRule_12 : decode cX7_setRule 12 = .ok (.aload_n 0, 1) := by decide +kernel
theorem dX7_setRule_13 : decode cX7_setRule 13 = .ok (.getfield 12, 3) := by decide +kernel
theorem dX7_setRule_16 : decode cX7_setRule 16 = .ok (.getfield 75, 3) := by decide +kernel
theorem dX7_setRule_19 : decode cX7_setRule 19 = .ok (.iload_n 1, 1) := by decide +kernel
theorem dX7_setRule_20 : decode cX7_setRule 20 = .ok (.iaload, 1) := by decide +kernel
theorem dX7_setRule_21 : decode cX7_setRule 21 = .ok (.istore_n 3, 1) := by decide +kernel
theorem dX7_setRule_22 : decode cX7_setRule 22 = .ok (.aload_n 0, 1) := by decide +kernel
theorem dX7_setRule_23 : decode cX7_setRule 23 = .ok (.getfield 12, 3) := by decide +kernel
theorem dX7_setRule_26 : decode cX7_setRule 26 = .ok (.getfield 75, 3) := by decide +kernel
theorem dX7_setRule_29 : decode cX7_setRule 29 = .ok (.iload_n 1, 1) := by decide +kernel
theorem dX7_setRule_30 : decode cX7_setRule 30 = .ok (.iload_n 2, 1) := by decide +kernel
theorem dX7_setRule_31 : decode cX7_setRule 31 = .ok (.iastore, 1) := by decide +kernel
theorem dX7_setRule_32 : decode cX7_setRule 32 = .ok (.iload_n 3, 1) := by decide +kernel
theorem dX7_setRule_33 : decode cX7_setRule 33 = .ok (.ireturn, 1) := by decide +kernel
theorem dX7_rule_0 : decode cX7_rule 0 = .ok (.iload_n 1, 1) := by decide +kernel
theorem dX7_rule_1 : decode cX7_rule 1 = .ok (.iconst 0, 1) := by decide +kernel
theorem dX7_rule_2 : decode cX7_rule 2 = .ok (.bipush 8, 2) := by decide +kernel
theorem dX7_rule_4 : decode cX7_rule 4 = .ok (.invokestatic 49, 3) := by decide +kernel
theorem dX7_rule_7 : decode cX7_rule 7 = .ok (.invokestatic 53, 3) := by decide +kernel
theorem dX7_rule_10 : decode cX7_rule 10 = .ok (.iload_n 1, 1) := by decide +kernel
theorem dX7_rule_11 : decode cX7_rule 11 = .ok (.iconst 4, 1) := by decide +kernel
theorem dX7_rule_12 : decode cX7_rule 12 = .ok (.if_icmp .ge 13, 3) := by decide +kernel
theorem dX7_rule_15 : decode cX7_rule 15 = .ok (.aload_n 0, 1) := by decide +kernel
theorem dX7_rule_16 : decode cX7_rule 16 = .ok (.getfield 12, 3) := by decide +kernel
theorem dX7_rule_19 : decode cX7_rule 19 = .ok (.getfield 75, 3) := by decide +kernel
theorem dX7_rule_22 : decode cX7_rule 22 = .ok (.iload_n 1, 1) := by decide +kernel
theorem dX7_rule_23 : decode cX7_rule 23 = .ok (.iaload, 1) := by decide +kernel
theorem dX7_rule_24 : decode cX7_rule 24 = .ok (.ireturn, 1) := by decide +kernel
theorem dX7_rule_25 : decode cX7_rule 25 = .ok (.iload_n 1, 1) := by decide +kernel
theorem dX7_rule_26 : decode cX7_rule 26 = .ok (.iconst 4, 1) := by decide +kernel
theorem dX7_rule_27 : decode cX7_rule 27 = .ok (.if_icmp .ne 11, 3) := by decide +kernel
theorem dX7_rule_30 : decode cX7_rule 30 = .ok (.aload_n 0, 1) := by decide +kernel
theorem dX7_rule_31 : decode cX7_rule 31 = .ok (.getfield 12, 3) := by decide +kernel
theorem dX7_rule_34 : decode cX7_rule 34 = .ok (.getfield 60, 3) := by decide +kernel
theorem dX7_rule_37 : decode cX7_rule 37 = .ok (.ireturn, 1) := by decide +kernel
theorem dX7_rule_38 : decode cX7_rule 38 = .ok (.iload_n 1, 1) := by decide +kernel
theorem dX7_rule_39 : decode cX7_rule 39 = .ok (.iconst 5, 1) := by decide +kernel
theorem dX7_rule_40 : decode cX7_rule 40 = .ok (.if_icmp .ne 13, 3) := by decide +kernel
theorem dX7_rule_43 : decode cX7_rule 43 = .ok (.aload_n 0, 1) := by decide +kernel
theorem dX7_rule_44 : decode cX7_rule 44 = .ok (.getfield 12, 3) := by decide +kernel
theorem dX7_rule_47 : decode cX7_rule 47 = .ok (.invokevirtual 78, 3) := by decide +kernel
theorem dX7_rule_50 : decode cX7_rule 50 = .ok (.goto 15, 3) := by decide +kernel
theorem dX7_rule_53 : decode cX7_rule 53 = .ok (.aload_n 0, 1) := by decide +kernel
theorem dX7_rule_54 : decode cX7_rule 54 = .ok (.getfield 12, 3) := by decide +kernel
theorem dX7_rule_57 : decode cX7_rule 57 = .ok (.getfield 67, 3) := by decide +kernel
theorem dX7_rule_60 : decode cX7_rule 60 = .ok (.iload_n 1, 1) := by decide +kernel
theorem dX7_rule_61 : decode cX7_rule 61 = .ok (.bipush 6, 2) := by decide +kernel
theorem dX7_rule_63 : decode cX7_rule 63 = .ok (.isub, 1) := by decide +kernel
theorem dX7_rule_64 : decode cX7_rule 64 = .ok (.iaload, 1) := by decide +kernel
theorem dX7_rule_65 : decode cX7_rule 65 = .ok (.ireturn, 1) := by decide +kernel
theorem dX7_setCopies_0 : decode cX7_setCopies 0 = .ok (.iload_n 1, 1) := by decide +kernel
theorem dX7_setCopies_1 : decode cX7_setCopies 1 = .ok (.invokestatic 82, 3) := by decide +kernel
theorem dX7_setCopies_4 : decode cX7_setCopies 4 = .ok (.invokestatic 64, 3) := by decide +kernel
theorem dX7_setCopies_7 : decode cX7_setCopies 7 = .ok (.iload_n 2, 1) := by decide +kernel
theorem dX7_setCopies_8 : decode cX7_setCopies 8 = .ok (.iconst 1, 1) := by decide +kernel
theorem dX7_setCopies_9 : decode cX7_setCopies 9 = .ok (.iconst 3, 1) := by decide +kernel
theorem dX7_setCopies_10 : decode cX7_setCopies 10 = .ok (.invokestatic 49, 3) := by decide +kernel
theorem dX7_setCopies_13 : decode cX7_setCopies 13 = .ok (.invokestatic 53, 3) := by decide +kernel
theorem dX7_setCopies_16 : decode cX7_setCopies 16 = .ok (.aload_n 0, 1) := by decide +kernel
theorem dX7_setCopies_17 : decode cX7_setCopies 17 = .ok (.invokevirtual 57, 3) := by decide +kernel
theorem dX7_setCopies_20 : decode cX7_setCopies 20 = .ok (.aload_n 0, 1) := by decide +kernel
theorem dX7_setCopies_21 : decode cX7_setCopies 21 = .ok (.getfield 12, 3) := by decide +kernel
theorem dX7_setCopies_24 : decode cX7_setCopies 24 = .ok (.getfield 86, 3) := by decide +kernel
theorem dX7_setCopies_27 : decode cX7_setCopies 27 = .ok (.iload_n 1, 1) := by decide +kernel
theorem dX7_setCopies_28 : decode cX7_setCopies 28 = .ok (.iaload, 1) := by decide +kernel
theorem dX7_setCopies_29 : decode cX7_setCopies 29 = .ok (.istore_n 3, 1) := by decide +kernel
theorem dX7_setCopies_30 : decode cX7_setCopies 30 = .ok (.aload_n 0, 1) := by decide +kernel
theorem dX7_setCopies_31 : decode cX7_setCopies 31 = .ok (.getfield 12, 3) := by decide +kernel
theorem dX7_setCopies_34 : decode cX7_setCopies 34 = .ok (.getfield 86, 3) := by decide +kernel
theorem dX7_setCopies_37 : decode cX7_setCopies 37 = .ok (.iload_n 1, 1) := by decide +kernel
theorem dX7_setCopies_38 : decode cX7_setCopies 38 = .ok (.iload_n 2, 1) := by decide +kernel
theorem dX7_setCopies_39 : decode cX7_setCopies 39 = .ok (.iastore, 1) := by decide +kernel
theorem dX7_setCopies_40 : decode cX7_setCopies 40 = .ok (.iload_n 3, 1) := by decide +kernel
theorem dX7_setCopies_41 : decode cX7_setCopies 41 = .ok (.ireturn, 1) := by decide +kernel
theorem dX7_addTask_0 : decode cX7_addTask 0 = .ok (.iload_n 1, 1) := by decide +kernel
theorem dX7_addTask_1 : decode cX7_addTask 1 = .ok (.iload_n 2, 1) := by decide +kernel
theorem dX7_addTask_2 : decode cX7_addTask 2 = .ok (.iload_n 3, 1) := by decide +kernel
theorem dX7_addTask_3 : decode cX7_addTask 3 = .ok (.iload 4, 2) := by decide +kernel
theorem dX7_addTask_5 : decode cX7_addTask 5 = .ok (.invokestatic 89, 3) := by decide +kernel
theorem dX7_addTask_8 : decode cX7_addTask 8 = .ok (.invokestatic 53, 3) := by decide +kernel
theorem dX7_addTask_11 : decode cX7_addTask 11 = .ok (.aload_n 0, 1) := by decide +kernel
theorem dX7_addTask_12 : decode cX7_addTask 12 = .ok (.getfield 12, 3) := by decide +kernel
theorem dX7_addTask_15 : decode cX7_addTask 15 = .ok (.getfield 93, 3) := by decide +kernel
theorem dX7_addTask_18 : decode cX7_addTask 18 = .ok (.bipush 12, 2) := by decide +kernel
theorem dX7_addTask_20 : decode cX7_addTask 20 = .ok (.if_icmp .ge 7, 3) := by decide +kernel
theorem dX7_addTask_23 : decode cX7_addTask 23 = .ok (.iconst 1, 1) := by decide +kernel
theorem dX7_addTask_24 : decode cX7_addTask 24 = .ok (.goto 4, 3) := by decide +kernel
theorem dX7_addTask_27 : decode cX7_addTask 27 = .ok (.iconst 0, 1) := by decide +kernel
theorem dX7_addTask_28 : decode cX7_addTask 28 = .ok (.invokestatic 96, 3) := by decide +kernel
theorem dX7_addTask_31 : decode cX7_addTask 31 = .ok (.aload_n 0, 1) := by decide +kernel
theorem dX7_addTask_32 : decode cX7_addTask 32 = .ok (.invokevirtual 57, 3) := by decide +kernel
theorem dX7_addTask_35 : decode cX7_addTask 35 = .ok (.aload_n 0, 1) := by decide +kernel
theorem dX7_addTask_36 : decode cX7_addTask 36 = .ok (.getfield 12, 3) := by decide +kernel
theorem dX7_addTask_39 : decode cX7_addTask 39 = .ok (.iload_n 1, 1) := by decide +kernel
theorem dX7_addTask_40 : decode cX7_addTask 40 = .ok (.iload_n 2, 1) := by decide +kernel
theorem dX7_addTask_41 : decode cX7_addTask 41 = .ok (.iload_n 3, 1) := by decide +kernel
theorem dX7_addTask_42 : decode cX7_addTask 42 = .ok (.iload 4, 2) := by decide +kernel
theorem dX7_addTask_44 : decode cX7_addTask 44 = .ok (.invokevirtual 99, 3) := by decide +kernel
theorem dX7_addTask_47 : decode cX7_addTask 47 = .ok (.ireturn, 1) := by decide +kernel
theorem dX7_setTime_0 : decode cX7_setTime 0 = .ok (.aload_n 0, 1) := by decide +kernel
theorem dX7_setTime_1 : decode cX7_setTime 1 = .ok (.getfield 12, 3) := by decide +kernel
theorem dX7_setTime_4 : decode cX7_setTime 4 = .ok (.iload_n 1, 1) := by decide +kernel
theorem dX7_setTime_5 : decode cX7_setTime 5 = .ok (.invokevirtual 103, 3) := by decide +kernel
theorem dX7_setTime_8 : decode cX7_setTime 8 = .ok (.ifCond .eq 16, 3) := by decide +kernel
theorem dX7_setTime_11 : decode cX7_setTime 11 = .ok (.iload_n 2, 1) := by decide +kernel
theorem dX7_setTime_12 : decode cX7_setTime 12 = .ok (.iconst 0, 1) := by decide +kernel
theorem dX7_setTime_13 : decode cX7_setTime 13 = .ok (.iconst 2, 1) := by decide +kernel
theorem dX7_setTime_14 : decode cX7_setTime 14 = .ok (.invokestatic 49, 3) := by decide +kernel
theorem dX7_setTime_17 : decode cX7_setTime 17 = .ok (.ifCond .eq 7, 3) := by decide +kernel
theorem dX7_setTime_20 : decode cX7_setTime 20 = .ok (.iconst 1, 1) := by decide +kernel
theorem dX7_setTime_21 : decode cX7_setTime 21 = .ok (.goto 4, 3) := by decide +kernel
theorem dX7_setTime_24 : decode cX7_setTime 24 = .ok (.iconst 0, 1) := by decide +kernel
theorem dX7_setTime_25 : decode cX7_setTime 25 = .ok (.invokestatic 64, 3) := by decide +kernel
theorem dX7_setTime_28 : decode cX7_setTime 28 = .ok (.iload_n 3, 1) := by decide +kernel
theorem dX7_setTime_29 : decode cX7_setTime 29 = .ok (.invokestatic 106, 3) := by decide +kernel
theorem dX7_setTime_32 : decode cX7_setTime 32 = .ok (.invokestatic 53, 3) := by decide +kernel
theorem dX7_setTime_35 : decode cX7_setTime 35 = .ok (.aload_n 0, 1) := by decide +kernel
theorem dX7_setTime_36 : decode cX7_setTime 36 = .ok (.invokevirtual 57, 3) := by decide +kernel
theorem dX7_setTime_39 : decode cX7_setTime 39 = .ok (.aload_n 0, 1) := by decide +kernel
theorem dX7_setTime_40 : decode cX7_setTime 40 = .ok (.getfield 12, 3) := by decide +kernel
theorem dX7_setTime_43 : decode cX7_setTime 43 = .ok (.getfield 109, 3) := by decide +kernel
theorem dX7_setTime_46 : decode cX7_setTime 46 = .ok (.iload_n 1, 1) := by decide +kernel
theorem dX7_setTime_47 : decode cX7_setTime 47 = .ok (.iconst 3, 1) := by decide +kernel
theorem dX7_setTime_48 : decode cX7_setTime 48 = .ok (.imul, 1) := by decide +kernel
theorem dX7_setTime_49 : decode cX7_setTime 49 = .ok (.iload_n 2, 1) := by decide +kernel
theorem dX7_setTime_50 : decode cX7_setTime 50 = .ok (.iadd, 1) := by decide +kernel
theorem dX7_setTime_51 : decode cX7_setTime 51 = .ok (.iaload, 1) := by decide +kernel
theorem dX7_setTime_52 : decode cX7_setTime 52 = .ok (.istore 4, 2) := by decide +kernel
theorem dX7_setTime_54 : decode cX7_setTime 54 = .ok (.aload_n 0, 1) := by decide +kernel
theorem dX7_setTime_55 : decode cX7_setTime 55 = .ok (.getfield 12, 3) := by decide +kernel
theorem dX7_setTime_58 : decode cX7_setTime 58 = .ok (.getfield 109, 3) := by decide +kernel
theorem dX7_setTime_61 : decode cX7_setTime 61 = .ok (.iload_n 1, 1) := by decide +kernel
theorem dX7_setTime_62 : decode cX7_setTime 62 = .ok (.iconst 3, 1) := by decide +kernel
theorem dX7_setTime_63 : decode cX7_setTime 63 = .ok (.imul, 1) := by decide +kernel
theorem dX7_setTime_64 : decode cX7_setTime 64 = .ok (.iload_n 2, 1) := by decide +kernel
theorem dX7_setTime_65 : decode cX7_setTime 65 = .ok (.iadd, 1) := by decide +kernel
theorem dX7_setTime_66 : decode cX7_setTime 66 = .ok (.iload_n 3, 1) := by decide +kernel
theorem dX7_setTime_67 : decode cX7_setTime 67 = .ok (.iastore, 1) := by decide +kernel
theorem dX7_setTime_68 : decode cX7_setTime 68 = .ok (.iload 4, 2) := by decide +kernel
theorem dX7_setTime_70 : decode cX7_setTime 70 = .ok (.ireturn, 1) := by decide +kernel
theorem dX7_setTool_0 : decode cX7_setTool 0 = .ok (.aload_n 0, 1) := by decide +kernel
theorem dX7_setTool_1 : decode cX7_setTool 1 = .ok (.getfield 12, 3) := by decide +kernel
theorem dX7_setTool_4 : decode cX7_setTool 4 = .ok (.iload_n 1, 1) := by decide +kernel
theorem dX7_setTool_5 : decode cX7_setTool 5 = .ok (.invokevirtual 103, 3) := by decide +kernel
theorem dX7_setTool_8 : decode cX7_setTool 8 = .ok (.invokestatic 64, 3) := by decide +kernel
theorem dX7_setTool_11 : decode cX7_setTool 11 = .ok (.iload_n 2, 1) := by decide +kernel
theorem dX7_setTool_12 : decode cX7_setTool 12 = .ok (.invokestatic 112, 3) := by decide +kernel
theorem dX7_setTool_15 : decode cX7_setTool 15 = .ok (.invokestatic 53, 3) := by decide +kernel
theorem dX7_setTool_18 : decode cX7_setTool 18 = .ok (.aload_n 0, 1) := by decide +kernel
theorem dX7_setTool_19 : decode cX7_setTool 19 = .ok (.invokevirtual 57, 3) := by decide +kernel
theorem dX7_setTool_22 : decode cX7_setTool 22 = .ok (.aload_n 0, 1) := by decide +kernel
theorem dX7_setTool_23 : decode cX7_setTool 23 = .ok (.getfield 12, 3) := by decide +kernel
theorem dX7_setTool_26 : decode cX7_setTool 26 = .ok (.getfield 115, 3) := by decide +kernel
theorem dX7_setTool_29 : decode cX7_setTool 29 = .ok (.iload_n 1, 1) := by decide +kernel
theorem dX7_setTool_30 : decode cX7_setTool 30 = .ok (.iaload, 1) := by decide +kernel
theorem dX7_setTool_31 : decode cX7_setTool 31 = .ok (.istore_n 3, 1) := by decide +kernel
theorem dX7_setTool_32 : decode cX7_setTool 32 = .ok (.aload_n 0, 1) := by decide +kernel
theorem dX7_setTool_33 : decode cX7_setTool 33 = .ok (.getfield 12, 3) := by decide +kernel
theorem dX7_setTool_36 : decode cX7_setTool 36 = .ok (.getfield 115, 3) := by decide +kernel
theorem dX7_setTool_39 : decode cX7_setTool 39 = .ok (.iload_n 1, 1) := by decide +kernel
theorem dX7_setTool_40 : decode cX7_setTool 40 = .ok (.iload_n 2, 1) := by decide +kernel
theorem dX7_setTool_41 : decode cX7_setTool 41 = .ok (.iastore, 1) := by decide +kernel
theorem dX7_setTool_42 : decode cX7_setTool 42 = .ok (.iload_n 3, 1) := by decide +kernel
theorem dX7_setTool_43 : decode cX7_setTool 43 = .ok (.ireturn, 1) := by decide +kernel
theorem dX7_before_0 : decode cX7_before 0 = .ok (.aload_n 0, 1) := by decide +kernel
theorem dX7_before_1 : decode cX7_before 1 = .ok (.getfield 12, 3) := by decide +kernel
theorem dX7_before_4 : decode cX7_before 4 = .ok (.iload_n 1, 1) := by decide +kernel
theorem dX7_before_5 : decode cX7_before 5 = .ok (.invokevirtual 103, 3) := by decide +kernel
theorem dX7_before_8 : decode cX7_before 8 = .ok (.ifCond .eq 18, 3) := by decide +kernel
theorem dX7_before_11 : decode cX7_before 11 = .ok (.aload_n 0, 1) := by decide +kernel
theorem dX7_before_12 : decode cX7_before 12 = .ok (.getfield 12, 3) := by decide +kernel
theorem dX7_before_15 : decode cX7_before 15 = .ok (.iload_n 2, 1) := by decide +kernel
theorem dX7_before_16 : decode cX7_before 16 = .ok (.invokevirtual 103, 3) := by decide +kernel
theorem dX7_before_19 : decode cX7_before 19 = .ok (.ifCond .eq 7, 3) := by decide +kernel
theorem dX7_before_22 : decode cX7_before 22 = .ok (.iconst 1, 1) := by decide +kernel
theorem dX7_before_23 : decode cX7_before 23 = .ok (.goto 4, 3) := by decide +kernel
theorem dX7_before_26 : decode cX7_before 26 = .ok (.iconst 0, 1) := by decide +kernel
theorem dX7_before_27 : decode cX7_before 27 = .ok (.invokestatic 64, 3) := by decide +kernel
theorem dX7_before_30 : decode cX7_before 30 = .ok (.iload_n 1, 1) := by decide +kernel
theorem dX7_before_31 : decode cX7_before 31 = .ok (.iload_n 2, 1) := by decide +kernel
theorem dX7_before_32 : decode cX7_before 32 = .ok (.if_icmp .eq 19, 3) := by decide +kernel
theorem dX7_before_35 : decode cX7_before 35 = .ok (.aload_n 0, 1) := by decide +kernel
theorem dX7_before_36 : decode cX7_before 36 = .ok (.getfield 12, 3) := by decide +kernel
theorem dX7_before_39 : decode cX7_before 39 = .ok (.iload_n 1, 1) := by decide +kernel
theorem dX7_before_40 : decode cX7_before 40 = .ok (.iload_n 2, 1) := by decide +kernel
theorem dX7_before_41 : decode cX7_before 41 = .ok (.invokevirtual 118, 3) := by decide +kernel
theorem dX7_before_44 : decode cX7_before 44 = .ok (.ifCond .ne 7, 3) := by decide +kernel
theorem dX7_before_47 : decode cX7_before 47 = .ok (.iconst 1, 1) := by decide +kernel
theorem dX7_before_48 : decode cX7_before 48 = .ok (.goto 4, 3) := by decide +kernel
theorem dX7_before_51 : decode cX7_before 51 = .ok (.iconst 0, 1) := by decide +kernel
theorem dX7_before_52 : decode cX7_before 52 = .ok (.invokestatic 53, 3) := by decide +kernel
theorem dX7_before_55 : decode cX7_before 55 = .ok (.aload_n 0, 1) := by decide +kernel
theorem dX7_before_56 : decode cX7_before 56 = .ok (.getfield 12, 3) := by decide +kernel
theorem dX7_before_59 : decode cX7_before 59 = .ok (.iload_n 2, 1) := by decide +kernel
theorem dX7_before_60 : decode cX7_before 60 = .ok (.iload_n 1, 1) := by decide +kernel
theorem dX7_before_61 : decode cX7_before 61 = .ok (.invokevirtual 121, 3) := by decide +kernel
theorem dX7_before_64 : decode cX7_before 64 = .ok (.ifCond .ne 7, 3) := by decide +kernel
theorem dX7_before_67 : decode cX7_before 67 = .ok (.iconst 1, 1) := by decide +kernel
theorem dX7_before_68 : decode cX7_before 68 = .ok (.goto 4, 3) := by decide +kernel
theorem dX7_before_71 : decode cX7_before 71 = .ok (.iconst 0, 1) := by decide +kernel
theorem dX7_before_72 : decode cX7_before 72 = .ok (.invokestatic 124, 3) := by decide +kernel
theorem dX7_before_75 : decode cX7_before 75 = .ok (.aload_n 0, 1) := by decide +kernel
theorem dX7_before_76 : decode cX7_before 76 = .ok (.invokevirtual 57, 3) := by decide +kernel
theorem dX7_before_79 : decode cX7_before 79 = .ok (.aload_n 0, 1) := by decide +kernel
theorem dX7_before_80 : decode cX7_before 80 = .ok (.getfield 12, 3) := by decide +kernel
theorem dX7_before_83 : decode cX7_before 83 = .ok (.iload_n 1, 1) := by decide +kernel
theorem dX7_before_84 : decode cX7_before 84 = .ok (.iload_n 2, 1) := by decide +kernel
theorem dX7_before_85 : decode cX7_before 85 = .ok (.invokevirtual 127, 3) := by decide +kernel
theorem dX7_before_88 : decode cX7_before 88 = .ok (.aload_n 0, 1) := by decide +kernel
theorem dX7_before_89 : decode cX7_before 89 = .ok (.getfield 12, 3) := by decide +kernel
theorem dX7_before_92 : decode cX7_before 92 = .ok (.getfield 131, 3) := by decide +kernel
theorem dX7_before_95 : decode cX7_before 95 = .ok (.iload_n 2, 1) := by decide +kernel
theorem dX7_before_96 : decode cX7_before 96 = .ok (.iaload, 1) := by decide +kernel
theorem dX7_before_97 : decode cX7_before 97 = .ok (.invokestatic 134, 3) := by decide +kernel
theorem dX7_before_100 : decode cX7_before 100 = .ok (.ireturn, 1) := by decide +kernel
theorem dX7_pair_0 : decode cX7_pair 0 = .ok (.aload_n 0, 1) := by decide +kernel
theorem dX7_pair_1 : decode cX7_pair 1 = .ok (.getfield 12, 3) := by decide +kernel
theorem dX7_pair_4 : decode cX7_pair 4 = .ok (.iload_n 1, 1) := by decide +kernel
theorem dX7_pair_5 : decode cX7_pair 5 = .ok (.invokevirtual 103, 3) := by decide +kernel
theorem dX7_pair_8 : decode cX7_pair 8 = .ok (.ifCond .eq 18, 3) := by decide +kernel
theorem dX7_pair_11 : decode cX7_pair 11 = .ok (.aload_n 0, 1) := by decide +kernel
theorem dX7_pair_12 : decode cX7_pair 12 = .ok (.getfield 12, 3) := by decide +kernel
theorem dX7_pair_15 : decode cX7_pair 15 = .ok (.iload_n 2, 1) := by decide +kernel
theorem dX7_pair_16 : decode cX7_pair 16 = .ok (.invokevirtual 103, 3) := by decide +kernel
theorem dX7_pair_19 : decode cX7_pair 19 = .ok (.ifCond .eq 7, 3) := by decide +kernel
theorem dX7_pair_22 : decode cX7_pair 22 = .ok (.iconst 1, 1) := by decide +kernel
theorem dX7_pair_23 : decode cX7_pair 23 = .ok (.goto 4, 3) := by decide +kernel
theorem dX7_pair_26 : decode cX7_pair 26 = .ok (.iconst 0, 1) := by decide +kernel
theorem dX7_pair_27 : decode cX7_pair 27 = .ok (.invokestatic 64, 3) := by decide +kernel
theorem dX7_pair_30 : decode cX7_pair 30 = .ok (.iload_n 1, 1) := by decide +kernel
theorem dX7_pair_31 : decode cX7_pair 31 = .ok (.iload_n 2, 1) := by decide +kernel
theorem dX7_pair_32 : decode cX7_pair 32 = .ok (.if_icmp .eq 7, 3) := by decide +kernel
theorem dX7_pair_35 : decode cX7_pair 35 = .ok (.iconst 1, 1) := by decide +kernel
theorem dX7_pair_36 : decode cX7_pair 36 = .ok (.goto 4, 3) := by decide +kernel
theorem dX7_pair_39 : decode cX7_pair 39 = .ok (.iconst 0, 1) := by decide +kernel
theorem dX7_pair_40 : decode cX7_pair 40 = .ok (.invokestatic 53, 3) := by decide +kernel
theorem dX7_pair_43 : decode cX7_pair 43 = .ok (.aload_n 0, 1) := by decide +kernel
theorem dX7_pair_44 : decode cX7_pair 44 = .ok (.invokevirtual 57, 3) := by decide +kernel
theorem dX7_pair_47 : decode cX7_pair 47 = .ok (.aload_n 0, 1) := by decide +kernel
theorem dX7_pair_48 : decode cX7_pair 48 = .ok (.getfield 12, 3) := by decide +kernel
theorem dX7_pair_51 : decode cX7_pair 51 = .ok (.iload_n 1, 1) := by decide +kernel
theorem dX7_pair_52 : decode cX7_pair 52 = .ok (.iload_n 2, 1) := by decide +kernel
theorem dX7_pair_53 : decode cX7_pair 53 = .ok (.invokevirtual 140, 3) := by decide +kernel
theorem dX7_pair_56 : decode cX7_pair 56 = .ok (.istore 4, 2) := by decide +kernel
theorem dX7_pair_58 : decode cX7_pair 58 = .ok (.aload_n 0, 1) := by decide +kernel
theorem dX7_pair_59 : decode cX7_pair 59 = .ok (.getfield 12, 3) := by decide +kernel
theorem dX7_pair_62 : decode cX7_pair 62 = .ok (.iload_n 1, 1) := by decide +kernel
theorem dX7_pair_63 : decode cX7_pair 63 = .ok (.iload_n 2, 1) := by decide +kernel
theorem dX7_pair_64 : decode cX7_pair 64 = .ok (.iload_n 3, 1) := by decide +kernel
theorem dX7_pair_65 : decode cX7_pair 65 = .ok (.invokevirtual 144, 3) := by decide +kernel
theorem dX7_pair_68 : decode cX7_pair 68 = .ok (.iload 4, 2) := by decide +kernel
theorem dX7_pair_70 : decode cX7_pair 70 = .ok (.ireturn, 1) := by decide +kernel
theorem dX7_drop_0 : decode cX7_drop 0 = .ok (.aload_n 0, 1) := by decide +kernel
theorem dX7_drop_1 : decode cX7_drop 1 = .ok (.getfield 12, 3) := by decide +kernel
theorem dX7_drop_4 : decode cX7_drop 4 = .ok (.iload_n 1, 1) := by decide +kernel
theorem dX7_drop_5 : decode cX7_drop 5 = .ok (.invokevirtual 103, 3) := by decide +kernel
theorem dX7_drop_8 : decode cX7_drop 8 = .ok (.ifCond .eq 18, 3) := by decide +kernel
theorem dX7_drop_11 : decode cX7_drop 11 = .ok (.aload_n 0, 1) := by decide +kernel
theorem dX7_drop_12 : decode cX7_drop 12 = .ok (.getfield 12, 3) := by decide +kernel
theorem dX7_drop_15 : decode cX7_drop 15 = .ok (.iload_n 2, 1) := by decide +kernel
theorem dX7_drop_16 : decode cX7_drop 16 = .ok (.invokevirtual 103, 3) := by decide +kernel
theorem dX7_drop_19 : decode cX7_drop 19 = .ok (.ifCond .eq 7, 3) := by decide +kernel
theorem dX7_drop_22 : decode cX7_drop 22 = .ok (.iconst 1, 1) := by decide +kernel
theorem dX7_drop_23 : decode cX7_drop 23 = .ok (.goto 4, 3) := by decide +kernel
theorem dX7_drop_26 : decode cX7_drop 26 = .ok (.iconst 0, 1) := by decide +kernel
theorem dX7_drop_27 : decode cX7_drop 27 = .ok (.invokestatic 64, 3) := by decide +kernel
theorem dX7_drop_30 : decode cX7_drop 30 = .ok (.aload_n 0, 1) := by decide +kernel
theorem dX7_drop_31 : decode cX7_drop 31 = .ok (.getfield 12, 3) := by decide +kernel
theorem dX7_drop_34 : decode cX7_drop 34 = .ok (.iload_n 1, 1) := by decide +kernel
theorem dX7_drop_35 : decode cX7_drop 35 = .ok (.iload_n 2, 1) := by decide +kernel
theorem dX7_drop_36 : decode cX7_drop 36 = .ok (.invokevirtual 118, 3) := by decide +kernel
theorem dX7_drop_39 : decode cX7_drop 39 = .ok (.ifCond .ne 15, 3) := by decide +kernel
theorem dX7_drop_42 : decode cX7_drop 42 = .ok (.aload_n 0, 1) := by decide +kernel
theorem dX7_drop_43 : decode cX7_drop 43 = .ok (.getfield 12, 3) := by decide +kernel
theorem dX7_drop_46 : decode cX7_drop 46 = .ok (.iload_n 2, 1) := by decide +kernel
theorem dX7_drop_47 : decode cX7_drop 47 = .ok (.iload_n 1, 1) := by decide +kernel
theorem dX7_drop_48 : decode cX7_drop 48 = .ok (.invokevirtual 118, 3) := by decide +kernel
theorem dX7_drop_51 : decode cX7_drop 51 = .ok (.ifCond .eq 7, 3) := by decide +kernel
theorem dX7_drop_54 : decode cX7_drop 54 = .ok (.iconst 1, 1) := by decide +kernel
theorem dX7_drop_55 : decode cX7_drop 55 = .ok (.goto 4, 3) := by decide +kernel
theorem dX7_drop_58 : decode cX7_drop 58 = .ok (.iconst 0, 1) := by decide +kernel
theorem dX7_drop_59 : decode cX7_drop 59 = .ok (.istore_n 3, 1) := by decide +kernel
theorem dX7_drop_60 : decode cX7_drop 60 = .ok (.aload_n 0, 1) := by decide +kernel
theorem dX7_drop_61 : decode cX7_drop 61 = .ok (.getfield 12, 3) := by decide +kernel
theorem dX7_drop_64 : decode cX7_drop 64 = .ok (.iload_n 1, 1) := by decide +kernel
theorem dX7_drop_65 : decode cX7_drop 65 = .ok (.iload_n 2, 1) := by decide +kernel
theorem dX7_drop_66 : decode cX7_drop 66 = .ok (.invokevirtual 140, 3) := by decide +kernel
theorem dX7_drop_69 : decode cX7_drop 69 = .ok (.ifCond .eq 7, 3) := by decide +kernel
theorem dX7_drop_72 : decode cX7_drop 72 = .ok (.iconst 2, 1) := by decide +kernel
theorem dX7_drop_73 : decode cX7_drop 73 = .ok (.goto 4, 3) := by decide +kernel
theorem dX7_drop_76 : decode cX7_drop 76 = .ok (.iconst 0, 1) := by decide +kernel
theorem dX7_drop_77 : decode cX7_drop 77 = .ok (.istore 4, 2) := by decide +kernel
theorem dX7_drop_79 : decode cX7_drop 79 = .ok (.iload_n 3, 1) := by decide +kernel
theorem dX7_drop_80 : decode cX7_drop 80 = .ok (.iload 4, 2) := by decide +kernel
theorem dX7_drop_82 : decode cX7_drop 82 = .ok (.iadd, 1) := by decide +kernel
theorem dX7_drop_83 : decode cX7_drop 83 = .ok (.ifCond .le 7, 3) := by decide +kernel
theorem dX7_drop_86 : decode cX7_drop 86 = .ok (.iconst 1, 1) := by decide +kernel
theorem dX7_drop_87 : decode cX7_drop 87 = .ok (.goto 4, 3) := by decide +kernel
theorem dX7_drop_90 : decode cX7_drop 90 = .ok (.iconst 0, 1) := by decide +kernel
theorem dX7_drop_91 : decode cX7_drop 91 = .ok (.invokestatic 148, 3) := by decide +kernel
theorem dX7_drop_94 : decode cX7_drop 94 = .ok (.aload_n 0, 1) := by decide +kernel
theorem dX7_drop_95 : decode cX7_drop 95 = .ok (.invokevirtual 57, 3) := by decide +kernel
theorem dX7_drop_98 : decode cX7_drop 98 = .ok (.aload_n 0, 1) := by decide +kernel
theorem dX7_drop_99 : decode cX7_drop 99 = .ok (.getfield 12, 3) := by decide +kernel
theorem dX7_drop_102 : decode cX7_drop 102 = .ok (.iload_n 1, 1) := by decide +kernel
theorem dX7_drop_103 : decode cX7_drop 103 = .ok (.iload_n 2, 1) := by decide +kernel
theorem dX7_drop_104 : decode cX7_drop 104 = .ok (.invokevirtual 151, 3) := by decide +kernel
theorem dX7_drop_107 : decode cX7_drop 107 = .ok (.aload_n 0, 1) := by decide +kernel
theorem dX7_drop_108 : decode cX7_drop 108 = .ok (.getfield 12, 3) := by decide +kernel
theorem dX7_drop_111 : decode cX7_drop 111 = .ok (.iload_n 1, 1) := by decide +kernel
theorem dX7_drop_112 : decode cX7_drop 112 = .ok (.iload_n 2, 1) := by decide +kernel
theorem dX7_drop_113 : decode cX7_drop 113 = .ok (.invokevirtual 154, 3) := by decide +kernel
theorem dX7_drop_116 : decode cX7_drop 116 = .ok (.iload_n 3, 1) := by decide +kernel
theorem dX7_drop_117 : decode cX7_drop 117 = .ok (.iload 4, 2) := by decide +kernel
theorem dX7_drop_119 : decode cX7_drop 119 = .ok (.iadd, 1) := by decide +kernel
theorem dX7_drop_120 : decode cX7_drop 120 = .ok (.ireturn, 1) := by decide +kernel
theorem dX7_task_0 : decode cX7_task 0 = .ok (.aload_n 0, 1) := by decide +kernel
theorem dX7_task_1 : decode cX7_task 1 = .ok (.getfield 12, 3) := by decide +kernel
theorem dX7_task_4 : decode cX7_task 4 = .ok (.iload_n 1, 1) := by decide +kernel
theorem dX7_task_5 : decode cX7_task 5 = .ok (.invokevirtual 103, 3) := by decide +kernel
theorem dX7_task_8 : decode cX7_task 8 = .ok (.invokestatic 64, 3) := by decide +kernel
theorem dX7_task_11 : decode cX7_task 11 = .ok (.iload_n 2, 1) := by decide +kernel
theorem dX7_task_12 : decode cX7_task 12 = .ok (.iconst 0, 1) := by decide +kernel
theorem dX7_task_13 : decode cX7_task 13 = .ok (.bipush 11, 2) := by decide +kernel
theorem dX7_task_15 : decode cX7_task 15 = .ok (.invokestatic 49, 3) := by decide +kernel
theorem dX7_task_18 : decode cX7_task 18 = .ok (.invokestatic 53, 3) := by decide +kernel
theorem dX7_task_21 : decode cX7_task 21 = .ok (.iload_n 2, 1) := by decide +kernel
theorem dX7_task_22 : decode cX7_task 22 = .ok (.tableswitch 138 3 11 #[50, 60, 69, 79, 89, 99, 109, 119, 129], 50) := by decide +kernel
theorem dX7_task_72 : decode cX7_task 72 = .ok (.aload_n 0, 1) := by decide +kernel
theorem dX7_task_73 : decode cX7_task 73 = .ok (.getfield 12, 3) := by decide +kernel
theorem dX7_task_76 : decode cX7_task 76 = .ok (.getfield 115, 3) := by decide +kernel
theorem dX7_task_79 : decode cX7_task 79 = .ok (.iload_n 1, 1) := by decide +kernel
theorem dX7_task_80 : decode cX7_task 80 = .ok (.iaload, 1) := by decide +kernel
theorem dX7_task_81 : decode cX7_task 81 = .ok (.ireturn, 1) := by decide +kernel
theorem dX7_task_82 : decode cX7_task 82 = .ok (.aload_n 0, 1) := by decide +kernel
theorem dX7_task_83 : decode cX7_task 83 = .ok (.getfield 12, 3) := by decide +kernel
theorem dX7_task_86 : decode cX7_task 86 = .ok (.iload_n 1, 1) := by decide +kernel
theorem dX7_task_87 : decode cX7_task 87 = .ok (.invokevirtual 157, 3) := by decide +kernel
theorem dX7_task_90 : decode cX7_task 90 = .ok (.ireturn, 1) := by decide +kernel
theorem dX7_task_91 : decode cX7_task 91 = .ok (.aload_n 0, 1) := by decide +kernel
theorem dX7_task_92 : decode cX7_task 92 = .ok (.getfield 12, 3) := by decide +kernel
theorem dX7_task_95 : decode cX7_task 95 = .ok (.getfield 160, 3) := by decide +kernel
theorem dX7_task_98 : decode cX7_task 98 = .ok (.iload_n 1, 1) := by decide +kernel
theorem dX7_task_99 : decode cX7_task 99 = .ok (.iaload, 1) := by decide +kernel
theorem dX7_task_100 : decode cX7_task 100 = .ok (.ireturn, 1) := by decide +kernel
theorem dX7_task_101 : decode cX7_task 101 = .ok (.aload_n 0, 1) := by decide +kernel
theorem dX7_task_102 : decode cX7_task 102 = .ok (.getfield 12, 3) := by decide +kernel
theorem dX7_task_105 : decode cX7_task 105 = .ok (.getfield 131, 3) := by decide +kernel
theorem dX7_task_108 : decode cX7_task 108 = .ok (.iload_n 1, 1) := by decide +kernel
theorem dX7_task_109 : decode cX7_task 109 = .ok (.iaload, 1) := by decide +kernel
theorem dX7_task_110 : decode cX7_task 110 = .ok (.ireturn, 1) := by decide +kernel
theorem dX7_task_111 : decode cX7_task 111 = .ok (.aload_n 0, 1) := by decide +kernel
theorem dX7_task_112 : decode cX7_task 112 = .ok (.getfield 12, 3) := by decide +kernel
theorem dX7_task_115 : decode cX7_task 115 = .ok (.getfield 163, 3) := by decide +kernel
theorem dX7_task_118 : decode cX7_task 118 = .ok (.iload_n 1, 1) := by decide +kernel
theorem dX7_task_119 : decode cX7_task 119 = .ok (.iaload, 1) := by decide +kernel
theorem dX7_task_120 : decode cX7_task 120 = .ok (.ireturn, 1) := by decide +kernel
theorem dX7_task_121 : decode cX7_task 121 = .ok (.aload_n 0, 1) := by decide +kernel
theorem dX7_task_122 : decode cX7_task 122 = .ok (.getfield 12, 3) := by decide +kernel
theorem dX7_task_125 : decode cX7_task 125 = .ok (.getfield 166, 3) := by decide +kernel
theorem dX7_task_128 : decode cX7_task 128 = .ok (.iload_n 1, 1) := by decide +kernel
theorem dX7_task_129 : decode cX7_task 129 = .ok (.iaload, 1) := by decide +kernel
theorem dX7_task_130 : decode cX7_task 130 = .ok (.ireturn, 1) := by decide +kernel
theorem dX7_task_131 : decode cX7_task 131 = .ok (.aload_n 0, 1) := by decide +kernel
theorem dX7_task_132 : decode cX7_task 132 = .ok (.getfield 12, 3) := by decide +kernel
theorem dX7_task_135 : decode cX7_task 135 = .ok (.getfield 169, 3) := by decide +kernel
theorem dX7_task_138 : decode cX7_task 138 = .ok (.iload_n 1, 1) := by decide +kernel
theorem dX7_task_139 : decode cX7_task 139 = .ok (.iaload, 1) := by decide +kernel
theorem dX7_task_140 : decode cX7_task 140 = .ok (.ireturn, 1) := by decide +kernel
theorem dX7_task_141 : decode cX7_task 141 = .ok (.aload_n 0, 1) := by decide +kernel
theorem dX7_task_142 : decode cX7_task 142 = .ok (.getfield 12, 3) := by decide +kernel
theorem dX7_task_145 : decode cX7_task 145 = .ok (.getfield 172, 3) := by decide +kernel
theorem dX7_task_148 : decode cX7_task 148 = .ok (.iload_n 1, 1) := by decide +kernel
theorem dX7_task_149 : decode cX7_task 149 = .ok (.iaload, 1) := by decide +kernel
theorem dX7_task_150 : decode cX7_task 150 = .ok (.ireturn, 1) := by decide +kernel
theorem dX7_task_151 : decode cX7_task 151 = .ok (.aload_n 0, 1) := by decide +kernel
theorem dX7_task_152 : decode cX7_task 152 = .ok (.getfield 24, 3) := by decide +kernel
theorem dX7_task_155 : decode cX7_task 155 = .ok (.iload_n 1, 1) := by decide +kernel
theorem dX7_task_156 : decode cX7_task 156 = .ok (.invokevirtual 175, 3) := by decide +kernel
theorem dX7_task_159 : decode cX7_task 159 = .ok (.ireturn, 1) := by decide +kernel
theorem dX7_task_160 : decode cX7_task 160 = .ok (.aload_n 0, 1) := by decide +kernel
theorem dX7_task_161 : decode cX7_task 161 = .ok (.getfield 12, 3) := by decide +kernel
theorem dX7_task_164 : decode cX7_task 164 = .ok (.getfield 109, 3) := by decide +kernel
theorem dX7_task_167 : decode cX7_task 167 = .ok (.iload_n 1, 1) := by decide +kernel
theorem dX7_task_168 : decode cX7_task 168 = .ok (.iconst 3, 1) := by decide +kernel
theorem dX7_task_169 : decode cX7_task 169 = .ok (.imul, 1) := by decide +kernel
theorem dX7_task_170 : decode cX7_task 170 = .ok (.iload_n 2, 1) := by decide +kernel
theorem dX7_task_171 : decode cX7_task 171 = .ok (.iadd, 1) := by decide +kernel
theorem dX7_task_172 : decode cX7_task 172 = .ok (.iaload, 1) := by decide +kernel
theorem dX7_task_173 : decode cX7_task 173 = .ok (.ireturn, 1) := by decide +kernel
theorem dX7_priority_0 : decode cX7_priority 0 = .ok (.aload_n 0, 1) := by decide +kernel
theorem dX7_priority_1 : decode cX7_priority 1 = .ok (.getfield 12, 3) := by decide +kernel
theorem dX7_priority_4 : decode cX7_priority 4 = .ok (.iload_n 1, 1) := by decide +kernel
theorem dX7_priority_5 : decode cX7_priority 5 = .ok (.invokevirtual 103, 3) := by decide +kernel
theorem dX7_priority_8 : decode cX7_priority 8 = .ok (.invokestatic 64, 3) := by decide +kernel
theorem dX7_priority_11 : decode cX7_priority 11 = .ok (.iload_n 2, 1) := by decide +kernel
theorem dX7_priority_12 : decode cX7_priority 12 = .ok (.invokestatic 178, 3) := by decide +kernel
theorem dX7_priority_15 : decode cX7_priority 15 = .ok (.invokestatic 53, 3) := by decide +kernel
theorem dX7_priority_18 : decode cX7_priority 18 = .ok (.aload_n 0, 1) := by decide +kernel
theorem dX7_priority_19 : decode cX7_priority 19 = .ok (.getfield 12, 3) := by decide +kernel
theorem dX7_priority_22 : decode cX7_priority 22 = .ok (.iload_n 1, 1) := by decide +kernel
theorem dX7_priority_23 : decode cX7_priority 23 = .ok (.iload_n 2, 1) := by decide +kernel
theorem dX7_priority_24 : decode cX7_priority 24 = .ok (.invokevirtual 181, 3) := by decide +kernel
theorem dX7_priority_27 : decode cX7_priority 27 = .ok (.ireturn, 1) := by decide +kernel
theorem dX7_size_0 : decode cX7_size 0 = .ok (.aload_n 0, 1) := by decide +kernel
theorem dX7_size_1 : decode cX7_size 1 = .ok (.getfield 12, 3) := by decide +kernel
theorem dX7_size_4 : decode cX7_size 4 = .ok (.getfield 93, 3) := by decide +kernel
theorem dX7_size_7 : decode cX7_size 7 = .ok (.ireturn, 1) := by decide +kernel
theorem dX7_assign_0 : decode cX7_assign 0 = .ok (.aload_n 0, 1) := by decide +kernel
theorem dX7_assign_1 : decode cX7_assign 1 = .ok (.getfield 12, 3) := by decide +kernel
theorem dX7_assign_4 : decode cX7_assign 4 = .ok (.iload_n 1, 1) := by decide +kernel
theorem dX7_assign_5 : decode cX7_assign 5 = .ok (.invokevirtual 103, 3) := by decide +kernel
theorem dX7_assign_8 : decode cX7_assign 8 = .ok (.ifCond .eq 19, 3) := by decide +kernel
theorem dX7_assign_11 : decode cX7_assign 11 = .ok (.iload_n 2, 1) := by decide +kernel
theorem dX7_assign_12 : decode cX7_assign 12 = .ok (.iconst (-1), 1) := by decide +kernel
theorem dX7_assign_13 : decode cX7_assign 13 = .ok (.if_icmp .eq 10, 3) := by decide +kernel
theorem dX7_assign_16 : decode cX7_assign 16 = .ok (.iload_n 2, 1) := by decide +kernel
theorem dX7_assign_17 : decode cX7_assign 17 = .ok (.invokestatic 82, 3) := by decide +kernel
theorem dX7_assign_20 : decode cX7_assign 20 = .ok (.ifCond .eq 7, 3) := by decide +kernel
theorem dX7_assign_23 : decode cX7_assign 23 = .ok (.iconst 1, 1) := by decide +kernel
theorem dX7_assign_24 : decode cX7_assign 24 = .ok (.goto 4, 3) := by decide +kernel
theorem dX7_assign_27 : decode cX7_assign 27 = .ok (.iconst 0, 1) := by decide +kernel
theorem dX7_assign_28 : decode cX7_assign 28 = .ok (.invokestatic 64, 3) := by decide +kernel
theorem dX7_assign_31 : decode cX7_assign 31 = .ok (.iload_n 2, 1) := by decide +kernel
theorem dX7_assign_32 : decode cX7_assign 32 = .ok (.iconst (-1), 1) := by decide +kernel
theorem dX7_assign_33 : decode cX7_assign 33 = .ok (.if_icmp .ne 7, 3) := by decide +kernel
theorem dX7_assign_36 : decode cX7_assign 36 = .ok (.iconst 0, 1) := by decide +kernel
theorem dX7_assign_37 : decode cX7_assign 37 = .ok (.goto 12, 3) := by decide +kernel
theorem dX7_assign_40 : decode cX7_assign 40 = .ok (.aload_n 0, 1) := by decide +kernel
theorem dX7_assign_41 : decode cX7_assign 41 = .ok (.getfield 24, 3) := by decide +kernel
theorem dX7_assign_44 : decode cX7_assign 44 = .ok (.iload_n 1, 1) := by decide +kernel
theorem dX7_assign_45 : decode cX7_assign 45 = .ok (.iload_n 2, 1) := by decide +kernel
theorem dX7_assign_46 : decode cX7_assign 46 = .ok (.invokevirtual 184, 3) := by decide +kernel
theorem dX7_assign_49 : decode cX7_assign 49 = .ok (.istore_n 3, 1) := by decide +kernel
theorem dX7_assign_50 : decode cX7_assign 50 = .ok (.aload_n 0, 1) := by decide +kernel
theorem dX7_assign_51 : decode cX7_assign 51 = .ok (.iload_n 3, 1) := by decide +kernel
theorem dX7_assign_52 : decode cX7_assign 52 = .ok (.invokevirtual 187, 3) := by decide +kernel
theorem dX7_assign_55 : decode cX7_assign 55 = .ok (.iload_n 3, 1) := by decide +kernel
theorem dX7_assign_56 : decode cX7_assign 56 = .ok (.ifCond .ne 7, 3) := by decide +kernel
theorem dX7_assign_59 : decode cX7_assign 59 = .ok (.iconst 1, 1) := by decide +kernel
theorem dX7_assign_60 : decode cX7_assign 60 = .ok (.goto 4, 3) := by decide +kernel
theorem dX7_assign_63 : decode cX7_assign 63 = .ok (.iconst 0, 1) := by decide +kernel
theorem dX7_assign_64 : decode cX7_assign 64 = .ok (.invokestatic 124, 3) := by decide +kernel
theorem dX7_assign_67 : decode cX7_assign 67 = .ok (.aload_n 0, 1) := by decide +kernel
theorem dX7_assign_68 : decode cX7_assign 68 = .ok (.invokevirtual 57, 3) := by decide +kernel
theorem dX7_assign_71 : decode cX7_assign 71 = .ok (.aload_n 0, 1) := by decide +kernel
theorem dX7_assign_72 : decode cX7_assign 72 = .ok (.getfield 12, 3) := by decide +kernel
theorem dX7_assign_75 : decode cX7_assign 75 = .ok (.getfield 160, 3) := by decide +kernel
theorem dX7_assign_78 : decode cX7_assign 78 = .ok (.iload_n 1, 1) := by decide +kernel
theorem dX7_assign_79 : decode cX7_assign 79 = .ok (.iaload, 1) := by decide +kernel
theorem dX7_assign_80 : decode cX7_assign 80 = .ok (.istore 4, 2) := by decide +kernel
theorem dX7_assign_82 : decode cX7_assign 82 = .ok (.aload_n 0, 1) := by decide +kernel
theorem dX7_assign_83 : decode cX7_assign 83 = .ok (.getfield 12, 3) := by decide +kernel
theorem dX7_assign_86 : decode cX7_assign 86 = .ok (.getfield 160, 3) := by decide +kernel
theorem dX7_assign_89 : decode cX7_assign 89 = .ok (.iload_n 1, 1) := by decide +kernel
theorem dX7_assign_90 : decode cX7_assign 90 = .ok (.iload_n 2, 1) := by decide +kernel
theorem dX7_assign_91 : decode cX7_assign 91 = .ok (.iastore, 1) := by decide +kernel
theorem dX7_assign_92 : decode cX7_assign 92 = .ok (.iload 4, 2) := by decide +kernel
theorem dX7_assign_94 : decode cX7_assign 94 = .ok (.ireturn, 1) := by decide +kernel
theorem dX7_reason_0 : decode cX7_reason 0 = .ok (.aload_n 0, 1) := by decide +kernel
theorem dX7_reason_1 : decode cX7_reason 1 = .ok (.getfield 12, 3) := by decide +kernel
theorem dX7_reason_4 : decode cX7_reason 4 = .ok (.iload_n 1, 1) := by decide +kernel
theorem dX7_reason_5 : decode cX7_reason 5 = .ok (.invokevirtual 103, 3) := by decide +kernel
theorem dX7_reason_8 : decode cX7_reason 8 = .ok (.ifCond .eq 14, 3) := by decide +kernel
theorem dX7_reason_11 : decode cX7_reason 11 = .ok (.iload_n 2, 1) := by decide +kernel
theorem dX7_reason_12 : decode cX7_reason 12 = .ok (.invokestatic 82, 3) := by decide +kernel
theorem dX7_reason_15 : decode cX7_reason 15 = .ok (.ifCond .eq 7, 3) := by decide +kernel
theorem dX7_reason_18 : decode cX7_reason 18 = .ok (.iconst 1, 1) := by decide +kernel
theorem dX7_reason_19 : decode cX7_reason 19 = .ok (.goto 4, 3) := by decide +kernel
theorem dX7_reason_22 : decode cX7_reason 22 = .ok (.iconst 0, 1) := by decide +kernel
theorem dX7_reason_23 : decode cX7_reason 23 = .ok (.invokestatic 64, 3) := by decide +kernel
theorem dX7_reason_26 : decode cX7_reason 26 = .ok (.aload_n 0, 1) := by decide +kernel
theorem dX7_reason_27 : decode cX7_reason 27 = .ok (.getfield 24, 3) := by decide +kernel
theorem dX7_reason_30 : decode cX7_reason 30 = .ok (.iload_n 1, 1) := by decide +kernel
theorem dX7_reason_31 : decode cX7_reason 31 = .ok (.iload_n 2, 1) := by decide +kernel
theorem dX7_reason_32 : decode cX7_reason 32 = .ok (.invokevirtual 184, 3) := by decide +kernel
theorem dX7_reason_35 : decode cX7_reason 35 = .ok (.ireturn, 1) := by decide +kernel
theorem dX7_whyNot_0 : decode cX7_whyNot 0 = .ok (.aload_n 0, 1) := by decide +kernel
theorem dX7_whyNot_1 : decode cX7_whyNot 1 = .ok (.getfield 191, 3) := by decide +kernel
theorem dX7_whyNot_4 : decode cX7_whyNot 4 = .ok (.ifCond .eq 7, 3) := by decide +kernel
theorem dX7_whyNot_7 : decode cX7_whyNot 7 = .ok (.iconst 1, 1) := by decide +kernel
theorem dX7_whyNot_8 : decode cX7_whyNot 8 = .ok (.goto 4, 3) := by decide +kernel
theorem dX7_whyNot_11 : decode cX7_whyNot 11 = .ok (.iconst 0, 1) := by decide +kernel
theorem dX7_whyNot_12 : decode cX7_whyNot 12 = .ok (.invokestatic 148, 3) := by decide +kernel
theorem dX7_whyNot_15 : decode cX7_whyNot 15 = .ok (.aload_n 0, 1) := by decide +kernel
theorem dX7_whyNot_16 : decode cX7_whyNot 16 = .ok (.getfield 191, 3) := by decide +kernel
theorem dX7_whyNot_19 : decode cX7_whyNot 19 = .ok (.ireturn, 1) := by decide +kernel
theorem dX7_station_0 : decode cX7_station 0 = .ok (.iload_n 1, 1) := by decide +kernel
theorem dX7_station_1 : decode cX7_station 1 = .ok (.invokestatic 82, 3) := by decide +kernel
theorem dX7_station_4 : decode cX7_station 4 = .ok (.invokestatic 64, 3) := by decide +kernel
theorem dX7_station_7 : decode cX7_station 7 = .ok (.iload_n 2, 1) := by decide +kernel
theorem dX7_station_8 : decode cX7_station 8 = .ok (.iconst 0, 1) := by decide +kernel
theorem dX7_station_9 : decode cX7_station 9 = .ok (.iconst 5, 1) := by decide +kernel
theorem dX7_station_10 : decode cX7_station 10 = .ok (.invokestatic 49, 3) := by decide +kernel
theorem dX7_station_13 : decode cX7_station 13 = .ok (.invokestatic 53, 3) := by decide +kernel
theorem dX7_station_16 : decode cX7_station 16 = .ok (.iload_n 2, 1) := by decide +kernel
theorem dX7_station_17 : decode cX7_station 17 = .ok (.tableswitch 93 0 4 #[35, 45, 55, 64, 81], 35) := by decide +kernel
theorem dX7_station_52 : decode cX7_station 52 = .ok (.aload_n 0, 1) := by decide +kernel
theorem dX7_station_53 : decode cX7_station 53 = .ok (.getfield 24, 3) := by decide +kernel
theorem dX7_station_56 : decode cX7_station 56 = .ok (.iload_n 1, 1) := by decide +kernel
theorem dX7_station_57 : decode cX7_station 57 = .ok (.iload_n 1, 1) := by decide +kernel
theorem dX7_station_58 : decode cX7_station 58 = .ok (.invokevirtual 194, 3) := by decide +kernel
theorem dX7_station_61 : decode cX7_station 61 = .ok (.ireturn, 1) := by decide +kernel
theorem dX7_station_62 : decode cX7_station 62 = .ok (.aload_n 0, 1) := by decide +kernel
theorem dX7_station_63 : decode cX7_station 63 = .ok (.getfield 12, 3) := by decide +kernel
theorem dX7_station_66 : decode cX7_station 66 = .ok (.getfield 86, 3) := by decide +kernel
theorem dX7_station_69 : decode cX7_station 69 = .ok (.iload_n 1, 1) := by decide +kernel
theorem dX7_station_70 : decode cX7_station 70 = .ok (.iaload, 1) := by decide +kernel
theorem dX7_station_71 : decode cX7_station 71 = .ok (.ireturn, 1) := by decide +kernel
theorem dX7_station_72 : decode cX7_station 72 = .ok (.aload_n 0, 1) := by decide +kernel
theorem dX7_station_73 : decode cX7_station 73 = .ok (.getfield 24, 3) := by decide +kernel
theorem dX7_station_76 : decode cX7_station 76 = .ok (.iload_n 1, 1) := by decide +kernel
theorem dX7_station_77 : decode cX7_station 77 = .ok (.invokevirtual 197, 3) := by decide +kernel
theorem dX7_station_80 : decode cX7_station 80 = .ok (.ireturn, 1) := by decide +kernel
theorem dX7_station_81 : decode cX7_station 81 = .ok (.aload_n 0, 1) := by decide +kernel
theorem dX7_station_82 : decode cX7_station 82 = .ok (.getfield 24, 3) := by decide +kernel
theorem dX7_station_85 : decode cX7_station 85 = .ok (.iload_n 1, 1) := by decide +kernel
theorem dX7_station_86 : decode cX7_station 86 = .ok (.invokevirtual 200, 3) := by decide +kernel
theorem dX7_station_89 : decode cX7_station 89 = .ok (.ifCond .eq 7, 3) := by decide +kernel
theorem dX7_station_92 : decode cX7_station 92 = .ok (.iconst 1, 1) := by decide +kernel
theorem dX7_station_93 : decode cX7_station 93 = .ok (.goto 4, 3) := by decide +kernel
theorem dX7_station_96 : decode cX7_station 96 = .ok (.iconst 0, 1) := by decide +kernel
theorem dX7_station_97 : decode cX7_station 97 = .ok (.ireturn, 1) := by decide +kernel
theorem dX7_station_98 : decode cX7_station 98 = .ok (.aload_n 0, 1) := by decide +kernel
theorem dX7_station_99 : decode cX7_station 99 = .ok (.getfield 24, 3) := by decide +kernel
theorem dX7_station_102 : decode cX7_station 102 = .ok (.iload_n 1, 1) := by decide +kernel
theorem dX7_station_103 : decode cX7_station 103 = .ok (.invokevirtual 203, 3) := by decide +kernel
theorem dX7_station_106 : decode cX7_station 106 = .ok (.getfield 207, 3) := by decide +kernel
theorem dX7_station_109 : decode cX7_station 109 = .ok (.ireturn, 1) := by decide +kernel
theorem dX7_station_110 : decode cX7_station 110 = .ok (.aload_n 0, 1) := by decide +kernel
theorem dX7_station_111 : decode cX7_station 111 = .ok (.getfield 24, 3) := by decide +kernel
theorem dX7_station_114 : decode cX7_station 114 = .ok (.iload_n 1, 1) := by decide +kernel
theorem dX7_station_115 : decode cX7_station 115 = .ok (.invokevirtual 211, 3) := by decide +kernel
theorem dX7_station_118 : decode cX7_station 118 = .ok (.ireturn, 1) := by decide +kernel
theorem dX7_time_0 : decode cX7_time 0 = .ok (.iload_n 1, 1) := by decide +kernel
theorem dX7_time_1 : decode cX7_time 1 = .ok (.invokestatic 82, 3) := by decide +kernel
theorem dX7_time_4 : decode cX7_time 4 = .ok (.ifCond .eq 24, 3) := by decide +kernel
theorem dX7_time_7 : decode cX7_time 7 = .ok (.iload_n 2, 1) := by decide +kernel
theorem dX7_time_8 : decode cX7_time 8 = .ok (.iconst 0, 1) := by decide +kernel
theorem dX7_time_9 : decode cX7_time 9 = .ok (.aload_n 0, 1) := by decide +kernel
theorem dX7_time_10 : decode cX7_time 10 = .ok (.getfield 12, 3) := by decide +kernel
theorem dX7_time_13 : decode cX7_time 13 = .ok (.getfield 60, 3) := by decide +kernel
theorem dX7_time_16 : decode cX7_time 16 = .ok (.iconst 1, 1) := by decide +kernel
theorem dX7_time_17 : decode cX7_time 17 = .ok (.isub, 1) := by decide +kernel
theorem dX7_time_18 : decode cX7_time 18 = .ok (.invokestatic 49, 3) := by decide +kernel
theorem dX7_time_21 : decode cX7_time 21 = .ok (.ifCond .eq 7, 3) := by decide +kernel
theorem dX7_time_24 : decode cX7_time 24 = .ok (.iconst 1, 1) := by decide +kernel
theorem dX7_time_25 : decode cX7_time 25 = .ok (.goto 4, 3) := by decide +kernel
theorem dX7_time_28 : decode cX7_time 28 = .ok (.iconst 0, 1) := by decide +kernel
theorem dX7_time_29 : decode cX7_time 29 = .ok (.invokestatic 64, 3) := by decide +kernel
theorem dX7_time_32 : decode cX7_time 32 = .ok (.aload_n 0, 1) := by decide +kernel
theorem dX7_time_33 : decode cX7_time 33 = .ok (.getfield 24, 3) := by decide +kernel
theorem dX7_time_36 : decode cX7_time 36 = .ok (.iload_n 1, 1) := by decide +kernel
theorem dX7_time_37 : decode cX7_time 37 = .ok (.invokevirtual 203, 3) := by decide +kernel
theorem dX7_time_40 : decode cX7_time 40 = .ok (.astore 4, 2) := by decide +kernel
theorem dX7_time_42 : decode cX7_time 42 = .ok (.iload_n 3, 1) := by decide +kernel
theorem dX7_time_43 : decode cX7_time 43 = .ok (.ifCond .eq 13, 3) := by decide +kernel
theorem dX7_time_46 : decode cX7_time 46 = .ok (.aload 4, 2) := by decide +kernel
theorem dX7_time_48 : decode cX7_time 48 = .ok (.getfield 214, 3) := by decide +kernel
theorem dX7_time_51 : decode cX7_time 51 = .ok (.iload_n 2, 1) := by decide +kernel
theorem dX7_time_52 : decode cX7_time 52 = .ok (.iaload, 1) := by decide +kernel
theorem dX7_time_53 : decode cX7_time 53 = .ok (.goto 10, 3) := by decide +kernel
theorem dX7_time_56 : decode cX7_time 56 = .ok (.aload 4, 2) := by decide +kernel
theorem dX7_time_58 : decode cX7_time 58 = .ok (.getfield 217, 3) := by decide +kernel
theorem dX7_time_61 : decode cX7_time 61 = .ok (.iload_n 2, 1) := by decide +kernel
theorem dX7_time_62 : decode cX7_time 62 = .ok (.iaload, 1) := by decide +kernel
theorem dX7_time_63 : decode cX7_time 63 = .ok (.ireturn, 1) := by decide +kernel
theorem dX7_sequence_0 : decode cX7_sequence 0 = .ok (.iload_n 1, 1) := by decide +kernel
theorem dX7_sequence_1 : decode cX7_sequence 1 = .ok (.invokestatic 82, 3) := by decide +kernel
theorem dX7_sequence_4 : decode cX7_sequence 4 = .ok (.invokestatic 64, 3) := by decide +kernel
theorem dX7_sequence_7 : decode cX7_sequence 7 = .ok (.aload_n 0, 1) := by decide +kernel
theorem dX7_sequence_8 : decode cX7_sequence 8 = .ok (.getfield 24, 3) := by decide +kernel
theorem dX7_sequence_11 : decode cX7_sequence 11 = .ok (.iload_n 1, 1) := by decide +kernel
theorem dX7_sequence_12 : decode cX7_sequence 12 = .ok (.invokevirtual 203, 3) := by decide +kernel
theorem dX7_sequence_15 : decode cX7_sequence 15 = .ok (.astore_n 3, 1) := by decide +kernel
theorem dX7_sequence_16 : decode cX7_sequence 16 = .ok (.iload_n 2, 1) := by decide +kernel
theorem dX7_sequence_17 : decode cX7_sequence 17 = .ok (.iconst 0, 1) := by decide +kernel
theorem dX7_sequence_18 : decode cX7_sequence 18 = .ok (.aload_n 3, 1) := by decide +kernel
theorem dX7_sequence_19 : decode cX7_sequence 19 = .ok (.getfield 218, 3) := by decide +kernel
theorem dX7_sequence_22 : decode cX7_sequence 22 = .ok (.iconst 1, 1) := by decide +kernel
theorem dX7_sequence_23 : decode cX7_sequence 23 = .ok (.isub, 1) := by decide +kernel
theorem dX7_sequence_24 : decode cX7_sequence 24 = .ok (.invokestatic 49, 3) := by decide +kernel
theorem dX7_sequence_27 : decode cX7_sequence 27 = .ok (.invokestatic 148, 3) := by decide +kernel
theorem dX7_sequence_30 : decode cX7_sequence 30 = .ok (.aload_n 3, 1) := by decide +kernel
theorem dX7_sequence_31 : decode cX7_sequence 31 = .ok (.getfield 221, 3) := by decide +kernel
theorem dX7_sequence_34 : decode cX7_sequence 34 = .ok (.iload_n 2, 1) := by decide +kernel
theorem dX7_sequence_35 : decode cX7_sequence 35 = .ok (.iaload, 1) := by decide +kernel
theorem dX7_sequence_36 : decode cX7_sequence 36 = .ok (.ireturn, 1) := by decide +kernel
theorem dX7_line_0 : decode cX7_line 0 = .ok (.iload_n 1, 1) := by decide +kernel
theorem dX7_line_1 : decode cX7_line 1 = .ok (.iconst 0, 1) := by decide +kernel
theorem dX7_line_2 : decode cX7_line 2 = .ok (.bipush 7, 2) := by decide +kernel
theorem dX7_line_4 : decode cX7_line 4 = .ok (.invokestatic 49, 3) := by decide +kernel
theorem dX7_line_7 : decode cX7_line 7 = .ok (.invokestatic 53, 3) := by decide +kernel
theorem dX7_line_10 : decode cX7_line 10 = .ok (.iload_n 1, 1) := by decide +kernel
theorem dX7_line_11 : decode cX7_line 11 = .ok (.tableswitch 100 0 6 #[41, 49, 57, 68, 76, 84, 92], 41) := by decide +kernel
theorem dX7_line_52 : decode cX7_line 52 = .ok (.aload_n 0, 1) := by decide +kernel
theorem dX7_line_53 : decode cX7_line 53 = .ok (.getfield 24, 3) := by decide +kernel
theorem dX7_line_56 : decode cX7_line 56 = .ok (.invokevirtual 224, 3) := by decide +kernel
theorem dX7_line_59 : decode cX7_line 59 = .ok (.ireturn, 1) := by decide +kernel
theorem dX7_line_60 : decode cX7_line 60 = .ok (.aload_n 0, 1) := by decide +kernel
theorem dX7_line_61 : decode cX7_line 61 = .ok (.getfield 24, 3) := by decide +kernel
theorem dX7_line_64 : decode cX7_line 64 = .ok (.invokevirtual 227, 3) := by decide +kernel
theorem dX7_line_67 : decode cX7_line 67 = .ok (.ireturn, 1) := by decide +kernel
theorem dX7_line_68 : decode cX7_line 68 = .ok (.aload_n 0, 1) := by decide +kernel
theorem dX7_line_69 : decode cX7_line 69 = .ok (.getfield 24, 3) := by decide +kernel
theorem dX7_line_72 : decode cX7_line 72 = .ok (.invokevirtual 230, 3) := by decide +kernel
theorem dX7_line_75 : decode cX7_line 75 = .ok (.invokestatic 134, 3) := by decide +kernel
theorem dX7_line_78 : decode cX7_line 78 = .ok (.ireturn, 1) := by decide +kernel
theorem dX7_line_79 : decode cX7_line 79 = .ok (.aload_n 0, 1) := by decide +kernel
theorem dX7_line_80 : decode cX7_line 80 = .ok (.getfield 24, 3) := by decide +kernel
theorem dX7_line_83 : decode cX7_line 83 = .ok (.invokevirtual 233, 3) := by decide +kernel
theorem dX7_line_86 : decode cX7_line 86 = .ok (.ireturn, 1) := by decide +kernel
theorem dX7_line_87 : decode cX7_line 87 = .ok (.aload_n 0, 1) := by decide +kernel
theorem dX7_line_88 : decode cX7_line 88 = .ok (.getfield 24, 3) := by decide +kernel
theorem dX7_line_91 : decode cX7_line 91 = .ok (.invokevirtual 236, 3) := by decide +kernel
theorem dX7_line_94 : decode cX7_line 94 = .ok (.ireturn, 1) := by decide +kernel
theorem dX7_line_95 : decode cX7_line 95 = .ok (.aload_n 0, 1) := by decide +kernel
theorem dX7_line_96 : decode cX7_line 96 = .ok (.getfield 24, 3) := by decide +kernel
theorem dX7_line_99 : decode cX7_line 99 = .ok (.invokevirtual 239, 3) := by decide +kernel
theorem dX7_line_102 : decode cX7_line 102 = .ok (.ireturn, 1) := by decide +kernel
theorem dX7_line_103 : decode cX7_line 103 = .ok (.aload_n 0, 1) := by decide +kernel
theorem dX7_line_104 : decode cX7_line 104 = .ok (.getfield 24, 3) := by decide +kernel
theorem dX7_line_107 : decode cX7_line 107 = .ok (.invokevirtual 242, 3) := by decide +kernel
theorem dX7_line_110 : decode cX7_line 110 = .ok (.ireturn, 1) := by decide +kernel
theorem dX7_line_111 : decode cX7_line 111 = .ok (.aload_n 0, 1) := by decide +kernel
theorem dX7_line_112 : decode cX7_line 112 = .ok (.getfield 12, 3) := by decide +kernel
theorem dX7_line_115 : decode cX7_line 115 = .ok (.sipush 4095, 3) := by decide +kernel
theorem dX7_line_118 : decode cX7_line 118 = .ok (.invokevirtual 245, 3) := by decide +kernel
theorem dX7_line_121 : decode cX7_line 121 = .ok (.aload_n 0, 1) := by decide +kernel
theorem dX7_line_122 : decode cX7_line 122 = .ok (.getfield 12, 3) := by decide +kernel
theorem dX7_line_125 : decode cX7_line 125 = .ok (.iconst 1, 1) := by decide +kernel
theorem dX7_line_126 : decode cX7_line 126 = .ok (.invokevirtual 248, 3) := by decide +kernel
theorem dX7_line_129 : decode cX7_line 129 = .ok (.invokestatic 251, 3) := by decide +kernel
theorem dX7_line_132 : decode cX7_line 132 = .ok (.ireturn, 1) := by decide +kernel
theorem dX7_efficiency_0 : decode cX7_efficiency 0 = .ok (.aload_n 0, 1) := by decide +kernel
theorem dX7_efficiency_1 : decode cX7_efficiency 1 = .ok (.getfield 12, 3) := by decide +kernel
theorem dX7_efficiency_4 : decode cX7_efficiency 4 = .ok (.aload_n 0, 1) := by decide +kernel
theorem dX7_efficiency_5 : decode cX7_efficiency 5 = .ok (.getfield 24, 3) := by decide +kernel
theorem dX7_efficiency_8 : decode cX7_efficiency 8 = .ok (.invokevirtual 227, 3) := by decide +kernel
theorem dX7_efficiency_11 : decode cX7_efficiency 11 = .ok (.invokevirtual 248, 3) := by decide +kernel
theorem dX7_efficiency_14 : decode cX7_efficiency 14 = .ok (.istore_n 1, 1) := by decide +kernel
theorem dX7_efficiency_15 : decode cX7_efficiency 15 = .ok (.iload_n 1, 1) := by decide +kernel
theorem dX7_efficiency_16 : decode cX7_efficiency 16 = .ok (.ifCond .gt 14, 3) := by decide +kernel
theorem dX7_efficiency_19 : decode cX7_efficiency 19 = .ok (.new 254, 3) := by decide +kernel
theorem dX7_efficiency_22 : decode cX7_efficiency 22 = .ok (.dup, 1) := by decide +kernel
theorem dX7_efficiency_23 : decode cX7_efficiency 23 = .ok (.ldc_w 256, 3) := by decide +kernel
theorem dX7_efficiency_26 : decode cX7_efficiency 26 = .ok (.invokespecial 258, 3) := by decide +kernel
theorem dX7_efficiency_29 : decode cX7_efficiency 29 = .ok (.athrow, 1) := by decide +kernel
theorem dX7_efficiency_30 : decode cX7_efficiency 30 = .ok (.aload_n 0, 1) := by decide +kernel
theorem dX7_efficiency_31 : decode cX7_efficiency 31 = .ok (.getfield 12, 3) := by decide +kernel
theorem dX7_efficiency_34 : decode cX7_efficiency 34 = .ok (.aload_n 0, 1) := by decide +kernel
theorem dX7_efficiency_35 : decode cX7_efficiency 35 = .ok (.getfield 24, 3) := by decide +kernel
theorem dX7_efficiency_38 : decode cX7_efficiency 38 = .ok (.invokevirtual 230, 3) := by decide +kernel
theorem dX7_efficiency_41 : decode cX7_efficiency 41 = .ok (.invokevirtual 245, 3) := by decide +kernel
theorem dX7_efficiency_44 : decode cX7_efficiency 44 = .ok (.i2f, 1) := by decide +kernel
theorem dX7_efficiency_45 : decode cX7_efficiency 45 = .ok (.iload_n 1, 1) := by decide +kernel
theorem dX7_efficiency_46 : decode cX7_efficiency 46 = .ok (.i2f, 1) := by decide +kernel
theorem dX7_efficiency_47 : decode cX7_efficiency 47 = .ok (.fdiv, 1) := by decide +kernel
theorem dX7_efficiency_48 : decode cX7_efficiency 48 = .ok (.freturn, 1) := by decide +kernel
theorem dX7_unevenness_0 : decode cX7_unevenness 0 = .ok (.aload_n 0, 1) := by decide +kernel
theorem dX7_unevenness_1 : decode cX7_unevenness 1 = .ok (.getfield 24, 3) := by decide +kernel
theorem dX7_unevenness_4 : decode cX7_unevenness 4 = .ok (.invokevirtual 261, 3) := by decide +kernel
theorem dX7_unevenness_7 : decode cX7_unevenness 7 = .ok (.lreturn, 1) := by decide +kernel
theorem dX7_clearLine_0 : decode cX7_clearLine 0 = .ok (.aload_n 0, 1) := by decide +kernel
theorem dX7_clearLine_1 : decode cX7_clearLine 1 = .ok (.invokevirtual 57, 3) := by decide +kernel
theorem dX7_clearLine_4 : decode cX7_clearLine 4 = .ok (.aload_n 0, 1) := by decide +kernel
theorem dX7_clearLine_5 : decode cX7_clearLine 5 = .ok (.getfield 24, 3) := by decide +kernel
theorem dX7_clearLine_8 : decode cX7_clearLine 8 = .ok (.invokevirtual 230, 3) := by decide +kernel
theorem dX7_clearLine_11 : decode cX7_clearLine 11 = .ok (.invokestatic 134, 3) := by decide +kernel
theorem dX7_clearLine_14 : decode cX7_clearLine 14 = .ok (.istore_n 1, 1) := by decide +kernel
theorem dX7_clearLine_15 : decode cX7_clearLine 15 = .ok (.aload_n 0, 1) := by decide +kernel
theorem dX7_clearLine_16 : decode cX7_clearLine 16 = .ok (.getfield 12, 3) := by decide +kernel
theorem dX7_clearLine_19 : decode cX7_clearLine 19 = .ok (.invokevirtual 265, 3) := by decide +kernel
theorem dX7_clearLine_22 : decode cX7_clearLine 22 = .ok (.iload_n 1, 1) := by decide +kernel
theorem dX7_clearLine_23 : decode cX7_clearLine 23 = .ok (.ireturn, 1) := by decide +kernel
theorem dX7_fill_0 : decode cX7_fill 0 = .ok (.iload_n 1, 1) := by decide +kernel
theorem dX7_fill_1 : decode cX7_fill 1 = .ok (.invokestatic 178, 3) := by decide +kernel
theorem dX7_fill_4 : decode cX7_fill 4 = .ok (.invokestatic 53, 3) := by decide +kernel
theorem dX7_fill_7 : decode cX7_fill 7 = .ok (.aload_n 0, 1) := by decide +kernel
theorem dX7_fill_8 : decode cX7_fill 8 = .ok (.getfield 38, 3) := by decide +kernel
theorem dX7_fill_11 : decode cX7_fill 11 = .ok (.aload_n 0, 1) := by decide +kernel
theorem dX7_fill_12 : decode cX7_fill 12 = .ok (.getfield 12, 3) := by decide +kernel
theorem dX7_fill_15 : decode cX7_fill 15 = .ok (.invokevirtual 268, 3) := by decide +kernel
theorem dX7_fill_18 : decode cX7_fill 18 = .ok (.aload_n 0, 1) := by decide +kernel
theorem dX7_fill_19 : decode cX7_fill 19 = .ok (.getfield 24, 3) := by decide +kernel
theorem dX7_fill_22 : decode cX7_fill 22 = .ok (.iload_n 1, 1) := by decide +kernel
theorem dX7_fill_23 : decode cX7_fill 23 = .ok (.invokevirtual 271, 3) := by decide +kernel
theorem dX7_fill_26 : decode cX7_fill 26 = .ok (.istore_n 2, 1) := by decide +kernel
theorem dX7_fill_27 : decode cX7_fill 27 = .ok (.iload_n 2, 1) := by decide +kernel
theorem dX7_fill_28 : decode cX7_fill 28 = .ok (.ifCond .eq 14, 3) := by decide +kernel
theorem dX7_fill_31 : decode cX7_fill 31 = .ok (.aload_n 0, 1) := by decide +kernel
theorem dX7_fill_32 : decode cX7_fill 32 = .ok (.getfield 38, 3) := by decide +kernel
theorem dX7_fill_35 : decode cX7_fill 35 = .ok (.aload_n 0, 1) := by decide +kernel
theorem dX7_fill_36 : decode cX7_fill 36 = .ok (.getfield 12, 3) := by decide +kernel
theorem dX7_fill_39 : decode cX7_fill 39 = .ok (.invokevirtual 274, 3) := by decide +kernel
theorem dX7_fill_42 : decode cX7_fill 42 = .ok (.aload_n 0, 1) := by decide +kernel
theorem dX7_fill_43 : decode cX7_fill 43 = .ok (.iload_n 2, 1) := by decide +kernel
theorem dX7_fill_44 : decode cX7_fill 44 = .ok (.invokevirtual 187, 3) := by decide +kernel
theorem dX7_fill_47 : decode cX7_fill 47 = .ok (.iload_n 2, 1) := by decide +kernel
theorem dX7_fill_48 : decode cX7_fill 48 = .ok (.ifCond .ne 7, 3) := by decide +kernel
theorem dX7_fill_51 : decode cX7_fill 51 = .ok (.iconst 1, 1) := by decide +kernel
theorem dX7_fill_52 : decode cX7_fill 52 = .ok (.goto 4, 3) := by decide +kernel
theorem dX7_fill_55 : decode cX7_fill 55 = .ok (.iconst 0, 1) := by decide +kernel
theorem dX7_fill_56 : decode cX7_fill 56 = .ok (.invokestatic 124, 3) := by decide +kernel
theorem dX7_fill_59 : decode cX7_fill 59 = .ok (.aload_n 0, 1) := by decide +kernel
theorem dX7_fill_60 : decode cX7_fill 60 = .ok (.getfield 38, 3) := by decide +kernel
theorem dX7_fill_63 : decode cX7_fill 63 = .ok (.invokevirtual 277, 3) := by decide +kernel
theorem dX7_fill_66 : decode cX7_fill 66 = .ok (.aload_n 0, 1) := by decide +kernel
theorem dX7_fill_67 : decode cX7_fill 67 = .ok (.getfield 24, 3) := by decide +kernel
theorem dX7_fill_70 : decode cX7_fill 70 = .ok (.invokevirtual 224, 3) := by decide +kernel
theorem dX7_fill_73 : decode cX7_fill 73 = .ok (.ireturn, 1) := by decide +kernel
theorem dX7_least_0 : decode cX7_least 0 = .ok (.aload_n 0, 1) := by decide +kernel
theorem dX7_least_1 : decode cX7_least 1 = .ok (.getfield 12, 3) := by decide +kernel
theorem dX7_least_4 : decode cX7_least 4 = .ok (.getfield 93, 3) := by decide +kernel
theorem dX7_least_7 : decode cX7_least 7 = .ok (.bipush 8, 2) := by decide +kernel
theorem dX7_least_9 : decode cX7_least 9 = .ok (.if_icmp .gt 7, 3) := by decide +kernel
theorem dX7_least_12 : decode cX7_least 12 = .ok (.iconst 1, 1) := by decide +kernel
theorem dX7_least_13 : decode cX7_least 13 = .ok (.goto 4, 3) := by decide +kernel
theorem dX7_least_16 : decode cX7_least 16 = .ok (.iconst 0, 1) := by decide +kernel
theorem dX7_least_17 : decode cX7_least 17 = .ok (.invokestatic 96, 3) := by decide +kernel
theorem dX7_least_20 : decode cX7_least 20 = .ok (.aload_n 0, 1) := by decide +kernel
theorem dX7_least_21 : decode cX7_least 21 = .ok (.getfield 31, 3) := by decide +kernel
theorem dX7_least_24 : decode cX7_least 24 = .ok (.invokevirtual 280, 3) := by decide +kernel
theorem dX7_least_27 : decode cX7_least 27 = .ok (.istore_n 1, 1) := by decide +kernel
theorem dX7_least_28 : decode cX7_least 28 = .ok (.iload_n 1, 1) := by decide +kernel
theorem dX7_least_29 : decode cX7_least 29 = .ok (.ifCond .lt 7, 3) := by decide +kernel
theorem dX7_least_32 : decode cX7_least 32 = .ok (.iconst 1, 1) := by decide +kernel
theorem dX7_least_33 : decode cX7_least 33 = .ok (.goto 4, 3) := by decide +kernel
theorem dX7_least_36 : decode cX7_least 36 = .ok (.iconst 0, 1) := by decide +kernel
theorem dX7_least_37 : decode cX7_least 37 = .ok (.invokestatic 148, 3) := by decide +kernel
theorem dX7_least_40 : decode cX7_least 40 = .ok (.iload_n 1, 1) := by decide +kernel
theorem dX7_least_41 : decode cX7_least 41 = .ok (.ireturn, 1) := by decide +kernel
theorem dX7_ways_0 : decode cX7_ways 0 = .ok (.iload_n 1, 1) := by decide +kernel
theorem dX7_ways_1 : decode cX7_ways 1 = .ok (.iconst 0, 1) := by decide +kernel
theorem dX7_ways_2 : decode cX7_ways 2 = .ok (.bipush 8, 2) := by decide +kernel
theorem dX7_ways_4 : decode cX7_ways 4 = .ok (.invokestatic 49, 3) := by decide +kernel
theorem dX7_ways_7 : decode cX7_ways 7 = .ok (.invokestatic 53, 3) := by decide +kernel
theorem dX7_ways_10 : decode cX7_ways 10 = .ok (.aload_n 0, 1) := by decide +kernel
theorem dX7_ways_11 : decode cX7_ways 11 = .ok (.getfield 12, 3) := by decide +kernel
theorem dX7_ways_14 : decode cX7_ways 14 = .ok (.getfield 93, 3) := by decide +kernel
theorem dX7_ways_17 : decode cX7_ways 17 = .ok (.bipush 8, 2) := by decide +kernel
theorem dX7_ways_19 : decode cX7_ways 19 = .ok (.if_icmp .gt 7, 3) := by decide +kernel
theorem dX7_ways_22 : decode cX7_ways 22 = .ok (.iconst 1, 1) := by decide +kernel
theorem dX7_ways_23 : decode cX7_ways 23 = .ok (.goto 4, 3) := by decide +kernel
theorem dX7_ways_26 : decode cX7_ways 26 = .ok (.iconst 0, 1) := by decide +kernel
theorem dX7_ways_27 : decode cX7_ways 27 = .ok (.invokestatic 96, 3) := by decide +kernel
theorem dX7_ways_30 : decode cX7_ways 30 = .ok (.aload_n 0, 1) := by decide +kernel
theorem dX7_ways_31 : decode cX7_ways 31 = .ok (.getfield 31, 3) := by decide +kernel
theorem dX7_ways_34 : decode cX7_ways 34 = .ok (.iload_n 1, 1) := by decide +kernel
theorem dX7_ways_35 : decode cX7_ways 35 = .ok (.invokevirtual 283, 3) := by decide +kernel
theorem dX7_ways_38 : decode cX7_ways 38 = .ok (.lreturn, 1) := by decide +kernel
theorem dX7_takeLeast_0 : decode cX7_takeLeast 0 = .ok (.aload_n 0, 1) := by decide +kernel
theorem dX7_takeLeast_1 : decode cX7_takeLeast 1 = .ok (.getfield 12, 3) := by decide +kernel
theorem dX7_takeLeast_4 : decode cX7_takeLeast 4 = .ok (.getfield 93, 3) := by decide +kernel
theorem dX7_takeLeast_7 : decode cX7_takeLeast 7 = .ok (.bipush 8, 2) := by decide +kernel
theorem dX7_takeLeast_9 : decode cX7_takeLeast 9 = .ok (.if_icmp .gt 7, 3) := by decide +kernel
theorem dX7_takeLeast_12 : decode cX7_takeLeast 12 = .ok (.iconst 1, 1) := by decide +kernel
theorem dX7_takeLeast_13 : decode cX7_takeLeast 13 = .ok (.goto 4, 3) := by decide +kernel
theorem dX7_takeLeast_16 : decode cX7_takeLeast 16 = .ok (.iconst 0, 1) := by decide +kernel
theorem dX7_takeLeast_17 : decode cX7_takeLeast 17 = .ok (.invokestatic 96, 3) := by decide +kernel
theorem dX7_takeLeast_20 : decode cX7_takeLeast 20 = .ok (.aload_n 0, 1) := by decide +kernel
theorem dX7_takeLeast_21 : decode cX7_takeLeast 21 = .ok (.getfield 31, 3) := by decide +kernel
theorem dX7_takeLeast_24 : decode cX7_takeLeast 24 = .ok (.invokevirtual 280, 3) := by decide +kernel
theorem dX7_takeLeast_27 : decode cX7_takeLeast 27 = .ok (.ifCond .lt 7, 3) := by decide +kernel
theorem dX7_takeLeast_30 : decode cX7_takeLeast 30 = .ok (.iconst 1, 1) := by decide +kernel
theorem dX7_takeLeast_31 : decode cX7_takeLeast 31 = .ok (.goto 4, 3) := by decide +kernel
theorem dX7_takeLeast_34 : decode cX7_takeLeast 34 = .ok (.iconst 0, 1) := by decide +kernel
theorem dX7_takeLeast_35 : decode cX7_takeLeast 35 = .ok (.invokestatic 148, 3) := by decide +kernel
theorem dX7_takeLeast_38 : decode cX7_takeLeast 38 = .ok (.aload_n 0, 1) := by decide +kernel
theorem dX7_takeLeast_39 : decode cX7_takeLeast 39 = .ok (.invokevirtual 57, 3) := by decide +kernel
theorem dX7_takeLeast_42 : decode cX7_takeLeast 42 = .ok (.iconst 0, 1) := by decide +kernel
theorem dX7_takeLeast_43 : decode cX7_takeLeast 43 = .ok (.istore_n 1, 1) := by decide +kernel
theorem dX7_takeLeast_44 : decode cX7_takeLeast 44 = .ok (.iconst 0, 1) := by decide +kernel
theorem dX7_takeLeast_45 : decode cX7_takeLeast 45 = .ok (.istore_n 2, 1) := by decide +kernel
theorem dX7_takeLeast_46 : decode cX7_takeLeast 46 = .ok (.iload_n 2, 1) := by decide +kernel
theorem dX7_takeLeast_47 : decode cX7_takeLeast 47 = .ok (.aload_n 0, 1) := by decide +kernel
theorem dX7_takeLeast_48 : decode cX7_takeLeast 48 = .ok (.getfield 12, 3) := by decide +kernel
theorem dX7_takeLeast_51 : decode cX7_takeLeast 51 = .ok (.getfield 93, 3) := by decide +kernel
theorem dX7_takeLeast_54 : decode cX7_takeLeast 54 = .ok (.if_icmp .ge 49, 3) := by decide +kernel
theorem dX7_takeLeast_57 : decode cX7_takeLeast 57 = .ok (.aload_n 0, 1) := by decide +kernel
theorem dX7_takeLeast_58 : decode cX7_takeLeast 58 = .ok (.getfield 31, 3) := by decide +kernel
theorem dX7_takeLeast_61 : decode cX7_takeLeast 61 = .ok (.iload_n 2, 1) := by decide +kernel
theorem dX7_takeLeast_62 : decode cX7_takeLeast 62 = .ok (.invokevirtual 287, 3) := by decide +kernel
theorem dX7_takeLeast_65 : decode cX7_takeLeast 65 = .ok (.istore_n 3, 1) := by decide +kernel
theorem dX7_takeLeast_66 : decode cX7_takeLeast 66 = .ok (.iload_n 1, 1) := by decide +kernel
theorem dX7_takeLeast_67 : decode cX7_takeLeast 67 = .ok (.aload_n 0, 1) := by decide +kernel
theorem dX7_takeLeast_68 : decode cX7_takeLeast 68 = .ok (.getfield 12, 3) := by decide +kernel
theorem dX7_takeLeast_71 : decode cX7_takeLeast 71 = .ok (.getfield 160, 3) := by decide +kernel
theorem dX7_takeLeast_74 : decode cX7_takeLeast 74 = .ok (.iload_n 2, 1) := by decide +kernel
theorem dX7_takeLeast_75 : decode cX7_takeLeast 75 = .ok (.iaload, 1) := by decide +kernel
theorem dX7_takeLeast_76 : decode cX7_takeLeast 76 = .ok (.iload_n 3, 1) := by decide +kernel
theorem dX7_takeLeast_77 : decode cX7_takeLeast 77 = .ok (.if_icmp .ne 7, 3) := by decide +kernel
theorem dX7_takeLeast_80 : decode cX7_takeLeast 80 = .ok (.iconst 0, 1) := by decide +kernel
theorem dX7_takeLeast_81 : decode cX7_takeLeast 81 = .ok (.goto 4, 3) := by decide +kernel
theorem dX7_takeLeast_84 : decode cX7_takeLeast 84 = .ok (.iconst 1, 1) := by decide +kernel
theorem dX7_takeLeast_85 : decode cX7_takeLeast 85 = .ok (.iadd, 1) := by decide +kernel
theorem dX7_takeLeast_86 : decode cX7_takeLeast 86 = .ok (.istore_n 1, 1) := by decide +kernel
theorem dX7_takeLeast_87 : decode cX7_takeLeast 87 = .ok (.aload_n 0, 1) := by decide +kernel
theorem dX7_takeLeast_88 : decode cX7_takeLeast 88 = .ok (.getfield 12, 3) := by decide +kernel
theorem dX7_takeLeast_91 : decode cX7_takeLeast 91 = .ok (.getfield 160, 3) := by decide +kernel
theorem dX7_takeLeast_94 : decode cX7_takeLeast 94 = .ok (.iload_n 2, 1) := by decide +kernel
theorem dX7_takeLeast_95 : decode cX7_takeLeast 95 = .ok (.iload_n 3, 1) := by decide +kernel
theorem dX7_takeLeast_96 : decode cX7_takeLeast 96 = .ok (.iastore, 1) := by decide +kernel
theorem dX7_takeLeast_97 : decode cX7_takeLeast 97 = .ok (.iinc 2 1, 3) := by decide +kernel
theorem dX7_takeLeast_100 : decode cX7_takeLeast 100 = .ok (.goto (-54), 3) := by decide +kernel
theorem dX7_takeLeast_103 : decode cX7_takeLeast 103 = .ok (.iload_n 1, 1) := by decide +kernel
theorem dX7_takeLeast_104 : decode cX7_takeLeast 104 = .ok (.ireturn, 1) := by decide +kernel
theorem dX7_feed_0 : decode cX7_feed 0 = .ok (.aload_n 0, 1) := by decide +kernel
theorem dX7_feed_1 : decode cX7_feed 1 = .ok (.getfield 45, 3) := by decide +kernel
theorem dX7_feed_4 : decode cX7_feed 4 = .ok (.getfield 290, 3) := by decide +kernel
theorem dX7_feed_7 : decode cX7_feed 7 = .ok (.bipush 80, 2) := by decide +kernel
theorem dX7_feed_9 : decode cX7_feed 9 = .ok (.if_icmp .ge 7, 3) := by decide +kernel
theorem dX7_feed_12 : decode cX7_feed 12 = .ok (.iconst 1, 1) := by decide +kernel
theorem dX7_feed_13 : decode cX7_feed 13 = .ok (.goto 4, 3) := by decide +kernel
theorem dX7_feed_16 : decode cX7_feed 16 = .ok (.iconst 0, 1) := by decide +kernel
theorem dX7_feed_17 : decode cX7_feed 17 = .ok (.invokestatic 96, 3) := by decide +kernel
theorem dX7_feed_20 : decode cX7_feed 20 = .ok (.aload_n 0, 1) := by decide +kernel
theorem dX7_feed_21 : decode cX7_feed 21 = .ok (.getfield 45, 3) := by decide +kernel
theorem dX7_feed_24 : decode cX7_feed 24 = .ok (.iload_n 1, 1) := by decide +kernel
theorem dX7_feed_25 : decode cX7_feed 25 = .ok (.invokevirtual 293, 3) := by decide +kernel
theorem dX7_feed_28 : decode cX7_feed 28 = .ok (.aload_n 0, 1) := by decide +kernel
theorem dX7_feed_29 : decode cX7_feed 29 = .ok (.getfield 45, 3) := by decide +kernel
theorem dX7_feed_32 : decode cX7_feed 32 = .ok (.getfield 290, 3) := by decide +kernel
theorem dX7_feed_35 : decode cX7_feed 35 = .ok (.ireturn, 1) := by decide +kernel
theorem dX7_read_0 : decode cX7_read 0 = .ok (.aload_n 0, 1) := by decide +kernel
theorem dX7_read_1 : decode cX7_read 1 = .ok (.getfield 45, 3) := by decide +kernel
theorem dX7_read_4 : decode cX7_read 4 = .ok (.invokevirtual 296, 3) := by decide +kernel
theorem dX7_read_7 : decode cX7_read 7 = .ok (.istore_n 1, 1) := by decide +kernel
theorem dX7_read_8 : decode cX7_read 8 = .ok (.iload_n 1, 1) := by decide +kernel
theorem dX7_read_9 : decode cX7_read 9 = .ok (.ifCond .lt 15, 3) := by decide +kernel
theorem dX7_read_12 : decode cX7_read 12 = .ok (.aload_n 0, 1) := by decide +kernel
theorem dX7_read_13 : decode cX7_read 13 = .ok (.getfield 45, 3) := by decide +kernel
theorem dX7_read_16 : decode cX7_read 16 = .ok (.invokevirtual 299, 3) := by decide +kernel
theorem dX7_read_19 : decode cX7_read 19 = .ok (.bipush (-100), 2) := by decide +kernel
theorem dX7_read_21 : decode cX7_read 21 = .ok (.iload_n 1, 1) := by decide +kernel
theorem dX7_read_22 : decode cX7_read 22 = .ok (.isub, 1) := by decide +kernel
theorem dX7_read_23 : decode cX7_read 23 = .ok (.ireturn, 1) := by decide +kernel
theorem dX7_read_24 : decode cX7_read 24 = .ok (.aload_n 0, 1) := by decide +kernel
theorem dX7_read_25 : decode cX7_read 25 = .ok (.getfield 38, 3) := by decide +kernel
theorem dX7_read_28 : decode cX7_read 28 = .ok (.aload_n 0, 1) := by decide +kernel
theorem dX7_read_29 : decode cX7_read 29 = .ok (.getfield 12, 3) := by decide +kernel
theorem dX7_read_32 : decode cX7_read 32 = .ok (.invokevirtual 268, 3) := by decide +kernel
theorem dX7_read_35 : decode cX7_read 35 = .ok (.aload_n 0, 1) := by decide +kernel
theorem dX7_read_36 : decode cX7_read 36 = .ok (.invokevirtual 302, 3) := by decide +kernel
theorem dX7_read_39 : decode cX7_read 39 = .ok (.istore_n 2, 1) := by decide +kernel
theorem dX7_read_40 : decode cX7_read 40 = .ok (.aload_n 0, 1) := by decide +kernel
theorem dX7_read_41 : decode cX7_read 41 = .ok (.getfield 45, 3) := by decide +kernel
theorem dX7_read_44 : decode cX7_read 44 = .ok (.invokevirtual 299, 3) := by decide +kernel
theorem dX7_read_47 : decode cX7_read 47 = .ok (.iload_n 2, 1) := by decide +kernel
theorem dX7_read_48 : decode cX7_read 48 = .ok (.ifCond .ge 14, 3) := by decide +kernel
theorem dX7_read_51 : decode cX7_read 51 = .ok (.aload_n 0, 1) := by decide +kernel
theorem dX7_read_52 : decode cX7_read 52 = .ok (.getfield 38, 3) := by decide +kernel
theorem dX7_read_55 : decode cX7_read 55 = .ok (.aload_n 0, 1) := by decide +kernel
theorem dX7_read_56 : decode cX7_read 56 = .ok (.getfield 12, 3) := by decide +kernel
theorem dX7_read_59 : decode cX7_read 59 = .ok (.invokevirtual 274, 3) := by decide +kernel
theorem dX7_read_62 : decode cX7_read 62 = .ok (.iload_n 2, 1) := by decide +kernel
theorem dX7_read_63 : decode cX7_read 63 = .ok (.ifCond .lt 7, 3) := by decide +kernel
theorem dX7_read_66 : decode cX7_read 66 = .ok (.iconst 1, 1) := by decide +kernel
theorem dX7_read_67 : decode cX7_read 67 = .ok (.goto 4, 3) := by decide +kernel
theorem dX7_read_70 : decode cX7_read 70 = .ok (.iconst 0, 1) := by decide +kernel
theorem dX7_read_71 : decode cX7_read 71 = .ok (.invokestatic 124, 3) := by decide +kernel
theorem dX7_read_74 : decode cX7_read 74 = .ok (.aload_n 0, 1) := by decide +kernel
theorem dX7_read_75 : decode cX7_read 75 = .ok (.getfield 38, 3) := by decide +kernel
theorem dX7_read_78 : decode cX7_read 78 = .ok (.invokevirtual 277, 3) := by decide +kernel
theorem dX7_read_81 : decode cX7_read 81 = .ok (.iload_n 2, 1) := by decide +kernel
theorem dX7_read_82 : decode cX7_read 82 = .ok (.ireturn, 1) := by decide +kernel
theorem dX7_undo_0 : decode cX7_undo 0 = .ok (.aload_n 0, 1) := by decide +kernel
theorem dX7_undo_1 : decode cX7_undo 1 = .ok (.getfield 38, 3) := by decide +kernel
theorem dX7_undo_4 : decode cX7_undo 4 = .ok (.getfield 305, 3) := by decide +kernel
theorem dX7_undo_7 : decode cX7_undo 7 = .ok (.ifCond .le 7, 3) := by decide +kernel
theorem dX7_undo_10 : decode cX7_undo 10 = .ok (.iconst 1, 1) := by decide +kernel
theorem dX7_undo_11 : decode cX7_undo 11 = .ok (.goto 4, 3) := by decide +kernel
theorem dX7_undo_14 : decode cX7_undo 14 = .ok (.iconst 0, 1) := by decide +kernel
theorem dX7_undo_15 : decode cX7_undo 15 = .ok (.invokestatic 96, 3) := by decide +kernel
theorem dX7_undo_18 : decode cX7_undo 18 = .ok (.aload_n 0, 1) := by decide +kernel
theorem dX7_undo_19 : decode cX7_undo 19 = .ok (.getfield 38, 3) := by decide +kernel
theorem dX7_undo_22 : decode cX7_undo 22 = .ok (.aload_n 0, 1) := by decide +kernel
theorem dX7_undo_23 : decode cX7_undo 23 = .ok (.getfield 12, 3) := by decide +kernel
theorem dX7_undo_26 : decode cX7_undo 26 = .ok (.invokevirtual 306, 3) := by decide +kernel
theorem dX7_undo_29 : decode cX7_undo 29 = .ok (.aload_n 0, 1) := by decide +kernel
theorem dX7_undo_30 : decode cX7_undo 30 = .ok (.getfield 38, 3) := by decide +kernel
theorem dX7_undo_33 : decode cX7_undo 33 = .ok (.getfield 305, 3) := by decide +kernel
theorem dX7_undo_36 : decode cX7_undo 36 = .ok (.ireturn, 1) := by decide +kernel
theorem dX7_save_0 : decode cX7_save 0 = .ok (.aload_n 0, 1) := by decide +kernel
theorem dX7_save_1 : decode cX7_save 1 = .ok (.getfield 16, 3) := by decide +kernel
theorem dX7_save_4 : decode cX7_save 4 = .ok (.aload_n 0, 1) := by decide +kernel
theorem dX7_save_5 : decode cX7_save 5 = .ok (.getfield 12, 3) := by decide +kernel
theorem dX7_save_8 : decode cX7_save 8 = .ok (.invokevirtual 309, 3) := by decide +kernel
theorem dX7_save_11 : decode cX7_save 11 = .ok (.aload_n 0, 1) := by decide +kernel
theorem dX7_save_12 : decode cX7_save 12 = .ok (.iconst 1, 1) := by decide +kernel
theorem dX7_save_13 : decode cX7_save 13 = .ok (.putfield 312, 3) := by decide +kernel
theorem dX7_save_16 : decode cX7_save 16 = .ok (.aload_n 0, 1) := by decide +kernel
theorem dX7_save_17 : decode cX7_save 17 = .ok (.getfield 12, 3) := by decide +kernel
theorem dX7_save_20 : decode cX7_save 20 = .ok (.getfield 93, 3) := by decide +kernel
theorem dX7_save_23 : decode cX7_save 23 = .ok (.ireturn, 1) := by decide +kernel
theorem dX7_restore_0 : decode cX7_restore 0 = .ok (.aload_n 0, 1) := by decide +kernel
theorem dX7_restore_1 : decode cX7_restore 1 = .ok (.getfield 312, 3) := by decide +kernel
theorem dX7_restore_4 : decode cX7_restore 4 = .ok (.invokestatic 96, 3) := by decide +kernel
theorem dX7_restore_7 : decode cX7_restore 7 = .ok (.aload_n 0, 1) := by decide +kernel
theorem dX7_restore_8 : decode cX7_restore 8 = .ok (.getfield 12, 3) := by decide +kernel
theorem dX7_restore_11 : decode cX7_restore 11 = .ok (.aload_n 0, 1) := by decide +kernel
theorem dX7_restore_12 : decode cX7_restore 12 = .ok (.getfield 16, 3) := by decide +kernel
theorem dX7_restore_15 : decode cX7_restore 15 = .ok (.invokevirtual 309, 3) := by decide +kernel
theorem dX7_restore_18 : decode cX7_restore 18 = .ok (.aload_n 0, 1) := by decide +kernel
theorem dX7_restore_19 : decode cX7_restore 19 = .ok (.getfield 38, 3) := by decide +kernel
theorem dX7_restore_22 : decode cX7_restore 22 = .ok (.invokevirtual 316, 3) := by decide +kernel
theorem dX7_restore_25 : decode cX7_restore 25 = .ok (.aload_n 0, 1) := by decide +kernel
theorem dX7_restore_26 : decode cX7_restore 26 = .ok (.getfield 12, 3) := by decide +kernel
theorem dX7_restore_29 : decode cX7_restore 29 = .ok (.getfield 93, 3) := by decide +kernel
theorem dX7_restore_32 : decode cX7_restore 32 = .ok (.ireturn, 1) := by decide +kernel
theorem dX7_checkIndex_0 : decode cX7_checkIndex 0 = .ok (.iload_n 0, 1) := by decide +kernel
theorem dX7_checkIndex_1 : decode cX7_checkIndex 1 = .ok (.ifCond .ne 14, 3) := by decide +kernel
theorem dX7_checkIndex_4 : decode cX7_checkIndex 4 = .ok (.new 317, 3) := by decide +kernel
theorem dX7_checkIndex_7 : decode cX7_checkIndex 7 = .ok (.dup, 1) := by decide +kernel
theorem dX7_checkIndex_8 : decode cX7_checkIndex 8 = .ok (.ldc_w 319, 3) := by decide +kernel
theorem dX7_checkIndex_11 : decode cX7_checkIndex 11 = .ok (.invokespecial 321, 3) := by decide +kernel
theorem dX7_checkIndex_14 : decode cX7_checkIndex 14 = .ok (.athrow, 1) := by decide +kernel
theorem dX7_checkIndex_15 : decode cX7_checkIndex 15 = .ok (.return_, 1) := by decide +kernel
theorem dX7_checkArgument_0 : decode cX7_checkArgument 0 = .ok (.iload_n 0, 1) := by decide +kernel
theorem dX7_checkArgument_1 : decode cX7_checkArgument 1 = .ok (.ifCond .ne 14, 3) := by decide +kernel
theorem dX7_checkArgument_4 : decode cX7_checkArgument 4 = .ok (.new 322, 3) := by decide +kernel
theorem dX7_checkArgument_7 : decode cX7_checkArgument 7 = .ok (.dup, 1) := by decide +kernel
theorem dX7_checkArgument_8 : decode cX7_checkArgument 8 = .ok (.ldc_w 324, 3) := by decide +kernel
theorem dX7_checkArgument_11 : decode cX7_checkArgument 11 = .ok (.invokespecial 326, 3) := by decide +kernel
theorem dX7_checkArgument_14 : decode cX7_checkArgument 14 = .ok (.athrow, 1) := by decide +kernel
theorem dX7_checkArgument_15 : decode cX7_checkArgument 15 = .ok (.return_, 1) := by decide +kernel
theorem dX7_checkState_0 : decode cX7_checkState 0 = .ok (.iload_n 0, 1) := by decide +kernel
theorem dX7_checkState_1 : decode cX7_checkState 1 = .ok (.ifCond .ne 14, 3) := by decide +kernel
theorem dX7_checkState_4 : decode cX7_checkState 4 = .ok (.new 327, 3) := by decide +kernel
theorem dX7_checkState_7 : decode cX7_checkState 7 = .ok (.dup, 1) := by decide +kernel
theorem dX7_checkState_8 : decode cX7_checkState 8 = .ok (.ldc_w 329, 3) := by decide +kernel
theorem dX7_checkState_11 : decode cX7_checkState 11 = .ok (.invokespecial 331, 3) := by decide +kernel
theorem dX7_checkState_14 : decode cX7_checkState 14 = .ok (.athrow, 1) := by decide +kernel
theorem dX7_checkState_15 : decode cX7_checkState 15 = .ok (.return_, 1) := by decide +kernel
theorem dX7_checkSupported_0 : decode cX7_checkSupported 0 = .ok (.iload_n 0, 1) := by decide +kernel
theorem dX7_checkSupported_1 : decode cX7_checkSupported 1 = .ok (.ifCond .ne 14, 3) := by decide +kernel
theorem dX7_checkSupported_4 : decode cX7_checkSupported 4 = .ok (.new 332, 3) := by decide +kernel
theorem dX7_checkSupported_7 : decode cX7_checkSupported 7 = .ok (.dup, 1) := by decide +kernel
theorem dX7_checkSupported_8 : decode cX7_checkSupported 8 = .ok (.ldc_w 334, 3) := by decide +kernel
theorem dX7_checkSupported_11 : decode cX7_checkSupported 11 = .ok (.invokespecial 336, 3) := by decide +kernel
theorem dX7_checkSupported_14 : decode cX7_checkSupported 14 = .ok (.athrow, 1) := by decide +kernel
theorem dX7_checkSupported_15 : decode cX7_checkSupported 15 = .ok (.return_, 1) := by decide +kernel
theorem dX7_checkElement_0 : decode cX7_checkElement 0 = .ok (.iload_n 0, 1) := by decide +kernel
theorem dX7_checkElement_1 : decode cX7_checkElement 1 = .ok (.ifCond .ne 14, 3) := by decide +kernel
theorem dX7_checkElement_4 : decode cX7_checkElement 4 = .ok (.new 337, 3) := by decide +kernel
theorem dX7_checkElement_7 : decode cX7_checkElement 7 = .ok (.dup, 1) := by decide +kernel
theorem dX7_checkElement_8 : decode cX7_checkElement 8 = .ok (.ldc_w 339, 3) := by decide +kernel
theorem dX7_checkElement_11 : decode cX7_checkElement 11 = .ok (.invokespecial 341, 3) := by decide +kernel
theorem dX7_checkElement_14 : decode cX7_checkElement 14 = .ok (.athrow, 1) := by decide +kernel
theorem dX7_checkElement_15 : decode cX7_checkElement 15 = .ok (.return_, 1) := by decide +kernel
theorem dX7_isIn_0 : decode cX7_isIn 0 = .ok (.iload_n 0, 1) := by decide +kernel
theorem dX7_isIn_1 : decode cX7_isIn 1 = .ok (.iload_n 1, 1) := by decide +kernel
theorem dX7_isIn_2 : decode cX7_isIn 2 = .ok (.if_icmp .lt 12, 3) := by decide +kernel
theorem dX7_isIn_5 : decode cX7_isIn 5 = .ok (.iload_n 0, 1) := by decide +kernel
theorem dX7_isIn_6 : decode cX7_isIn 6 = .ok (.iload_n 2, 1) := by decide +kernel
theorem dX7_isIn_7 : decode cX7_isIn 7 = .ok (.if_icmp .gt 7, 3) := by decide +kernel
theorem dX7_isIn_10 : decode cX7_isIn 10 = .ok (.iconst 1, 1) := by decide +kernel
theorem dX7_isIn_11 : decode cX7_isIn 11 = .ok (.goto 4, 3) := by decide +kernel
theorem dX7_isIn_14 : decode cX7_isIn 14 = .ok (.iconst 0, 1) := by decide +kernel
theorem dX7_isIn_15 : decode cX7_isIn 15 = .ok (.ireturn, 1) := by decide +kernel
theorem dX7_isStation_0 : decode cX7_isStation 0 = .ok (.iload_n 0, 1) := by decide +kernel
theorem dX7_isStation_1 : decode cX7_isStation 1 = .ok (.iconst 0, 1) := by decide +kernel
theorem dX7_isStation_2 : decode cX7_isStation 2 = .ok (.bipush 7, 2) := by decide +kernel
theorem dX7_isStation_4 : decode cX7_isStation 4 = .ok (.invokestatic 49, 3) := by decide +kernel
theorem dX7_isStation_7 : decode cX7_isStation 7 = .ok (.ireturn, 1) := by decide +kernel
theorem dX7_isPriority_0 : decode cX7_isPriority 0 = .ok (.iload_n 0, 1) := by decide +kernel
theorem dX7_isPriority_1 : decode cX7_isPriority 1 = .ok (.iconst 0, 1) := by decide +kernel
theorem dX7_isPriority_2 : decode cX7_isPriority 2 = .ok (.iconst 3, 1) := by decide +kernel
theorem dX7_isPriority_3 : decode cX7_isPriority 3 = .ok (.invokestatic 49, 3) := by decide +kernel
theorem dX7_isPriority_6 : decode cX7_isPriority 6 = .ok (.ireturn, 1) := by decide +kernel
theorem dX7_isTime_0 : decode cX7_isTime 0 = .ok (.iload_n 0, 1) := by decide +kernel
theorem dX7_isTime_1 : decode cX7_isTime 1 = .ok (.iconst 0, 1) := by decide +kernel
theorem dX7_isTime_2 : decode cX7_isTime 2 = .ok (.bipush 99, 2) := by decide +kernel
theorem dX7_isTime_4 : decode cX7_isTime 4 = .ok (.invokestatic 49, 3) := by decide +kernel
theorem dX7_isTime_7 : decode cX7_isTime 7 = .ok (.ireturn, 1) := by decide +kernel
theorem dX7_isTool_0 : decode cX7_isTool 0 = .ok (.iload_n 0, 1) := by decide +kernel
theorem dX7_isTool_1 : decode cX7_isTool 1 = .ok (.iconst 0, 1) := by decide +kernel
theorem dX7_isTool_2 : decode cX7_isTool 2 = .ok (.iconst 5, 1) := by decide +kernel
theorem dX7_isTool_3 : decode cX7_isTool 3 = .ok (.invokestatic 49, 3) := by decide +kernel
theorem dX7_isTool_6 : decode cX7_isTool 6 = .ok (.ireturn, 1) := by decide +kernel
theorem dX7_isTaskData_0 : decode cX7_isTaskData 0 = .ok (.iload_n 0, 1) := by decide +kernel
theorem dX7_isTaskData_1 : decode cX7_isTaskData 1 = .ok (.invokestatic 106, 3) := by decide +kernel
theorem dX7_isTaskData_4 : decode cX7_isTaskData 4 = .ok (.ifCond .eq 28, 3) := by decide +kernel
theorem dX7_isTaskData_7 : decode cX7_isTaskData 7 = .ok (.iload_n 1, 1) := by decide +kernel
theorem dX7_isTaskData_8 : decode cX7_isTaskData 8 = .ok (.invokestatic 106, 3) := by decide +kernel
theorem dX7_isTaskData_11 : decode cX7_isTaskData 11 = .ok (.ifCond .eq 21, 3) := by decide +kernel
theorem dX7_isTaskData_14 : decode cX7_isTaskData 14 = .ok (.iload_n 2, 1) := by decide +kernel
theorem dX7_isTaskData_15 : decode cX7_isTaskData 15 = .ok (.invokestatic 106, 3) := by decide +kernel
theorem dX7_isTaskData_18 : decode cX7_isTaskData 18 = .ok (.ifCond .eq 14, 3) := by decide +kernel
theorem dX7_isTaskData_21 : decode cX7_isTaskData 21 = .ok (.iload_n 3, 1) := by decide +kernel
theorem dX7_isTaskData_22 : decode cX7_isTaskData 22 = .ok (.invokestatic 112, 3) := by decide +kernel
theorem dX7_isTaskData_25 : decode cX7_isTaskData 25 = .ok (.ifCond .eq 7, 3) := by decide +kernel
theorem dX7_isTaskData_28 : decode cX7_isTaskData 28 = .ok (.iconst 1, 1) := by decide +kernel
theorem dX7_isTaskData_29 : decode cX7_isTaskData 29 = .ok (.goto 4, 3) := by decide +kernel
theorem dX7_isTaskData_32 : decode cX7_isTaskData 32 = .ok (.iconst 0, 1) := by decide +kernel
theorem dX7_isTaskData_33 : decode cX7_isTaskData 33 = .ok (.ireturn, 1) := by decide +kernel
theorem dX7_isRuleValue_0 : decode cX7_isRuleValue 0 = .ok (.iload_n 0, 1) := by decide +kernel
theorem dX7_isRuleValue_1 : decode cX7_isRuleValue 1 = .ok (.iconst 0, 1) := by decide +kernel
theorem dX7_isRuleValue_2 : decode cX7_isRuleValue 2 = .ok (.iconst 3, 1) := by decide +kernel
theorem dX7_isRuleValue_3 : decode cX7_isRuleValue 3 = .ok (.invokestatic 49, 3) := by decide +kernel
theorem dX7_isRuleValue_6 : decode cX7_isRuleValue 6 = .ok (.ifCond .eq 24, 3) := by decide +kernel
theorem dX7_isRuleValue_9 : decode cX7_isRuleValue 9 = .ok (.iload_n 1, 1) := by decide +kernel
theorem dX7_isRuleValue_10 : decode cX7_isRuleValue 10 = .ok (.getstatic 342, 3) := by decide +kernel
theorem dX7_isRuleValue_13 : decode cX7_isRuleValue 13 = .ok (.iload_n 0, 1) := by decide +kernel
theorem dX7_isRuleValue_14 : decode cX7_isRuleValue 14 = .ok (.iaload, 1) := by decide +kernel
theorem dX7_isRuleValue_15 : decode cX7_isRuleValue 15 = .ok (.getstatic 345, 3) := by decide +kernel
theorem dX7_isRuleValue_18 : decode cX7_isRuleValue 18 = .ok (.iload_n 0, 1) := by decide +kernel
theorem dX7_isRuleValue_19 : decode cX7_isRuleValue 19 = .ok (.iaload, 1) := by decide +kernel
theorem dX7_isRuleValue_20 : decode cX7_isRuleValue 20 = .ok (.invokestatic 49, 3) := by decide +kernel
theorem dX7_isRuleValue_23 : decode cX7_isRuleValue 23 = .ok (.ifCond .eq 7, 3) := by decide +kernel
theorem dX7_isRuleValue_26 : decode cX7_isRuleValue 26 = .ok (.iconst 1, 1) := by decide +kernel
theorem dX7_isRuleValue_27 : decode cX7_isRuleValue 27 = .ok (.goto 4, 3) := by decide +kernel
theorem dX7_isRuleValue_30 : decode cX7_isRuleValue 30 = .ok (.iconst 0, 1) := by decide +kernel
theorem dX7_isRuleValue_31 : decode cX7_isRuleValue 31 = .ok (.ireturn, 1) := by decide +kernel
theorem dX7_quotientUp_0 : decode cX7_quotientUp 0 = .ok (.iload_n 1, 1) := by decide +kernel
theorem dX7_quotientUp_1 : decode cX7_quotientUp 1 = .ok (.ifCond .gt 7, 3) := by decide +kernel
theorem dX7_quotientUp_4 : decode cX7_quotientUp 4 = .ok (.iconst 0, 1) := by decide +kernel
theorem dX7_quotientUp_5 : decode cX7_quotientUp 5 = .ok (.goto 10, 3) := by decide +kernel
theorem dX7_quotientUp_8 : decode cX7_quotientUp 8 = .ok (.iload_n 0, 1) := by decide +kernel
theorem dX7_quotientUp_9 : decode cX7_quotientUp 9 = .ok (.iload_n 1, 1) := by decide +kernel
theorem dX7_quotientUp_10 : decode cX7_quotientUp 10 = .ok (.iadd, 1) := by decide +kernel
theorem dX7_quotientUp_11 : decode cX7_quotientUp 11 = .ok (.iconst 1, 1) := by decide +kernel
theorem dX7_quotientUp_12 : decode cX7_quotientUp 12 = .ok (.isub, 1) := by decide +kernel
theorem dX7_quotientUp_13 : decode cX7_quotientUp 13 = .ok (.iload_n 1, 1) := by decide +kernel
theorem dX7_quotientUp_14 : decode cX7_quotientUp 14 = .ok (.idiv, 1) := by decide +kernel
theorem dX7_quotientUp_15 : decode cX7_quotientUp 15 = .ok (.ireturn, 1) := by decide +kernel
theorem dX7_has_0 : decode cX7_has 0 = .ok (.iload_n 0, 1) := by decide +kernel
theorem dX7_has_1 : decode cX7_has 1 = .ok (.iload_n 1, 1) := by decide +kernel
theorem dX7_has_2 : decode cX7_has 2 = .ok (.ishr, 1) := by decide +kernel
theorem dX7_has_3 : decode cX7_has 3 = .ok (.iconst 1, 1) := by decide +kernel
theorem dX7_has_4 : decode cX7_has 4 = .ok (.iand, 1) := by decide +kernel
theorem dX7_has_5 : decode cX7_has 5 = .ok (.ifCond .eq 7, 3) := by decide +kernel
theorem dX7_has_8 : decode cX7_has 8 = .ok (.iconst 1, 1) := by decide +kernel
theorem dX7_has_9 : decode cX7_has 9 = .ok (.goto 4, 3) := by decide +kernel
theorem dX7_has_12 : decode cX7_has 12 = .ok (.iconst 0, 1) := by decide +kernel
theorem dX7_has_13 : decode cX7_has 13 = .ok (.ireturn, 1) := by decide +kernel
theorem dX7_remember_0 : decode cX7_remember 0 = .ok (.aload_n 0, 1) := by decide +kernel
theorem dX7_remember_1 : decode cX7_remember 1 = .ok (.getfield 38, 3) := by decide +kernel
theorem dX7_remember_4 : decode cX7_remember 4 = .ok (.aload_n 0, 1) := by decide +kernel
theorem dX7_remember_5 : decode cX7_remember 5 = .ok (.getfield 12, 3) := by decide +kernel
theorem dX7_remember_8 : decode cX7_remember 8 = .ok (.invokevirtual 268, 3) := by decide +kernel
theorem dX7_remember_11 : decode cX7_remember 11 = .ok (.aload_n 0, 1) := by decide +kernel
theorem dX7_remember_12 : decode cX7_remember 12 = .ok (.getfield 38, 3) := by decide +kernel
theorem dX7_remember_15 : decode cX7_remember 15 = .ok (.invokevirtual 277, 3) := by decide +kernel
theorem dX7_remember_18 : decode cX7_remember 18 = .ok (.return_, 1) := by decide +kernel
theorem dX7_keepReason_0 : decode cX7_keepReason 0 = .ok (.iload_n 1, 1) := by decide +kernel
theorem dX7_keepReason_1 : decode cX7_keepReason 1 = .ok (.ifCond .eq 8, 3) := by decide +kernel
theorem dX7_keepReason_4 : decode cX7_keepReason 4 = .ok (.aload_n 0, 1) := by decide +kernel
theorem dX7_keepReason_5 : decode cX7_keepReason 5 = .ok (.iload_n 1, 1) := by decide +kernel
theorem dX7_keepReason_6 : decode cX7_keepReason 6 = .ok (.putfield 191, 3) := by decide +kernel
theorem dX7_keepReason_9 : decode cX7_keepReason 9 = .ok (.return_, 1) := by decide +kernel
theorem dX7_carryOutAll_0 : decode cX7_carryOutAll 0 = .ok (.aload_n 0, 1) := by decide +kernel
theorem dX7_carryOutAll_1 : decode cX7_carryOutAll 1 = .ok (.getfield 45, 3) := by decide +kernel
theorem dX7_carryOutAll_4 : decode cX7_carryOutAll 4 = .ok (.invokevirtual 348, 3) := by decide +kernel
theorem dX7_carryOutAll_7 : decode cX7_carryOutAll 7 = .ok (.iconst 1, 1) := by decide +kernel
theorem dX7_carryOutAll_8 : decode cX7_carryOutAll 8 = .ok (.istore_n 1, 1) := by decide +kernel
theorem dX7_carryOutAll_9 : decode cX7_carryOutAll 9 = .ok (.iconst 0, 1) := by decide +kernel
theorem dX7_carryOutAll_10 : decode cX7_carryOutAll 10 = .ok (.istore_n 2, 1) := by decide +kernel
theorem dX7_carryOutAll_11 : decode cX7_carryOutAll 11 = .ok (.iload_n 1, 1) := by decide +kernel
theorem dX7_carryOutAll_12 : decode cX7_carryOutAll 12 = .ok (.ifCond .eq 44, 3) := by decide +kernel
theorem dX7_carryOutAll_15 : decode cX7_carryOutAll 15 = .ok (.iload_n 2, 1) := by decide +kernel
theorem dX7_carryOutAll_16 : decode cX7_carryOutAll 16 = .ok (.bipush 80, 2) := by decide +kernel
theorem dX7_carryOutAll_18 : decode cX7_carryOutAll 18 = .ok (.if_icmp .ge 38, 3) := by decide +kernel
theorem dX7_carryOutAll_21 : decode cX7_carryOutAll 21 = .ok (.aload_n 0, 1) := by decide +kernel
theorem dX7_carryOutAll_22 : decode cX7_carryOutAll 22 = .ok (.getfield 45, 3) := by decide +kernel
theorem dX7_carryOutAll_25 : decode cX7_carryOutAll 25 = .ok (.invokevirtual 351, 3) := by decide +kernel
theorem dX7_carryOutAll_28 : decode cX7_carryOutAll 28 = .ok (.ifCond .eq 10, 3) := by decide +kernel
theorem dX7_carryOutAll_31 : decode cX7_carryOutAll 31 = .ok (.aload_n 0, 1) := by decide +kernel
theorem dX7_carryOutAll_32 : decode cX7_carryOutAll 32 = .ok (.invokevirtual 355, 3) := by decide +kernel
theorem dX7_carryOutAll_35 : decode cX7_carryOutAll 35 = .ok (.ifCond .ne 5, 3) := by decide +kernel
theorem dX7_carryOutAll_38 : decode cX7_carryOutAll 38 = .ok (.iconst (-1), 1) := by decide +kernel
theorem dX7_carryOutAll_39 : decode cX7_carryOutAll 39 = .ok (.ireturn, 1) := by decide +kernel
theorem dX7_carryOutAll_40 : decode cX7_carryOutAll 40 = .ok (.iinc 2 1, 3) := by decide +kernel
theorem dX7_carryOutAll_43 : decode cX7_carryOutAll 43 = .ok (.aload_n 0, 1) := by decide +kernel
theorem dX7_carryOutAll_44 : decode cX7_carryOutAll 44 = .ok (.getfield 45, 3) := by decide +kernel
theorem dX7_carryOutAll_47 : decode cX7_carryOutAll 47 = .ok (.bipush 59, 2) := by decide +kernel
theorem dX7_carryOutAll_49 : decode cX7_carryOutAll 49 = .ok (.invokevirtual 358, 3) := by decide +kernel
theorem dX7_carryOutAll_52 : decode cX7_carryOutAll 52 = .ok (.istore_n 1, 1) := by decide +kernel
theorem dX7_carryOutAll_53 : decode cX7_carryOutAll 53 = .ok (.goto (-42), 3) := by decide +kernel
theorem dX7_carryOutAll_56 : decode cX7_carryOutAll 56 = .ok (.iload_n 2, 1) := by decide +kernel
theorem dX7_carryOutAll_57 : decode cX7_carryOutAll 57 = .ok (.ireturn, 1) := by decide +kernel
theorem dX7_isCarriedOut_0 : decode cX7_isCarriedOut 0 = .ok (.aload_n 0, 1) := by decide +kernel
theorem dX7_isCarriedOut_1 : decode cX7_isCarriedOut 1 = .ok (.getfield 45, 3) := by decide +kernel
theorem dX7_isCarriedOut_4 : decode cX7_isCarriedOut 4 = .ok (.getfield 362, 3) := by decide +kernel
theorem dX7_isCarriedOut_7 : decode cX7_isCarriedOut 7 = .ok (.astore_n 1, 1) := by decide +kernel
theorem dX7_isCarriedOut_8 : decode cX7_isCarriedOut 8 = .ok (.aload_n 0, 1) := by decide +kernel
theorem dX7_isCarriedOut_9 : decode cX7_isCarriedOut 9 = .ok (.getfield 45, 3) := by decide +kernel
theorem dX7_isCarriedOut_12 : decode cX7_isCarriedOut 12 = .ok (.getfield 366, 3) := by decide +kernel
theorem dX7_isCarriedOut_15 : decode cX7_isCarriedOut 15 = .ok (.iconst 0, 1) := by decide +kernel
theorem dX7_isCarriedOut_16 : decode cX7_isCarriedOut 16 = .ok (.iaload, 1) := by decide +kernel
theorem dX7_isCarriedOut_17 : decode cX7_isCarriedOut 17 = .ok (.istore_n 2, 1) := by decide +kernel
theorem dX7_isCarriedOut_18 : decode cX7_isCarriedOut 18 = .ok (.aload_n 0, 1) := by decide +kernel
theorem dX7_isCarriedOut_19 : decode cX7_isCarriedOut 19 = .ok (.getfield 45, 3) := by decide +kernel
theorem dX7_isCarriedOut_22 : decode cX7_isCarriedOut 22 = .ok (.getfield 366, 3) := by decide +kernel
theorem dX7_isCarriedOut_25 : decode cX7_isCarriedOut 25 = .ok (.iconst 1, 1) := by decide +kernel
theorem dX7_isCarriedOut_26 : decode cX7_isCarriedOut 26 = .ok (.iaload, 1) := by decide +kernel
theorem dX7_isCarriedOut_27 : decode cX7_isCarriedOut 27 = .ok (.istore_n 3, 1) := by decide +kernel
theorem dX7_isCarriedOut_28 : decode cX7_isCarriedOut 28 = .ok (.aload_n 1, 1) := by decide +kernel
theorem dX7_isCarriedOut_29 : decode cX7_isCarriedOut 29 = .ok (.getstatic 369, 3) := by decide +kernel
theorem dX7_isCarriedOut_32 : decode cX7_isCarriedOut 32 = .ok (.if_acmp .ne 28, 3) := by decide +kernel
theorem dX7_isCarriedOut_35 : decode cX7_isCarriedOut 35 = .ok (.aload_n 0, 1) := by decide +kernel
theorem dX7_isCarriedOut_36 : decode cX7_isCarriedOut 36 = .ok (.iload_n 2, 1) := by decide +kernel
theorem dX7_isCarriedOut_37 : decode cX7_isCarriedOut 37 = .ok (.iload_n 3, 1) := by decide +kernel
theorem dX7_isCarriedOut_38 : decode cX7_isCarriedOut 38 = .ok (.aload_n 0, 1) := by decide +kernel
theorem dX7_isCarriedOut_39 : decode cX7_isCarriedOut 39 = .ok (.getfield 45, 3) := by decide +kernel
theorem dX7_isCarriedOut_42 : decode cX7_isCarriedOut 42 = .ok (.getfield 366, 3) := by decide +kernel
theorem dX7_isCarriedOut_45 : decode cX7_isCarriedOut 45 = .ok (.iconst 2, 1) := by decide +kernel
theorem dX7_isCarriedOut_46 : decode cX7_isCarriedOut 46 = .ok (.iaload, 1) := by decide +kernel
theorem dX7_isCarriedOut_47 : decode cX7_isCarriedOut 47 = .ok (.aload_n 0, 1) := by decide +kernel
theorem dX7_isCarriedOut_48 : decode cX7_isCarriedOut 48 = .ok (.getfield 45, 3) := by decide +kernel
theorem dX7_isCarriedOut_51 : decode cX7_isCarriedOut 51 = .ok (.getfield 366, 3) := by decide +kernel
theorem dX7_isCarriedOut_54 : decode cX7_isCarriedOut 54 = .ok (.iconst 3, 1) := by decide +kernel
theorem dX7_isCarriedOut_55 : decode cX7_isCarriedOut 55 = .ok (.iaload, 1) := by decide +kernel
theorem dX7_isCarriedOut_56 : decode cX7_isCarriedOut 56 = .ok (.invokevirtual 374, 3) := by decide +kernel
theorem dX7_isCarriedOut_59 : decode cX7_isCarriedOut 59 = .ok (.ireturn, 1) := by decide +kernel
theorem dX7_isCarriedOut_60 : decode cX7_isCarriedOut 60 = .ok (.aload_n 1, 1) := by decide +kernel
theorem dX7_isCarriedOut_61 : decode cX7_isCarriedOut 61 = .ok (.getstatic 377, 3) := by decide +kernel
theorem dX7_isCarriedOut_64 : decode cX7_isCarriedOut 64 = .ok (.if_acmp .ne 10, 3) := by decide +kernel
theorem dX7_isCarriedOut_67 : decode cX7_isCarriedOut 67 = .ok (.aload_n 0, 1) := by decide +kernel
theorem dX7_isCarriedOut_68 : decode cX7_isCarriedOut 68 = .ok (.iload_n 2, 1) := by decide +kernel
theorem dX7_isCarriedOut_69 : decode cX7_isCarriedOut 69 = .ok (.iload_n 3, 1) := by decide +kernel
theorem dX7_isCarriedOut_70 : decode cX7_isCarriedOut 70 = .ok (.invokevirtual 380, 3) := by decide +kernel
theorem dX7_isCarriedOut_73 : decode cX7_isCarriedOut 73 = .ok (.ireturn, 1) := by decide +kernel
theorem dX7_isCarriedOut_74 : decode cX7_isCarriedOut 74 = .ok (.aload_n 1, 1) := by decide +kernel
theorem dX7_isCarriedOut_75 : decode cX7_isCarriedOut 75 = .ok (.getstatic 383, 3) := by decide +kernel
theorem dX7_isCarriedOut_78 : decode cX7_isCarriedOut 78 = .ok (.if_acmp .ne 10, 3) := by decide +kernel
theorem dX7_isCarriedOut_81 : decode cX7_isCarriedOut 81 = .ok (.aload_n 0, 1) := by decide +kernel
theorem dX7_isCarriedOut_82 : decode cX7_isCarriedOut 82 = .ok (.iload_n 2, 1) := by decide +kernel
theorem dX7_isCarriedOut_83 : decode cX7_isCarriedOut 83 = .ok (.iload_n 3, 1) := by decide +kernel
theorem dX7_isCarriedOut_84 : decode cX7_isCarriedOut 84 = .ok (.invokevirtual 386, 3) := by decide +kernel
theorem dX7_isCarriedOut_87 : decode cX7_isCarriedOut 87 = .ok (.ireturn, 1) := by decide +kernel
theorem dX7_isCarriedOut_88 : decode cX7_isCarriedOut 88 = .ok (.aload_n 1, 1) := by decide +kernel
theorem dX7_isCarriedOut_89 : decode cX7_isCarriedOut 89 = .ok (.getstatic 389, 3) := by decide +kernel
theorem dX7_isCarriedOut_92 : decode cX7_isCarriedOut 92 = .ok (.if_acmp .ne 9, 3) := by decide +kernel
theorem dX7_isCarriedOut_95 : decode cX7_isCarriedOut 95 = .ok (.aload_n 0, 1) := by decide +kernel
theorem dX7_isCarriedOut_96 : decode cX7_isCarriedOut 96 = .ok (.iload_n 2, 1) := by decide +kernel
theorem dX7_isCarriedOut_97 : decode cX7_isCarriedOut 97 = .ok (.invokevirtual 392, 3) := by decide +kernel
theorem dX7_isCarriedOut_100 : decode cX7_isCarriedOut 100 = .ok (.ireturn, 1) := by decide +kernel
theorem dX7_isCarriedOut_101 : decode cX7_isCarriedOut 101 = .ok (.aload_n 0, 1) := by decide +kernel
theorem dX7_isCarriedOut_102 : decode cX7_isCarriedOut 102 = .ok (.iload_n 2, 1) := by decide +kernel
theorem dX7_isCarriedOut_103 : decode cX7_isCarriedOut 103 = .ok (.iload_n 3, 1) := by decide +kernel
theorem dX7_isCarriedOut_104 : decode cX7_isCarriedOut 104 = .ok (.aload_n 1, 1) := by decide +kernel
theorem dX7_isCarriedOut_105 : decode cX7_isCarriedOut 105 = .ok (.getstatic 395, 3) := by decide +kernel
theorem dX7_isCarriedOut_108 : decode cX7_isCarriedOut 108 = .ok (.if_acmp .ne 7, 3) := by decide +kernel
theorem dX7_isCarriedOut_111 : decode cX7_isCarriedOut 111 = .ok (.iconst 1, 1) := by decide +kernel
theorem dX7_isCarriedOut_112 : decode cX7_isCarriedOut 112 = .ok (.goto 4, 3) := by decide +kernel
theorem dX7_isCarriedOut_115 : decode cX7_isCarriedOut 115 = .ok (.iconst 0, 1) := by decide +kernel
theorem dX7_isCarriedOut_116 : decode cX7_isCarriedOut 116 = .ok (.invokevirtual 398, 3) := by decide +kernel
theorem dX7_isCarriedOut_119 : decode cX7_isCarriedOut 119 = .ok (.ireturn, 1) := by decide +kernel
theorem dX7_isAdded_0 : decode cX7_isAdded 0 = .ok (.iload_n 1, 1) := by decide +kernel
theorem dX7_isAdded_1 : decode cX7_isAdded 1 = .ok (.iload_n 2, 1) := by decide +kernel
theorem dX7_isAdded_2 : decode cX7_isAdded 2 = .ok (.iload_n 3, 1) := by decide +kernel
theorem dX7_isAdded_3 : decode cX7_isAdded 3 = .ok (.iload 4, 2) := by decide +kernel
theorem dX7_isAdded_5 : decode cX7_isAdded 5 = .ok (.invokestatic 89, 3) := by decide +kernel
theorem dX7_isAdded_8 : decode cX7_isAdded 8 = .ok (.ifCond .eq 15, 3) := by decide +kernel
theorem dX7_isAdded_11 : decode cX7_isAdded 11 = .ok (.aload_n 0, 1) := by decide +kernel
theorem dX7_isAdded_12 : decode cX7_isAdded 12 = .ok (.getfield 12, 3) := by decide +kernel
theorem dX7_isAdded_15 : decode cX7_isAdded 15 = .ok (.getfield 93, 3) := by decide +kernel
theorem dX7_isAdded_18 : decode cX7_isAdded 18 = .ok (.bipush 12, 2) := by decide +kernel
theorem dX7_isAdded_20 : decode cX7_isAdded 20 = .ok (.if_icmp .lt 5, 3) := by decide +kernel
theorem dX7_isAdded_23 : decode cX7_isAdded 23 = .ok (.iconst 0, 1) := by decide +kernel
theorem dX7_isAdded_24 : decode cX7_isAdded 24 = .ok (.ireturn, 1) := by decide +kernel
theorem dX7_isAdded_25 : decode cX7_isAdded 25 = .ok (.aload_n 0, 1) := by decide +kernel
theorem dX7_isAdded_26 : decode cX7_isAdded 26 = .ok (.getfield 12, 3) := by decide +kernel
theorem dX7_isAdded_29 : decode cX7_isAdded 29 = .ok (.iload_n 1, 1) := by decide +kernel
theorem dX7_isAdded_30 : decode cX7_isAdded 30 = .ok (.iload_n 2, 1) := by decide +kernel
theorem dX7_isAdded_31 : decode cX7_isAdded 31 = .ok (.iload_n 3, 1) := by decide +kernel
theorem dX7_isAdded_32 : decode cX7_isAdded 32 = .ok (.iload 4, 2) := by decide +kernel
theorem dX7_isAdded_34 : decode cX7_isAdded 34 = .ok (.invokevirtual 99, 3) := by decide +kernel
theorem dX7_isAdded_37 : decode cX7_isAdded 37 = .ok (.pop, 1) := by decide +kernel
theorem dX7_isAdded_38 : decode cX7_isAdded 38 = .ok (.iconst 1, 1) := by decide +kernel
theorem dX7_isAdded_39 : decode cX7_isAdded 39 = .ok (.ireturn, 1) := by decide +kernel
theorem dX7_isLinked_0 : decode cX7_isLinked 0 = .ok (.aload_n 0, 1) := by decide +kernel
theorem dX7_isLinked_1 : decode cX7_isLinked 1 = .ok (.getfield 12, 3) := by decide +kernel
theorem dX7_isLinked_4 : decode cX7_isLinked 4 = .ok (.iload_n 1, 1) := by decide +kernel
theorem dX7_isLinked_5 : decode cX7_isLinked 5 = .ok (.invokevirtual 103, 3) := by decide +kernel
theorem dX7_isLinked_8 : decode cX7_isLinked 8 = .ok (.ifCond .eq 19, 3) := by decide +kernel
theorem dX7_isLinked_11 : decode cX7_isLinked 11 = .ok (.aload_n 0, 1) := by decide +kernel
theorem dX7_isLinked_12 : decode cX7_isLinked 12 = .ok (.getfield 12, 3) := by decide +kernel
theorem dX7_isLinked_15 : decode cX7_isLinked 15 = .ok (.iload_n 2, 1) := by decide +kernel
theorem dX7_isLinked_16 : decode cX7_isLinked 16 = .ok (.invokevirtual 103, 3) := by decide +kernel
theorem dX7_isLinked_19 : decode cX7_isLinked 19 = .ok (.ifCond .eq 8, 3) := by decide +kernel
theorem dX7_isLinked_22 : decode cX7_isLinked 22 = .ok (.iload_n 1, 1) := by decide +kernel
theorem dX7_isLinked_23 : decode cX7_isLinked 23 = .ok (.iload_n 2, 1) := by decide +kernel
theorem dX7_isLinked_24 : decode cX7_isLinked 24 = .ok (.if_icmp .ne 5, 3) := by decide +kernel
theorem dX7_isLinked_27 : decode cX7_isLinked 27 = .ok (.iconst 0, 1) := by decide +kernel
theorem dX7_isLinked_28 : decode cX7_isLinked 28 = .ok (.ireturn, 1) := by decide +kernel
theorem dX7_isLinked_29 : decode cX7_isLinked 29 = .ok (.aload_n 0, 1) := by decide +kernel
theorem dX7_isLinked_30 : decode cX7_isLinked 30 = .ok (.getfield 12, 3) := by decide +kernel
theorem dX7_isLinked_33 : decode cX7_isLinked 33 = .ok (.iload_n 1, 1) := by decide +kernel
theorem dX7_isLinked_34 : decode cX7_isLinked 34 = .ok (.iload_n 2, 1) := by decide +kernel
theorem dX7_isLinked_35 : decode cX7_isLinked 35 = .ok (.invokevirtual 118, 3) := by decide +kernel
theorem dX7_isLinked_38 : decode cX7_isLinked 38 = .ok (.ifCond .ne 15, 3) := by decide +kernel
theorem dX7_isLinked_41 : decode cX7_isLinked 41 = .ok (.aload_n 0, 1) := by decide +kernel
theorem dX7_isLinked_42 : decode cX7_isLinked 42 = .ok (.getfield 12, 3) := by decide +kernel
theorem dX7_isLinked_45 : decode cX7_isLinked 45 = .ok (.iload_n 2, 1) := by decide +kernel
theorem dX7_isLinked_46 : decode cX7_isLinked 46 = .ok (.iload_n 1, 1) := by decide +kernel
theorem dX7_isLinked_47 : decode cX7_isLinked 47 = .ok (.invokevirtual 121, 3) := by decide +kernel
theorem dX7_isLinked_50 : decode cX7_isLinked 50 = .ok (.ifCond .eq 5, 3) := by decide +kernel
theorem dX7_isLinked_53 : decode cX7_isLinked 53 = .ok (.iconst 0, 1) := by decide +kernel
theorem dX7_isLinked_54 : decode cX7_isLinked 54 = .ok (.ireturn, 1) := by decide +kernel
theorem dX7_isLinked_55 : decode cX7_isLinked 55 = .ok (.aload_n 0, 1) := by decide +kernel
theorem dX7_isLinked_56 : decode cX7_isLinked 56 = .ok (.getfield 12, 3) := by decide +kernel
theorem dX7_isLinked_59 : decode cX7_isLinked 59 = .ok (.iload_n 1, 1) := by decide +kernel
theorem dX7_isLinked_60 : decode cX7_isLinked 60 = .ok (.iload_n 2, 1) := by decide +kernel
theorem dX7_isLinked_61 : decode cX7_isLinked 61 = .ok (.invokevirtual 127, 3) := by decide +kernel
theorem dX7_isLinked_64 : decode cX7_isLinked 64 = .ok (.iconst 1, 1) := by decide +kernel
theorem dX7_isLinked_65 : decode cX7_isLinked 65 = .ok (.ireturn, 1) := by decide +kernel
theorem dX7_isPaired_0 : decode cX7_isPaired 0 = .ok (.aload_n 0, 1) := by decide +kernel
theorem dX7_isPaired_1 : decode cX7_isPaired 1 = .ok (.getfield 12, 3) := by decide +kernel
theorem dX7_isPaired_4 : decode cX7_isPaired 4 = .ok (.iload_n 1, 1) := by decide +kernel
theorem dX7_isPaired_5 : decode cX7_isPaired 5 = .ok (.invokevirtual 103, 3) := by decide +kernel
theorem dX7_isPaired_8 : decode cX7_isPaired 8 = .ok (.ifCond .eq 19, 3) := by decide +kernel
theorem dX7_isPaired_11 : decode cX7_isPaired 11 = .ok (.aload_n 0, 1) := by decide +kernel
theorem dX7_isPaired_12 : decode cX7_isPaired 12 = .ok (.getfield 12, 3) := by decide +kernel
theorem dX7_isPaired_15 : decode cX7_isPaired 15 = .ok (.iload_n 2, 1) := by decide +kernel
theorem dX7_isPaired_16 : decode cX7_isPaired 16 = .ok (.invokevirtual 103, 3) := by decide +kernel
theorem dX7_isPaired_19 : decode cX7_isPaired 19 = .ok (.ifCond .eq 8, 3) := by decide +kernel
theorem dX7_isPaired_22 : decode cX7_isPaired 22 = .ok (.iload_n 1, 1) := by decide +kernel
theorem dX7_isPaired_23 : decode cX7_isPaired 23 = .ok (.iload_n 2, 1) := by decide +kernel
theorem dX7_isPaired_24 : decode cX7_isPaired 24 = .ok (.if_icmp .ne 5, 3) := by decide +kernel
theorem dX7_isPaired_27 : decode cX7_isPaired 27 = .ok (.iconst 0, 1) := by decide +kernel
theorem dX7_isPaired_28 : decode cX7_isPaired 28 = .ok (.ireturn, 1) := by decide +kernel
theorem dX7_isPaired_29 : decode cX7_isPaired 29 = .ok (.aload_n 0, 1) := by decide +kernel
theorem dX7_isPaired_30 : decode cX7_isPaired 30 = .ok (.getfield 12, 3) := by decide +kernel
theorem dX7_isPaired_33 : decode cX7_isPaired 33 = .ok (.iload_n 1, 1) := by decide +kernel
theorem dX7_isPaired_34 : decode cX7_isPaired 34 = .ok (.iload_n 2, 1) := by decide +kernel
theorem dX7_isPaired_35 : decode cX7_isPaired 35 = .ok (.iload_n 3, 1) := by decide +kernel
theorem dX7_isPaired_36 : decode cX7_isPaired 36 = .ok (.invokevirtual 144, 3) := by decide +kernel
theorem dX7_isPaired_39 : decode cX7_isPaired 39 = .ok (.iconst 1, 1) := by decide +kernel
theorem dX7_isPaired_40 : decode cX7_isPaired 40 = .ok (.ireturn, 1) := by decide +kernel
theorem dX7_isPut_0 : decode cX7_isPut 0 = .ok (.aload_n 0, 1) := by decide +kernel
theorem dX7_isPut_1 : decode cX7_isPut 1 = .ok (.getfield 12, 3) := by decide +kernel
theorem dX7_isPut_4 : decode cX7_isPut 4 = .ok (.iload_n 1, 1) := by decide +kernel
theorem dX7_isPut_5 : decode cX7_isPut 5 = .ok (.invokevirtual 103, 3) := by decide +kernel
theorem dX7_isPut_8 : decode cX7_isPut 8 = .ok (.ifCond .eq 10, 3) := by decide +kernel
theorem dX7_isPut_11 : decode cX7_isPut 11 = .ok (.iload_n 2, 1) := by decide +kernel
theorem dX7_isPut_12 : decode cX7_isPut 12 = .ok (.invokestatic 82, 3) := by decide +kernel
theorem dX7_isPut_15 : decode cX7_isPut 15 = .ok (.ifCond .ne 5, 3) := by decide +kernel
theorem dX7_isPut_18 : decode cX7_isPut 18 = .ok (.iconst 0, 1) := by decide +kernel
theorem dX7_isPut_19 : decode cX7_isPut 19 = .ok (.ireturn, 1) := by decide +kernel
theorem dX7_isPut_20 : decode cX7_isPut 20 = .ok (.aload_n 0, 1) := by decide +kernel
theorem dX7_isPut_21 : decode cX7_isPut 21 = .ok (.getfield 24, 3) := by decide +kernel
theorem dX7_isPut_24 : decode cX7_isPut 24 = .ok (.iload_n 1, 1) := by decide +kernel
theorem dX7_isPut_25 : decode cX7_isPut 25 = .ok (.iload_n 2, 1) := by decide +kernel
theorem dX7_isPut_26 : decode cX7_isPut 26 = .ok (.invokevirtual 184, 3) := by decide +kernel
theorem dX7_isPut_29 : decode cX7_isPut 29 = .ok (.istore_n 3, 1) := by decide +kernel
theorem dX7_isPut_30 : decode cX7_isPut 30 = .ok (.aload_n 0, 1) := by decide +kernel
theorem dX7_isPut_31 : decode cX7_isPut 31 = .ok (.iload_n 3, 1) := by decide +kernel
theorem dX7_isPut_32 : decode cX7_isPut 32 = .ok (.invokevirtual 187, 3) := by decide +kernel
theorem dX7_isPut_35 : decode cX7_isPut 35 = .ok (.iload_n 3, 1) := by decide +kernel
theorem dX7_isPut_36 : decode cX7_isPut 36 = .ok (.ifCond .ne 13, 3) := by decide +kernel
theorem dX7_isPut_39 : decode cX7_isPut 39 = .ok (.aload_n 0, 1) := by decide +kernel
theorem dX7_isPut_40 : decode cX7_isPut 40 = .ok (.getfield 12, 3) := by decide +kernel
theorem dX7_isPut_43 : decode cX7_isPut 43 = .ok (.getfield 160, 3) := by decide +kernel
theorem dX7_isPut_46 : decode cX7_isPut 46 = .ok (.iload_n 1, 1) := by decide +kernel
theorem dX7_isPut_47 : decode cX7_isPut 47 = .ok (.iload_n 2, 1) := by decide +kernel
theorem dX7_isPut_48 : decode cX7_isPut 48 = .ok (.iastore, 1) := by decide +kernel
theorem dX7_isPut_49 : decode cX7_isPut 49 = .ok (.iload_n 3, 1) := by decide +kernel
theorem dX7_isPut_50 : decode cX7_isPut 50 = .ok (.ifCond .ne 7, 3) := by decide +kernel
theorem dX7_isPut_53 : decode cX7_isPut 53 = .ok (.iconst 1, 1) := by decide +kernel
theorem dX7_isPut_54 : decode cX7_isPut 54 = .ok (.goto 4, 3) := by decide +kernel
theorem dX7_isPut_57 : decode cX7_isPut 57 = .ok (.iconst 0, 1) := by decide +kernel
theorem dX7_isPut_58 : decode cX7_isPut 58 = .ok (.ireturn, 1) := by decide +kernel
theorem dX7_isCycleSet_0 : decode cX7_isCycleSet 0 = .ok (.iconst 0, 1) := by decide +kernel
theorem dX7_isCycleSet_1 : decode cX7_isCycleSet 1 = .ok (.iload_n 1, 1) := by decide +kernel
theorem dX7_isCycleSet_2 : decode cX7_isCycleSet 2 = .ok (.invokestatic 71, 3) := by decide +kernel
theorem dX7_isCycleSet_5 : decode cX7_isCycleSet 5 = .ok (.ifCond .ne 5, 3) := by decide +kernel
theorem dX7_isCycleSet_8 : decode cX7_isCycleSet 8 = .ok (.iconst 0, 1) := by decide +kernel
theorem dX7_isCycleSet_9 : decode cX7_isCycleSet 9 = .ok (.ireturn, 1) := by decide +kernel
theorem dX7_isCycleSet_10 : decode cX7_isCycleSet 10 = .ok (.aload_n 0, 1) := by decide +kernel
theorem dX7_isCycleSet_11 : decode cX7_isCycleSet 11 = .ok (.getfield 12, 3) := by decide +kernel
theorem dX7_isCycleSet_14 : decode cX7_isCycleSet 14 = .ok (.getfield 75, 3) := by decide +kernel
theorem dX7_isCycleSet_17 : decode cX7_isCycleSet 17 = .ok (.iconst 0, 1) := by decide +kernel
theorem dX7_isCycleSet_18 : decode cX7_isCycleSet 18 = .ok (.iload_n 1, 1) := by decide +kernel
theorem dX7_isCycleSet_19 : decode cX7_isCycleSet 19 = .ok (.iastore, 1) := by decide +kernel
theorem dX7_isCycleSet_20 : decode cX7_isCycleSet 20 = .ok (.iconst 1, 1) := by decide +kernel
theorem dX7_isCycleSet_21 : decode cX7_isCycleSet 21 = .ok (.ireturn, 1) := by decide +kernel
end
section
theorem dX8_init_0 : decode cX8_init 0 = .ok (.aload_n 0, 1) := by decide +kernel
theorem dX8_init_1 : decode cX8_init 1 = .ok (.invokespecial 1, 3) := by decide +kernel
theorem dX8_init_4 : decode cX8_init 4 = .ok (.aload_n 0, 1) := by decide +kernel
theorem dX8_init_5 : decode cX8_init 5 = .ok (.bipush 113, 2) := by decide +kernel
theorem dX8_init_7 : decode cX8_init 7 = .ok (.newarray .int, 2) := by decide +kernel
theorem dX8_init_9 : decode cX8_init 9 = .ok (.putfield 7, 3) := by decide +kernel
theorem dX8_init_12 : decode cX8_init 12 = .ok (.aload_n 0, 1) := by decide +kernel
theorem dX8_init_13 : decode cX8_init 13 = .ok (.bipush 113, 2) := by decide +kernel
theorem dX8_init_15 : decode cX8_init 15 = .ok (.newarray .int, 2) := by decide +kernel
theorem dX8_init_17 : decode cX8_init 17 = .ok (.putfield 13, 3) := by decide +kernel
theorem dX8_init_20 : decode cX8_init 20 = .ok (.aload_n 0, 1) := by decide +kernel
theorem dX8_init_21 : decode cX8_init 21 = .ok (.sipush 904, 3) := by decide +kernel
theorem dX8_init_24 : decode cX8_init 24 = .ok (.newarray .int, 2) := by decide +kernel
theorem dX8_init_26 : decode cX8_init 26 = .ok (.putfield 16, 3) := by decide +kernel
theorem dX8_init_29 : decode cX8_init 29 = .ok (.aload_n 0, 1) := by decide +kernel
theorem dX8_init_30 : decode cX8_init 30 = .ok (.bipush 113, 2) := by decide +kernel
theorem dX8_init_32 : decode cX8_init 32 = .ok (.newarray .int, 2) := by decide +kernel
theorem dX8_init_34 : decode cX8_init 34 = .ok (.putfield 19, 3) := by decide +kernel
theorem dX8_init_37 : decode cX8_init 37 = .ok (.aload_n 0, 1) := by decide +kernel
theorem dX8_init_38 : decode cX8_init 38 = .ok (.bipush 12, 2) := by decide +kernel
theorem dX8_init_40 : decode cX8_init 40 = .ok (.newarray .int, 2) := by decide +kernel
theorem dX8_init_42 : decode cX8_init 42 = .ok (.putfield 22, 3) := by decide +kernel
theorem dX8_init_45 : decode cX8_init 45 = .ok (.aload_n 0, 1) := by decide +kernel
theorem dX8_init_46 : decode cX8_init 46 = .ok (.bipush 12, 2) := by decide +kernel
theorem dX8_init_48 : decode cX8_init 48 = .ok (.newarray .int, 2) := by decide +kernel
theorem dX8_init_50 : decode cX8_init 50 = .ok (.putfield 25, 3) := by decide +kernel
theorem dX8_init_53 : decode cX8_init 53 = .ok (.aload_n 0, 1) := by decide +kernel
theorem dX8_init_54 : decode cX8_init 54 = .ok (.sipush 256, 3) := by decide +kernel
theorem dX8_init_57 : decode cX8_init 57 = .ok (.newarray .boolean, 2) := by decide +kernel
theorem dX8_init_59 : decode cX8_init 59 = .ok (.putfield 28, 3) := by decide +kernel
theorem dX8_init_62 : decode cX8_init 62 = .ok (.aload_n 0, 1) := by decide +kernel
theorem dX8_init_63 : decode cX8_init 63 = .ok (.sipush 1024, 3) := by decide +kernel
theorem dX8_init_66 : decode cX8_init 66 = .ok (.newarray .boolean, 2) := by decide +kernel
theorem dX8_init_68 : decode cX8_init 68 = .ok (.putfield 32, 3) := by decide +kernel
theorem dX8_init_71 : decode cX8_init 71 = .ok (.aload_n 0, 1) := by decide +kernel
theorem dX8_init_72 : decode cX8_init 72 = .ok (.sipush 256, 3) := by decide +kernel
theorem dX8_init_75 : decode cX8_init 75 = .ok (.newarray .long, 2) := by decide +kernel
theorem dX8_init_77 : decode cX8_init 77 = .ok (.putfield 35, 3) := by decide +kernel
theorem dX8_init_80 : decode cX8_init 80 = .ok (.aload_n 0, 1) := by decide +kernel
theorem dX8_init_81 : decode cX8_init 81 = .ok (.sipush 256, 3) := by decide +kernel
theorem dX8_init_84 : decode cX8_init 84 = .ok (.newarray .long, 2) := by decide +kernel
theorem dX8_init_86 : decode cX8_init 86 = .ok (.putfield 39, 3) := by decide +kernel
theorem dX8_init_89 : decode cX8_init 89 = .ok (.aload_n 0, 1) := by decide +kernel
theorem dX8_init_90 : decode cX8_init 90 = .ok (.bipush 8, 2) := by decide +kernel
theorem dX8_init_92 : decode cX8_init 92 = .ok (.newarray .int, 2) := by decide +kernel
theorem dX8_init_94 : decode cX8_init 94 = .ok (.putfield 42, 3) := by decide +kernel
theorem dX8_init_97 : decode cX8_init 97 = .ok (.aload_n 0, 1) := by decide +kernel
theorem dX8_init_98 : decode cX8_init 98 = .ok (.bipush 80, 2) := by decide +kernel
theorem dX8_init_100 : decode cX8_init 100 = .ok (.newarray .char, 2) := by decide +kernel
theorem dX8_init_102 : decode cX8_init 102 = .ok (.putfield 45, 3) := by decide +kernel
theorem dX8_init_105 : decode cX8_init 105 = .ok (.aload_n 0, 1) := by decide +kernel
theorem dX8_init_106 : decode cX8_init 106 = .ok (.iconst 4, 1) := by decide +kernel
theorem dX8_init_107 : decode cX8_init 107 = .ok (.newarray .int, 2) := by decide +kernel
theorem dX8_init_109 : decode cX8_init 109 = .ok (.putfield 49, 3) := by decide +kernel
theorem dX8_init_112 : decode cX8_init 112 = .ok (.aload_n 0, 1) := by decide +kernel
theorem dX8_init_113 : decode cX8_init 113 = .ok (.bipush 6, 2) := by decide +kernel
theorem dX8_init_115 : decode cX8_init 115 = .ok (.anewarray 52, 3) := by decide +kernel
theorem dX8_init_118 : decode cX8_init 118 = .ok (.dup, 1) := by decide +kernel
theorem dX8_init_119 : decode cX8_init 119 = .ok (.iconst 0, 1) := by decide +kernel
theorem dX8_init_120 : decode cX8_init 120 = .ok (.ldc 54, 2) := by decide +kernel
theorem dX8_init_122 : decode cX8_init 122 = .ok (.aastore, 1) := by decide +kernel
theorem dX8_init_123 : decode cX8_init 123 = .ok (.dup, 1) := by decide +kernel
theorem dX8_init_124 : decode cX8_init 124 = .ok (.iconst 1, 1) := by decide +kernel
theorem dX8_init_125 : decode cX8_init 125 = .ok (.ldc 56, 2) := by decide +kernel
theorem dX8_init_127 : decode cX8_init 127 = .ok (.aastore, 1) := by decide +kernel
theorem dX8_init_128 : decode cX8_init 128 = .ok (.dup, 1) := by decide +kernel
theorem dX8_init_129 : decode cX8_init 129 = .ok (.iconst 2, 1) := by decide +kernel
theorem dX8_init_130 : decode cX8_init 130 = .ok (.ldc 58, 2) := by decide +kernel
theorem dX8_init_132 : decode cX8_init 132 = .ok (.aastore, 1) := by decide +kernel
theorem dX8_init_133 : decode cX8_init 133 = .ok (.dup, 1) := by decide +kernel
theorem dX8_init_134 : decode cX8_init 134 = .ok (.iconst 3, 1) := by decide +kernel
theorem dX8_init_135 : decode cX8_init 135 = .ok (.ldc 60, 2) := by decide +kernel
theorem dX8_init_137 : decode cX8_init 137 = .ok (.aastore, 1) := by decide +kernel
theorem dX8_init_138 : decode cX8_init 138 = .ok (.dup, 1) := by decide +kernel
theorem dX8_init_139 : decode cX8_init 139 = .ok (.iconst 4, 1) := by decide +kernel
theorem dX8_init_140 : decode cX8_init 140 = .ok (.ldc 62, 2) := by decide +kernel
theorem dX8_init_142 : decode cX8_init 142 = .ok (.aastore, 1) := by decide +kernel
theorem dX8_init_143 : decode cX8_init 143 = .ok (.dup, 1) := by decide +kernel
theorem dX8_init_144 : decode cX8_init 144 = .ok (.iconst 5, 1) := by decide +kernel
theorem dX8_init_145 : decode cX8_init 145 = .ok (.ldc 64, 2) := by decide +kernel
theorem dX8_init_147 : decode cX8_init 147 = .ok (.aastore, 1) := by decide +kernel
theorem dX8_init_148 : decode cX8_init 148 = .ok (.putfield 66, 3) := by decide +kernel
theorem dX8_init_151 : decode cX8_init 151 = .ok (.aload_n 0, 1) := by decide +kernel
theorem dX8_init_152 : decode cX8_init 152 = .ok (.getfield 7, 3) := by decide +kernel
theorem dX8_init_155 : decode cX8_init 155 = .ok (.iconst 0, 1) := by decide +kernel
theorem dX8_init_156 : decode cX8_init 156 = .ok (.iconst 1, 1) := by decide +kernel
theorem dX8_init_157 : decode cX8_init 157 = .ok (.iastore, 1) := by decide +kernel
theorem dX8_init_158 : decode cX8_init 158 = .ok (.iconst 0, 1) := by decide +kernel
theorem dX8_init_159 : decode cX8_init 159 = .ok (.istore_n 1, 1) := by decide +kernel
theorem dX8_init_160 : decode cX8_init 160 = .ok (.iload_n 1, 1) := by decide +kernel
theorem dX8_init_161 : decode cX8_init 161 = .ok (.iconst 3, 1) := by decide +kernel
theorem dX8_init_162 : decode cX8_init 162 = .ok (.if_icmp .ge 18, 3) := by decide +kernel
theorem dX8_init_165 : decode cX8_init 165 = .ok (.aload_n 0, 1) := by decide +kernel
theorem dX8_init_166 : decode cX8_init 166 = .ok (.getfield 7, 3) := by decide +kernel
theorem dX8_init_169 : decode cX8_init 169 = .ok (.iconst 1, 1) := by decide +kernel
theorem dX8_init_170 : decode cX8_init 170 = .ok (.iload_n 1, 1) := by decide +kernel
theorem dX8_init_171 : decode cX8_init 171 = .ok (.iadd, 1) := by decide +kernel
theorem dX8_init_172 : decode cX8_init 172 = .ok (.iconst 1, 1) := by decide +kernel
theorem dX8_init_173 : decode cX8_init 173 = .ok (.iastore, 1) := by decide +kernel
theorem dX8_init_174 : decode cX8_init 174 = .ok (.iinc 1 1, 3) := by decide +kernel
theorem dX8_init_177 : decode cX8_init 177 = .ok (.goto (-17), 3) := by decide +kernel
theorem dX8_init_180 : decode cX8_init 180 = .ok (.aload_n 0, 1) := by decide +kernel
theorem dX8_init_181 : decode cX8_init 181 = .ok (.getfield 7, 3) := by decide +kernel
theorem dX8_init_184 : decode cX8_init 184 = .ok (.iconst 4, 1) := by decide +kernel
theorem dX8_init_185 : decode cX8_init 185 = .ok (.bipush 60, 2) := by decide +kernel
theorem dX8_init_187 : decode cX8_init 187 = .ok (.iastore, 1) := by decide +kernel
theorem dX8_init_188 : decode cX8_init 188 = .ok (.aload_n 0, 1) := by decide +kernel
theorem dX8_init_189 : decode cX8_init 189 = .ok (.getfield 7, 3) := by decide +kernel
theorem dX8_init_192 : decode cX8_init 192 = .ok (.iconst 5, 1) := by decide +kernel
theorem dX8_init_193 : decode cX8_init 193 = .ok (.iconst 2, 1) := by decide +kernel
theorem dX8_init_194 : decode cX8_init 194 = .ok (.iastore, 1) := by decide +kernel
theorem dX8_init_195 : decode cX8_init 195 = .ok (.aload_n 0, 1) := by decide +kernel
theorem dX8_init_196 : decode cX8_init 196 = .ok (.getfield 7, 3) := by decide +kernel
theorem dX8_init_199 : decode cX8_init 199 = .ok (.bipush 6, 2) := by decide +kernel
theorem dX8_init_201 : decode cX8_init 201 = .ok (.iconst 5, 1) := by decide +kernel
theorem dX8_init_202 : decode cX8_init 202 = .ok (.iastore, 1) := by decide +kernel
theorem dX8_init_203 : decode cX8_init 203 = .ok (.iconst 0, 1) := by decide +kernel
theorem dX8_init_204 : decode cX8_init 204 = .ok (.istore_n 1, 1) := by decide +kernel
theorem dX8_init_205 : decode cX8_init 205 = .ok (.iload_n 1, 1) := by decide +kernel
theorem dX8_init_206 : decode cX8_init 206 = .ok (.bipush 8, 2) := by decide +kernel
theorem dX8_init_208 : decode cX8_init 208 = .ok (.if_icmp .ge 19, 3) := by decide +kernel
theorem dX8_init_211 : decode cX8_init 211 = .ok (.aload_n 0, 1) := by decide +kernel
theorem dX8_init_212 : decode cX8_init 212 = .ok (.getfield 7, 3) := by decide +kernel
theorem dX8_init_215 : decode cX8_init 215 = .ok (.bipush 8, 2) := by decide +kernel
theorem dX8_init_217 : decode cX8_init 217 = .ok (.iload_n 1, 1) := by decide +kernel
theorem dX8_init_218 : decode cX8_init 218 = .ok (.iadd, 1) := by decide +kernel
theorem dX8_init_219 : decode cX8_init 219 = .ok (.iconst 1, 1) := by decide +kernel
theorem dX8_init_220 : decode cX8_init 220 = .ok (.iastore, 1) := by decide +kernel
theorem dX8_init_221 : decode cX8_init 221 = .ok (.iinc 1 1, 3) := by decide +kernel
theorem dX8_init_224 : decode cX8_init 224 = .ok (.goto (-19), 3) := by decide +kernel
theorem dX8_init_227 : decode cX8_init 227 = .ok (.return_, 1) := by decide +kernel
theorem dX8_thrown_0 : decode cX8_thrown 0 = .ok (.aload_n 0, 1) := by decide +kernel
theorem dX8_thrown_1 : decode cX8_thrown 1 = .ok (.getfield 70, 3) := by decide +kernel
theorem dX8_thrown_4 : decode cX8_thrown 4 = .ok (.ireturn, 1) := by decide +kernel
theorem dX8_fails_0 : decode cX8_fails 0 = .ok (.aload_n 0, 1) := by decide +kernel
theorem dX8_fails_1 : decode cX8_fails 1 = .ok (.iload_n 1, 1) := by decide +kernel
theorem dX8_fails_2 : decode cX8_fails 2 = .ok (.putfield 70, 3) := by decide +kernel
theorem dX8_fails_5 : decode cX8_fails 5 = .ok (.iconst 0, 1) := by decide +kernel
theorem dX8_fails_6 : decode cX8_fails 6 = .ok (.ireturn, 1) := by decide +kernel
theorem dX8_done_0 : decode cX8_done 0 = .ok (.aload_n 0, 1) := by decide +kernel
theorem dX8_done_1 : decode cX8_done 1 = .ok (.iconst 0, 1) := by decide +kernel
theorem dX8_done_2 : decode cX8_done 2 = .ok (.putfield 70, 3) := by decide +kernel
theorem dX8_done_5 : decode cX8_done 5 = .ok (.iload_n 1, 1) := by decide +kernel
theorem dX8_done_6 : decode cX8_done 6 = .ok (.ireturn, 1) := by decide +kernel
theorem dX8_in_0 : decode cX8_in 0 = .ok (.iload_n 0, 1) := by decide +kernel
theorem dX8_in_1 : decode cX8_in 1 = .ok (.iload_n 1, 1) := by decide +kernel
theorem dX8_in_2 : decode cX8_in 2 = .ok (.if_icmp .lt 12, 3) := by decide +kernel
theorem dX8_in_5 : decode cX8_in 5 = .ok (.iload_n 0, 1) := by decide +kernel
theorem dX8_in_6 : decode cX8_in 6 = .ok (.iload_n 2, 1) := by decide +kernel
theorem dX8_in_7 : decode cX8_in 7 = .ok (.if_icmp .gt 7, 3) := by decide +kernel
theorem dX8_in_10 : decode cX8_in 10 = .ok (.iconst 1, 1) := by decide +kernel
theorem dX8_in_11 : decode cX8_in 11 = .ok (.goto 4, 3) := by decide +kernel
theorem dX8_in_14 : decode cX8_in 14 = .ok (.iconst 0, 1) := by decide +kernel
theorem dX8_in_15 : decode cX8_in 15 = .ok (.ireturn, 1) := by decide +kernel
theorem dX8_isTask_0 : decode cX8_isTask 0 = .ok (.iload_n 1, 1) := by decide +kernel
theorem dX8_isTask_1 : decode cX8_isTask 1 = .ok (.iconst 0, 1) := by decide +kernel
theorem dX8_isTask_2 : decode cX8_isTask 2 = .ok (.aload_n 0, 1) := by decide +kernel
theorem dX8_isTask_3 : decode cX8_isTask 3 = .ok (.getfield 7, 3) := by decide +kernel
theorem dX8_isTask_6 : decode cX8_isTask 6 = .ok (.bipush 16, 2) := by decide +kernel
theorem dX8_isTask_8 : decode cX8_isTask 8 = .ok (.iaload, 1) := by decide +kernel
theorem dX8_isTask_9 : decode cX8_isTask 9 = .ok (.iconst 1, 1) := by decide +kernel
theorem dX8_isTask_10 : decode cX8_isTask 10 = .ok (.isub, 1) := by decide +kernel
theorem dX8_isTask_11 : decode cX8_isTask 11 = .ok (.invokestatic 74, 3) := by decide +kernel
theorem dX8_isTask_14 : decode cX8_isTask 14 = .ok (.ireturn, 1) := by decide +kernel
theorem dX8_isStation_0 : decode cX8_isStation 0 = .ok (.iload_n 0, 1) := by decide +kernel
theorem dX8_isStation_1 : decode cX8_isStation 1 = .ok (.iconst 0, 1) := by decide +kernel
theorem dX8_isStation_2 : decode cX8_isStation 2 = .ok (.bipush 7, 2) := by decide +kernel
theorem dX8_isStation_4 : decode cX8_isStation 4 = .ok (.invokestatic 74, 3) := by decide +kernel
theorem dX8_isStation_7 : decode cX8_isStation 7 = .ok (.ireturn, 1) := by decide +kernel
theorem dX8_of_0 : decode cX8_of 0 = .ok (.aload_n 0, 1) := by decide +kernel
theorem dX8_of_1 : decode cX8_of 1 = .ok (.getfield 7, 3) := by decide +kernel
theorem dX8_of_4 : decode cX8_of 4 = .ok (.bipush 17, 2) := by decide +kernel
theorem dX8_of_6 : decode cX8_of 6 = .ok (.iconst 5, 1) := by decide +kernel
theorem dX8_of_7 : decode cX8_of 7 = .ok (.iload_n 1, 1) := by decide +kernel
theorem dX8_of_8 : decode cX8_of 8 = .ok (.imul, 1) := by decide +kernel
theorem dX8_of_9 : decode cX8_of 9 = .ok (.iadd, 1) := by decide +kernel
theorem dX8_of_10 : decode cX8_of 10 = .ok (.iload_n 2, 1) := by decide +kernel
theorem dX8_of_11 : decode cX8_of 11 = .ok (.iadd, 1) := by decide +kernel
theorem dX8_of_12 : decode cX8_of 12 = .ok (.iaload, 1) := by decide +kernel
theorem dX8_of_13 : decode cX8_of 13 = .ok (.ireturn, 1) := by decide +kernel
theorem dX8_sets_0 : decode cX8_sets 0 = .ok (.aload_n 0, 1) := by decide +kernel
theorem dX8_sets_1 : decode cX8_sets 1 = .ok (.getfield 7, 3) := by decide +kernel
theorem dX8_sets_4 : decode cX8_sets 4 = .ok (.bipush 17, 2) := by decide +kernel
theorem dX8_sets_6 : decode cX8_sets 6 = .ok (.iconst 5, 1) := by decide +kernel
theorem dX8_sets_7 : decode cX8_sets 7 = .ok (.iload_n 1, 1) := by decide +kernel
theorem dX8_sets_8 : decode cX8_sets 8 = .ok (.imul, 1) := by decide +kernel
theorem dX8_sets_9 : decode cX8_sets 9 = .ok (.iadd, 1) := by decide +kernel
theorem dX8_sets_10 : decode cX8_sets 10 = .ok (.iload_n 2, 1) := by decide +kernel
theorem dX8_sets_11 : decode cX8_sets 11 = .ok (.iadd, 1) := by decide +kernel
theorem dX8_sets_12 : decode cX8_sets 12 = .ok (.iload_n 3, 1) := by decide +kernel
theorem dX8_sets_13 : decode cX8_sets 13 = .ok (.iastore, 1) := by decide +kernel
theorem dX8_sets_14 : decode cX8_sets 14 = .ok (.return_, 1) := by decide +kernel
theorem dX8_remembers_0 : decode cX8_remembers 0 = .ok (.iconst 0, 1) := by decide +kernel
theorem dX8_remembers_1 : decode cX8_remembers 1 = .ok (.istore_n 1, 1) := by decide +kernel
theorem dX8_remembers_2 : decode cX8_remembers 2 = .ok (.iload_n 1, 1) := by decide +kernel
theorem dX8_remembers_3 : decode cX8_remembers 3 = .ok (.bipush 113, 2) := by decide +kernel
theorem dX8_remembers_5 : decode cX8_remembers 5 = .ok (.if_icmp .ge 21, 3) := by decide +kernel
theorem dX8_remembers_8 : decode cX8_remembers 8 = .ok (.aload_n 0, 1) := by decide +kernel
theorem dX8_remembers_9 : decode cX8_remembers 9 = .ok (.getfield 13, 3) := by decide +kernel
theorem dX8_remembers_12 : decode cX8_remembers 12 = .ok (.iload_n 1, 1) := by decide +kernel
theorem dX8_remembers_13 : decode cX8_remembers 13 = .ok (.aload_n 0, 1) := by decide +kernel
theorem dX8_remembers_14 : decode cX8_remembers 14 = .ok (.getfield 7, 3) := by decide +kernel
theorem dX8_remembers_17 : decode cX8_remembers 17 = .ok (.iload_n 1, 1) := by decide +kernel
theorem dX8_remembers_18 : decode cX8_remembers 18 = .ok (.iaload, 1) := by decide +kernel
theorem dX8_remembers_19 : decode cX8_remembers 19 = .ok (.iastore, 1) := by decide +kernel
theorem dX8_remembers_20 : decode cX8_remembers 20 = .ok (.iinc 1 1, 3) := by decide +kernel
theorem dX8_remembers_23 : decode cX8_remembers 23 = .ok (.goto (-21), 3) := by decide +kernel
theorem dX8_remembers_26 : decode cX8_remembers 26 = .ok (.return_, 1) := by decide +kernel
theorem dX8_brings_0 : decode cX8_brings 0 = .ok (.iconst 0, 1) := by decide +kernel
theorem dX8_brings_1 : decode cX8_brings 1 = .ok (.istore_n 1, 1) := by decide +kernel
theorem dX8_brings_2 : decode cX8_brings 2 = .ok (.iload_n 1, 1) := by decide +kernel
theorem dX8_brings_3 : decode cX8_brings 3 = .ok (.bipush 113, 2) := by decide +kernel
theorem dX8_brings_5 : decode cX8_brings 5 = .ok (.if_icmp .ge 21, 3) := by decide +kernel
theorem dX8_brings_8 : decode cX8_brings 8 = .ok (.aload_n 0, 1) := by decide +kernel
theorem dX8_brings_9 : decode cX8_brings 9 = .ok (.getfield 7, 3) := by decide +kernel
theorem dX8_brings_12 : decode cX8_brings 12 = .ok (.iload_n 1, 1) := by decide +kernel
theorem dX8_brings_13 : decode cX8_brings 13 = .ok (.aload_n 0, 1) := by decide +kernel
theorem dX8_brings_14 : decode cX8_brings 14 = .ok (.getfield 13, 3) := by decide +kernel
theorem dX8_brings_17 : decode cX8_brings 17 = .ok (.iload_n 1, 1) := by decide +kernel
theorem dX8_brings_18 : decode cX8_brings 18 = .ok (.iaload, 1) := by decide +kernel
theorem dX8_brings_19 : decode cX8_brings 19 = .ok (.iastore, 1) := by decide +kernel
theorem dX8_brings_20 : decode cX8_brings 20 = .ok (.iinc 1 1, 3) := by decide +kernel
theorem dX8_brings_23 : decode cX8_brings 23 = .ok (.goto (-21), 3) := by decide +kernel
theorem dX8_brings_26 : decode cX8_brings 26 = .ok (.return_, 1) := by decide +kernel
theorem dX8_keeps_0 : decode cX8_keeps 0 = .ok (.aload_n 0, 1) := by decide +kernel
theorem dX8_keeps_1 : decode cX8_keeps 1 = .ok (.getfield 78, 3) := by decide +kernel
theorem dX8_keeps_4 : decode cX8_keeps 4 = .ok (.bipush 8, 2) := by decide +kernel
theorem dX8_keeps_6 : decode cX8_keeps 6 = .ok (.if_icmp .ne 43, 3) := by decide +kernel
theorem dX8_keeps_9 : decode cX8_keeps 9 = .ok (.iconst 0, 1) := by decide +kernel
theorem dX8_keeps_10 : decode cX8_keeps 10 = .ok (.istore_n 1, 1) := by decide +kernel
theorem dX8_keeps_11 : decode cX8_keeps 11 = .ok (.iload_n 1, 1) := by decide +kernel
theorem dX8_keeps_12 : decode cX8_keeps 12 = .ok (.sipush 791, 3) := by decide +kernel
theorem dX8_keeps_15 : decode cX8_keeps 15 = .ok (.if_icmp .ge 24, 3) := by decide +kernel
theorem dX8_keeps_18 : decode cX8_keeps 18 = .ok (.aload_n 0, 1) := by decide +kernel
theorem dX8_keeps_19 : decode cX8_keeps 19 = .ok (.getfield 16, 3) := by decide +kernel
theorem dX8_keeps_22 : decode cX8_keeps 22 = .ok (.iload_n 1, 1) := by decide +kernel
theorem dX8_keeps_23 : decode cX8_keeps 23 = .ok (.aload_n 0, 1) := by decide +kernel
theorem dX8_keeps_24 : decode cX8_keeps 24 = .ok (.getfield 16, 3) := by decide +kernel
theorem dX8_keeps_27 : decode cX8_keeps 27 = .ok (.iload_n 1, 1) := by decide +kernel
theorem dX8_keeps_28 : decode cX8_keeps 28 = .ok (.bipush 113, 2) := by decide +kernel
theorem dX8_keeps_30 : decode cX8_keeps 30 = .ok (.iadd, 1) := by decide +kernel
theorem dX8_keeps_31 : decode cX8_keeps 31 = .ok (.iaload, 1) := by decide +kernel
theorem dX8_keeps_32 : decode cX8_keeps 32 = .ok (.iastore, 1) := by decide +kernel
theorem dX8_keeps_33 : decode cX8_keeps 33 = .ok (.iinc 1 1, 3) := by decide +kernel
theorem dX8_keeps_36 : decode cX8_keeps 36 = .ok (.goto (-25), 3) := by decide +kernel
theorem dX8_keeps_39 : decode cX8_keeps 39 = .ok (.aload_n 0, 1) := by decide +kernel
theorem dX8_keeps_40 : decode cX8_keeps 40 = .ok (.dup, 1) := by decide +kernel
theorem dX8_keeps_41 : decode cX8_keeps 41 = .ok (.getfield 78, 3) := by decide +kernel
theorem dX8_keeps_44 : decode cX8_keeps 44 = .ok (.iconst 1, 1) := by decide +kernel
theorem dX8_keeps_45 : decode cX8_keeps 45 = .ok (.isub, 1) := by decide +kernel
theorem dX8_keeps_46 : decode cX8_keeps 46 = .ok (.putfield 78, 3) := by decide +kernel
theorem dX8_keeps_49 : decode cX8_keeps 49 = .ok (.iconst 0, 1) := by decide +kernel
theorem dX8_keeps_50 : decode cX8_keeps 50 = .ok (.istore_n 1, 1) := by decide +kernel
theorem dX8_keeps_51 : decode cX8_keeps 51 = .ok (.iload_n 1, 1) := by decide +kernel
theorem dX8_keeps_52 : decode cX8_keeps 52 = .ok (.bipush 113, 2) := by decide +kernel
theorem dX8_keeps_54 : decode cX8_keeps 54 = .ok (.if_icmp .ge 29, 3) := by decide +kernel
theorem dX8_keeps_57 : decode cX8_keeps 57 = .ok (.aload_n 0, 1) := by decide +kernel
theorem dX8_keeps_58 : decode cX8_keeps 58 = .ok (.getfield 16, 3) := by decide +kernel
theorem dX8_keeps_61 : decode cX8_keeps 61 = .ok (.bipush 113, 2) := by decide +kernel
theorem dX8_keeps_63 : decode cX8_keeps 63 = .ok (.aload_n 0, 1) := by decide +kernel
theorem dX8_keeps_64 : decode cX8_keeps 64 = .ok (.getfield 78, 3) := by decide +kernel
theorem dX8_keeps_67 : decode cX8_keeps 67 = .ok (.imul, 1) := by decide +kernel
theorem dX8_keeps_68 : decode cX8_keeps 68 = .ok (.iload_n 1, 1) := by decide +kernel
theorem dX8_keeps_69 : decode cX8_keeps 69 = .ok (.iadd, 1) := by decide +kernel
theorem dX8_keeps_70 : decode cX8_keeps 70 = .ok (.aload_n 0, 1) := by decide +kernel
theorem dX8_keeps_71 : decode cX8_keeps 71 = .ok (.getfield 13, 3) := by decide +kernel
theorem dX8_keeps_74 : decode cX8_keeps 74 = .ok (.iload_n 1, 1) := by decide +kernel
theorem dX8_keeps_75 : decode cX8_keeps 75 = .ok (.iaload, 1) := by decide +kernel
theorem dX8_keeps_76 : decode cX8_keeps 76 = .ok (.iastore, 1) := by decide +kernel
theorem dX8_keeps_77 : decode cX8_keeps 77 = .ok (.iinc 1 1, 3) := by decide +kernel
theorem dX8_keeps_80 : decode cX8_keeps 80 = .ok (.goto (-29), 3) := by decide +kernel
theorem dX8_keeps_83 : decode cX8_keeps 83 = .ok (.aload_n 0, 1) := by decide +kernel
theorem dX8_keeps_84 : decode cX8_keeps 84 = .ok (.dup, 1) := by decide +kernel
theorem dX8_keeps_85 : decode cX8_keeps 85 = .ok (.getfield 78, 3) := by decide +kernel
theorem dX8_keeps_88 : decode cX8_keeps 88 = .ok (.iconst 1, 1) := by decide +kernel
theorem dX8_keeps_89 : decode cX8_keeps 89 = .ok (.iadd, 1) := by decide +kernel
theorem dX8_keeps_90 : decode cX8_keeps 90 = .ok (.putfield 78, 3) := by decide +kernel
theorem dX8_keeps_93 : decode cX8_keeps 93 = .ok (.return_, 1) := by decide +kernel
theorem dX8_changed_0 : decode cX8_changed 0 = .ok (.aload_n 0, 1) := by decide +kernel
theorem dX8_changed_1 : decode cX8_changed 1 = .ok (.getfield 70, 3) := by decide +kernel
theorem dX8_changed_4 : decode cX8_changed 4 = .ok (.ifCond .ne 7, 3) := by decide +kernel
theorem dX8_changed_7 : decode cX8_changed 7 = .ok (.aload_n 0, 1) := by decide +kernel
theorem dX8_changed_8 : decode cX8_changed 8 = .ok (.invokevirtual 81, 3) := by decide +kernel
theorem dX8_changed_11 : decode cX8_changed 11 = .ok (.iload_n 1, 1) := by decide +kernel
theorem dX8_changed_12 : decode cX8_changed 12 = .ok (.ireturn, 1) := by decide +kernel
theorem dX8_setModels_0 : decode cX8_setModels 0 = .ok (.aload_n 0, 1) := by decide +kernel
theorem dX8_setModels_1 : decode cX8_setModels 1 = .ok (.invokevirtual 84, 3) := by decide +kernel
theorem dX8_setModels_4 : decode cX8_setModels 4 = .ok (.aload_n 0, 1) := by decide +kernel
theorem dX8_setModels_5 : decode cX8_setModels 5 = .ok (.getfield 7, 3) := by decide +kernel
theorem dX8_setModels_8 : decode cX8_setModels 8 = .ok (.iconst 0, 1) := by decide +kernel
theorem dX8_setModels_9 : decode cX8_setModels 9 = .ok (.iaload, 1) := by decide +kernel
theorem dX8_setModels_10 : decode cX8_setModels 10 = .ok (.istore_n 2, 1) := by decide +kernel
theorem dX8_setModels_11 : decode cX8_setModels 11 = .ok (.iload_n 1, 1) := by decide +kernel
theorem dX8_setModels_12 : decode cX8_setModels 12 = .ok (.iconst 1, 1) := by decide +kernel
theorem dX8_setModels_13 : decode cX8_setModels 13 = .ok (.iconst 3, 1) := by decide +kernel
theorem dX8_setModels_14 : decode cX8_setModels 14 = .ok (.invokestatic 74, 3) := by decide +kernel
theorem dX8_setModels_17 : decode cX8_setModels 17 = .ok (.ifCond .ne 9, 3) := by decide +kernel
theorem dX8_setModels_20 : decode cX8_setModels 20 = .ok (.aload_n 0, 1) := by decide +kernel
theorem dX8_setModels_21 : decode cX8_setModels 21 = .ok (.iconst 1, 1) := by decide +kernel
theorem dX8_setModels_22 : decode cX8_setModels 22 = .ok (.invokevirtual 87, 3) := by decide +kernel
theorem dX8_setModels_25 : decode cX8_setModels 25 = .ok (.ireturn, 1) := by decide +kernel
theorem dX8_setModels_26 : decode cX8_setModels 26 = .ok (.aload_n 0, 1) := by decide +kernel
theorem dX8_setModels_27 : decode cX8_setModels 27 = .ok (.getfield 7, 3) := by decide +kernel
theorem dX8_setModels_30 : decode cX8_setModels 30 = .ok (.iconst 0, 1) := by decide +kernel
theorem dX8_setModels_31 : decode cX8_setModels 31 = .ok (.iload_n 1, 1) := by decide +kernel
theorem dX8_setModels_32 : decode cX8_setModels 32 = .ok (.iastore, 1) := by decide +kernel
theorem dX8_setModels_33 : decode cX8_setModels 33 = .ok (.aload_n 0, 1) := by decide +kernel
theorem dX8_setModels_34 : decode cX8_setModels 34 = .ok (.aload_n 0, 1) := by decide +kernel
theorem dX8_setModels_35 : decode cX8_setModels 35 = .ok (.iload_n 2, 1) := by decide +kernel
theorem dX8_setModels_36 : decode cX8_setModels 36 = .ok (.invokevirtual 91, 3) := by decide +kernel
theorem dX8_setModels_39 : decode cX8_setModels 39 = .ok (.invokevirtual 94, 3) := by decide +kernel
theorem dX8_setModels_42 : decode cX8_setModels 42 = .ok (.ireturn, 1) := by decide +kernel
theorem dX8_setDemand_0 : decode cX8_setDemand 0 = .ok (.iload_n 1, 1) := by decide +kernel
theorem dX8_setDemand_1 : decode cX8_setDemand 1 = .ok (.iconst 0, 1) := by decide +kernel
theorem dX8_setDemand_2 : decode cX8_setDemand 2 = .ok (.iconst 2, 1) := by decide +kernel
theorem dX8_setDemand_3 : decode cX8_setDemand 3 = .ok (.invokestatic 74, 3) := by decide +kernel
theorem dX8_setDemand_6 : decode cX8_setDemand 6 = .ok (.ifCond .eq 13, 3) := by decide +kernel
theorem dX8_setDemand_9 : decode cX8_setDemand 9 = .ok (.iload_n 2, 1) := by decide +kernel
theorem dX8_setDemand_10 : decode cX8_setDemand 10 = .ok (.iconst 1, 1) := by decide +kernel
theorem dX8_setDemand_11 : decode cX8_setDemand 11 = .ok (.bipush 9, 2) := by decide +kernel
theorem dX8_setDemand_13 : decode cX8_setDemand 13 = .ok (.invokestatic 74, 3) := by decide +kernel
theorem dX8_setDemand_16 : decode cX8_setDemand 16 = .ok (.ifCond .ne 22, 3) := by decide +kernel
theorem dX8_setDemand_19 : decode cX8_setDemand 19 = .ok (.aload_n 0, 1) := by decide +kernel
theorem dX8_setDemand_20 : decode cX8_setDemand 20 = .ok (.iload_n 1, 1) := by decide +kernel
theorem dX8_setDemand_21 : decode cX8_setDemand 21 = .ok (.iconst 0, 1) := by decide +kernel
theorem dX8_setDemand_22 : decode cX8_setDemand 22 = .ok (.iconst 2, 1) := by decide +kernel
theorem dX8_setDemand_23 : decode cX8_setDemand 23 = .ok (.invokestatic 74, 3) := by decide +kernel
theorem dX8_setDemand_26 : decode cX8_setDemand 26 = .ok (.ifCond .ne 7, 3) := by decide +kernel
theorem dX8_setDemand_29 : decode cX8_setDemand 29 = .ok (.iconst 1, 1) := by decide +kernel
theorem dX8_setDemand_30 : decode cX8_setDemand 30 = .ok (.goto 4, 3) := by decide +kernel
theorem dX8_setDemand_33 : decode cX8_setDemand 33 = .ok (.iconst 2, 1) := by decide +kernel
theorem dX8_setDemand_34 : decode cX8_setDemand 34 = .ok (.invokevirtual 87, 3) := by decide +kernel
theorem dX8_setDemand_37 : decode cX8_setDemand 37 = .ok (.ireturn, 1) := by decide +kernel
theorem dX8_setDemand_38 : decode cX8_setDemand 38 = .ok (.aload_n 0, 1) := by decide +kernel
theorem dX8_setDemand_39 : decode cX8_setDemand 39 = .ok (.invokevirtual 84, 3) := by decide +kernel
theorem dX8_setDemand_42 : decode cX8_setDemand 42 = .ok (.aload_n 0, 1) := by decide +kernel
theorem dX8_setDemand_43 : decode cX8_setDemand 43 = .ok (.getfield 7, 3) := by decide +kernel
theorem dX8_setDemand_46 : decode cX8_setDemand 46 = .ok (.iconst 1, 1) := by decide +kernel
theorem dX8_setDemand_47 : decode cX8_setDemand 47 = .ok (.iload_n 1, 1) := by decide +kernel
theorem dX8_setDemand_48 : decode cX8_setDemand 48 = .ok (.iadd, 1) := by decide +kernel
theorem dX8_setDemand_49 : decode cX8_setDemand 49 = .ok (.iaload, 1) := by decide +kernel
theorem dX8_setDemand_50 : decode cX8_setDemand 50 = .ok (.istore_n 3, 1) := by decide +kernel
theorem dX8_setDemand_51 : decode cX8_setDemand 51 = .ok (.aload_n 0, 1) := by decide +kernel
theorem dX8_setDemand_52 : decode cX8_setDemand 52 = .ok (.getfield 7, 3) := by decide +kernel
theorem dX8_setDemand_55 : decode cX8_setDemand 55 = .ok (.iconst 1, 1) := by decide +kernel
theorem dX8_setDemand_56 : decode cX8_setDemand 56 = .ok (.iload_n 1, 1) := by decide +kernel
theorem dX8_setDemand_57 : decode cX8_setDemand 57 = .ok (.iadd, 1) := by decide +kernel
theorem dX8_setDemand_58 : decode cX8_setDemand 58 = .ok (.iload_n 2, 1) := by decide +kernel
theorem dX8_setDemand_59 : decode cX8_setDemand 59 = .ok (.iastore, 1) := by decide +kernel
theorem dX8_setDemand_60 : decode cX8_setDemand 60 = .ok (.aload_n 0, 1) := by decide +kernel
theorem dX8_setDemand_61 : decode cX8_setDemand 61 = .ok (.aload_n 0, 1) := by decide +kernel
theorem dX8_setDemand_62 : decode cX8_setDemand 62 = .ok (.iload_n 3, 1) := by decide +kernel
theorem dX8_setDemand_63 : decode cX8_setDemand 63 = .ok (.invokevirtual 91, 3) := by decide +kernel
theorem dX8_setDemand_66 : decode cX8_setDemand 66 = .ok (.invokevirtual 94, 3) := by decide +kernel
theorem dX8_setDemand_69 : decode cX8_setDemand 69 = .ok (.ireturn, 1) := by decide +kernel
theorem dX8_isRule_0 : decode cX8_isRule 0 = .ok (.iload_n 0, 1) := by decide +kernel
theorem dX8_isRule_1 : decode cX8_isRule 1 = .ok (.tableswitch 52 0 2 #[27, 37, 45], 27) := by decide +kernel
theorem dX8_isRule_28 : decode cX8_isRule 28 = .ok (.iload_n 1, 1) := by decide +kernel
theorem dX8_isRule_29 : decode cX8_isRule 29 = .ok (.bipush 10, 2) := by decide +kernel
theorem dX8_isRule_31 : decode cX8_isRule 31 = .ok (.sipush 999, 3) := by decide +kernel
theorem dX8_isRule_34 : decode cX8_isRule 34 = .ok (.invokestatic 74, 3) := by decide +kernel
theorem dX8_isRule_37 : decode cX8_isRule 37 = .ok (.ireturn, 1) := by decide +kernel
theorem dX8_isRule_38 : decode cX8_isRule 38 = .ok (.iload_n 1, 1) := by decide +kernel
theorem dX8_isRule_39 : decode cX8_isRule 39 = .ok (.iconst 0, 1) := by decide +kernel
theorem dX8_isRule_40 : decode cX8_isRule 40 = .ok (.bipush 20, 2) := by decide +kernel
theorem dX8_isRule_42 : decode cX8_isRule 42 = .ok (.invokestatic 74, 3) := by decide +kernel
theorem dX8_isRule_45 : decode cX8_isRule 45 = .ok (.ireturn, 1) := by decide +kernel
theorem dX8_isRule_46 : decode cX8_isRule 46 = .ok (.iload_n 1, 1) := by decide +kernel
theorem dX8_isRule_47 : decode cX8_isRule 47 = .ok (.iconst 1, 1) := by decide +kernel
theorem dX8_isRule_48 : decode cX8_isRule 48 = .ok (.iconst 5, 1) := by decide +kernel
theorem dX8_isRule_49 : decode cX8_isRule 49 = .ok (.invokestatic 74, 3) := by decide +kernel
theorem dX8_isRule_52 : decode cX8_isRule 52 = .ok (.ireturn, 1) := by decide +kernel
theorem dX8_isRule_53 : decode cX8_isRule 53 = .ok (.iload_n 0, 1) := by decide +kernel
theorem dX8_isRule_54 : decode cX8_isRule 54 = .ok (.iconst 3, 1) := by decide +kernel
theorem dX8_isRule_55 : decode cX8_isRule 55 = .ok (.if_icmp .ne 16, 3) := by decide +kernel
theorem dX8_isRule_58 : decode cX8_isRule 58 = .ok (.iload_n 1, 1) := by decide +kernel
theorem dX8_isRule_59 : decode cX8_isRule 59 = .ok (.iconst 0, 1) := by decide +kernel
theorem dX8_isRule_60 : decode cX8_isRule 60 = .ok (.iconst 1, 1) := by decide +kernel
theorem dX8_isRule_61 : decode cX8_isRule 61 = .ok (.invokestatic 74, 3) := by decide +kernel
theorem dX8_isRule_64 : decode cX8_isRule 64 = .ok (.ifCond .eq 7, 3) := by decide +kernel
theorem dX8_isRule_67 : decode cX8_isRule 67 = .ok (.iconst 1, 1) := by decide +kernel
theorem dX8_isRule_68 : decode cX8_isRule 68 = .ok (.goto 4, 3) := by decide +kernel
theorem dX8_isRule_71 : decode cX8_isRule 71 = .ok (.iconst 0, 1) := by decide +kernel
theorem dX8_isRule_72 : decode cX8_isRule 72 = .ok (.ireturn, 1) := by decide +kernel
theorem dX8_setsRule_0 : decode cX8_setsRule 0 = .ok (.iload_n 1, 1) := by decide +kernel
theorem dX8_setsRule_1 : decode cX8_setsRule 1 = .ok (.iload_n 2, 1) := by decide +kernel
theorem dX8_setsRule_2 : decode cX8_setsRule 2 = .ok (.invokestatic 97, 3) := by decide +kernel
theorem dX8_setsRule_5 : decode cX8_setsRule 5 = .ok (.ifCond .ne 9, 3) := by decide +kernel
theorem dX8_setsRule_8 : decode cX8_setsRule 8 = .ok (.aload_n 0, 1) := by decide +kernel
theorem dX8_setsRule_9 : decode cX8_setsRule 9 = .ok (.iconst 1, 1) := by decide +kernel
theorem dX8_setsRule_10 : decode cX8_setsRule 10 = .ok (.invokevirtual 87, 3) := by decide +kernel
theorem dX8_setsRule_13 : decode cX8_setsRule 13 = .ok (.ireturn, 1) := by decide +kernel
theorem dX8_setsRule_14 : decode cX8_setsRule 14 = .ok (.aload_n 0, 1) := by decide +kernel
theorem dX8_setsRule_15 : decode cX8_setsRule 15 = .ok (.getfield 7, 3) := by decide +kernel
theorem dX8_setsRule_18 : decode cX8_setsRule 18 = .ok (.iconst 4, 1) := by decide +kernel
theorem dX8_setsRule_19 : decode cX8_setsRule 19 = .ok (.iload_n 1, 1) := by decide +kernel
theorem dX8_setsRule_20 : decode cX8_setsRule 20 = .ok (.iadd, 1) := by decide +kernel
theorem dX8_setsRule_21 : decode cX8_setsRule 21 = .ok (.iaload, 1) := by decide +kernel
theorem dX8_setsRule_22 : decode cX8_setsRule 22 = .ok (.istore_n 3, 1) := by decide +kernel
theorem dX8_setsRule_23 : decode cX8_setsRule 23 = .ok (.aload_n 0, 1) := by decide +kernel
theorem dX8_setsRule_24 : decode cX8_setsRule 24 = .ok (.getfield 7, 3) := by decide +kernel
theorem dX8_setsRule_27 : decode cX8_setsRule 27 = .ok (.iconst 4, 1) := by decide +kernel
theorem dX8_setsRule_28 : decode cX8_setsRule 28 = .ok (.iload_n 1, 1) := by decide +kernel
theorem dX8_setsRule_29 : decode cX8_setsRule 29 = .ok (.iadd, 1) := by decide +kernel
theorem dX8_setsRule_30 : decode cX8_setsRule 30 = .ok (.iload_n 2, 1) := by decide +kernel
theorem dX8_setsRule_31 : decode cX8_setsRule 31 = .ok (.iastore, 1) := by decide +kernel
theorem dX8_setsRule_32 : decode cX8_setsRule 32 = .ok (.aload_n 0, 1) := by decide +kernel
theorem dX8_setsRule_33 : decode cX8_setsRule 33 = .ok (.iload_n 3, 1) := by decide +kernel
theorem dX8_setsRule_34 : decode cX8_setsRule 34 = .ok (.invokevirtual 91, 3) := by decide +kernel
theorem dX8_setsRule_37 : decode cX8_setsRule 37 = .ok (.ireturn, 1) := by decide +kernel
theorem dX8_setRule_0 : decode cX8_setRule 0 = .ok (.aload_n 0, 1) := by decide +kernel
theorem dX8_setRule_1 : decode cX8_setRule 1 = .ok (.invokevirtual 84, 3) := by decide +kernel
theorem dX8_setRule_4 : decode cX8_setRule 4 = .ok (.aload_n 0, 1) := by decide +kernel
theorem dX8_setRule_5 : decode cX8_setRule 5 = .ok (.aload_n 0, 1) := by decide +kernel
theorem dX8_setRule_6 : decode cX8_setRule 6 = .ok (.iload_n 1, 1) := by decide +kernel
theorem dX8_setRule_7 : decode cX8_setRule 7 = .ok (.iload_n 2, 1) := by decide +kernel
theorem dX8_setRule_8 : decode cX8_setRule 8 = .ok (.invokevirtual 101, 3) := by decide +kernel
theorem dX8_setRule_11 : decode cX8_setRule 11 = .ok (.invokevirtual 94, 3) := by decide +kernel
theorem dX8_setRule_14 : decode cX8_setRule 14 = .ok (.ireturn, 1) := by decide +kernel
theorem dX8_totalDemand_0 : decode cX8_totalDemand 0 = .ok (.iconst 0, 1) := by decide +kernel
theorem dX8_totalDemand_1 : decode cX8_totalDemand 1 = .ok (.istore_n 1, 1) := by decide +kernel
theorem dX8_totalDemand_2 : decode cX8_totalDemand 2 = .ok (.iconst 0, 1) := by decide +kernel
theorem dX8_totalDemand_3 : decode cX8_totalDemand 3 = .ok (.istore_n 2, 1) := by decide +kernel
theorem dX8_totalDemand_4 : decode cX8_totalDemand 4 = .ok (.iload_n 2, 1) := by decide +kernel
theorem dX8_totalDemand_5 : decode cX8_totalDemand 5 = .ok (.aload_n 0, 1) := by decide +kernel
theorem dX8_totalDemand_6 : decode cX8_totalDemand 6 = .ok (.getfield 7, 3) := by decide +kernel
theorem dX8_totalDemand_9 : decode cX8_totalDemand 9 = .ok (.iconst 0, 1) := by decide +kernel
theorem dX8_totalDemand_10 : decode cX8_totalDemand 10 = .ok (.iaload, 1) := by decide +kernel
theorem dX8_totalDemand_11 : decode cX8_totalDemand 11 = .ok (.if_icmp .ge 20, 3) := by decide +kernel
theorem dX8_totalDemand_14 : decode cX8_totalDemand 14 = .ok (.iload_n 1, 1) := by decide +kernel
theorem dX8_totalDemand_15 : decode cX8_totalDemand 15 = .ok (.aload_n 0, 1) := by decide +kernel
theorem dX8_totalDemand_16 : decode cX8_totalDemand 16 = .ok (.getfield 7, 3) := by decide +kernel
theorem dX8_totalDemand_19 : decode cX8_totalDemand 19 = .ok (.iconst 1, 1) := by decide +kernel
theorem dX8_totalDemand_20 : decode cX8_totalDemand 20 = .ok (.iload_n 2, 1) := by decide +kernel
theorem dX8_totalDemand_21 : decode cX8_totalDemand 21 = .ok (.iadd, 1) := by decide +kernel
theorem dX8_totalDemand_22 : decode cX8_totalDemand 22 = .ok (.iaload, 1) := by decide +kernel
theorem dX8_totalDemand_23 : decode cX8_totalDemand 23 = .ok (.iadd, 1) := by decide +kernel
theorem dX8_totalDemand_24 : decode cX8_totalDemand 24 = .ok (.istore_n 1, 1) := by decide +kernel
theorem dX8_totalDemand_25 : decode cX8_totalDemand 25 = .ok (.iinc 2 1, 3) := by decide +kernel
theorem dX8_totalDemand_28 : decode cX8_totalDemand 28 = .ok (.goto (-24), 3) := by decide +kernel
theorem dX8_totalDemand_31 : decode cX8_totalDemand 31 = .ok (.iload_n 1, 1) := by decide +kernel
theorem dX8_totalDemand_32 : decode cX8_totalDemand 32 = .ok (.ireturn, 1) := by decide +kernel
theorem dX8_rule_0 : decode cX8_rule 0 = .ok (.iload_n 1, 1) := by decide +kernel
theorem dX8_rule_1 : decode cX8_rule 1 = .ok (.iconst 0, 1) := by decide +kernel
theorem dX8_rule_2 : decode cX8_rule 2 = .ok (.bipush 8, 2) := by decide +kernel
theorem dX8_rule_4 : decode cX8_rule 4 = .ok (.invokestatic 74, 3) := by decide +kernel
theorem dX8_rule_7 : decode cX8_rule 7 = .ok (.ifCond .ne 9, 3) := by decide +kernel
theorem dX8_rule_10 : decode cX8_rule 10 = .ok (.aload_n 0, 1) := by decide +kernel
theorem dX8_rule_11 : decode cX8_rule 11 = .ok (.iconst 1, 1) := by decide +kernel
theorem dX8_rule_12 : decode cX8_rule 12 = .ok (.invokevirtual 87, 3) := by decide +kernel
theorem dX8_rule_15 : decode cX8_rule 15 = .ok (.ireturn, 1) := by decide +kernel
theorem dX8_rule_16 : decode cX8_rule 16 = .ok (.aload_n 0, 1) := by decide +kernel
theorem dX8_rule_17 : decode cX8_rule 17 = .ok (.iload_n 1, 1) := by decide +kernel
theorem dX8_rule_18 : decode cX8_rule 18 = .ok (.iconst 4, 1) := by decide +kernel
theorem dX8_rule_19 : decode cX8_rule 19 = .ok (.if_icmp .ge 14, 3) := by decide +kernel
theorem dX8_rule_22 : decode cX8_rule 22 = .ok (.aload_n 0, 1) := by decide +kernel
theorem dX8_rule_23 : decode cX8_rule 23 = .ok (.getfield 7, 3) := by decide +kernel
theorem dX8_rule_26 : decode cX8_rule 26 = .ok (.iconst 4, 1) := by decide +kernel
theorem dX8_rule_27 : decode cX8_rule 27 = .ok (.iload_n 1, 1) := by decide +kernel
theorem dX8_rule_28 : decode cX8_rule 28 = .ok (.iadd, 1) := by decide +kernel
theorem dX8_rule_29 : decode cX8_rule 29 = .ok (.iaload, 1) := by decide +kernel
theorem dX8_rule_30 : decode cX8_rule 30 = .ok (.goto 40, 3) := by decide +kernel
theorem dX8_rule_33 : decode cX8_rule 33 = .ok (.iload_n 1, 1) := by decide +kernel
theorem dX8_rule_34 : decode cX8_rule 34 = .ok (.iconst 4, 1) := by decide +kernel
theorem dX8_rule_35 : decode cX8_rule 35 = .ok (.if_icmp .ne 12, 3) := by decide +kernel
theorem dX8_rule_38 : decode cX8_rule 38 = .ok (.aload_n 0, 1) := by decide +kernel
theorem dX8_rule_39 : decode cX8_rule 39 = .ok (.getfield 7, 3) := by decide +kernel
theorem dX8_rule_42 : decode cX8_rule 42 = .ok (.iconst 0, 1) := by decide +kernel
theorem dX8_rule_43 : decode cX8_rule 43 = .ok (.iaload, 1) := by decide +kernel
theorem dX8_rule_44 : decode cX8_rule 44 = .ok (.goto 26, 3) := by decide +kernel
theorem dX8_rule_47 : decode cX8_rule 47 = .ok (.iload_n 1, 1) := by decide +kernel
theorem dX8_rule_48 : decode cX8_rule 48 = .ok (.iconst 5, 1) := by decide +kernel
theorem dX8_rule_49 : decode cX8_rule 49 = .ok (.if_icmp .ne 10, 3) := by decide +kernel
theorem dX8_rule_52 : decode cX8_rule 52 = .ok (.aload_n 0, 1) := by decide +kernel
theorem dX8_rule_53 : decode cX8_rule 53 = .ok (.invokevirtual 105, 3) := by decide +kernel
theorem dX8_rule_56 : decode cX8_rule 56 = .ok (.goto 14, 3) := by decide +kernel
theorem dX8_rule_59 : decode cX8_rule 59 = .ok (.aload_n 0, 1) := by decide +kernel
theorem dX8_rule_60 : decode cX8_rule 60 = .ok (.getfield 7, 3) := by decide +kernel
theorem dX8_rule_63 : decode cX8_rule 63 = .ok (.iconst 1, 1) := by decide +kernel
theorem dX8_rule_64 : decode cX8_rule 64 = .ok (.iload_n 1, 1) := by decide +kernel
theorem dX8_rule_65 : decode cX8_rule 65 = .ok (.iadd, 1) := by decide +kernel
theorem dX8_rule_66 : decode cX8_rule 66 = .ok (.bipush 6, 2) := by decide +kernel
theorem dX8_rule_68 : decode cX8_rule 68 = .ok (.isub, 1) := by decide +kernel
theorem dX8_rule_69 : decode cX8_rule 69 = .ok (.iaload, 1) := by decide +kernel
theorem dX8_rule_70 : decode cX8_rule 70 = .ok (.invokevirtual 91, 3) := by decide +kernel
theorem dX8_rule_73 : decode cX8_rule 73 = .ok (.ireturn, 1) := by decide +kernel
theorem dX8_setCopies_0 : decode cX8_setCopies 0 = .ok (.iload_n 1, 1) := by decide +kernel
theorem dX8_setCopies_1 : decode cX8_setCopies 1 = .ok (.invokestatic 109, 3) := by decide +kernel
theorem dX8_setCopies_4 : decode cX8_setCopies 4 = .ok (.ifCond .eq 12, 3) := by decide +kernel
theorem dX8_setCopies_7 : decode cX8_setCopies 7 = .ok (.iload_n 2, 1) := by decide +kernel
theorem dX8_setCopies_8 : decode cX8_setCopies 8 = .ok (.iconst 1, 1) := by decide +kernel
theorem dX8_setCopies_9 : decode cX8_setCopies 9 = .ok (.iconst 3, 1) := by decide +kernel
theorem dX8_setCopies_10 : decode cX8_setCopies 10 = .ok (.invokestatic 74, 3) := by decide +kernel
theorem dX8_setCopies_13 : decode cX8_setCopies 13 = .ok (.ifCond .ne 20, 3) := by decide +kernel
theorem dX8_setCopies_16 : decode cX8_setCopies 16 = .ok (.aload_n 0, 1) := by decide +kernel
theorem dX8_setCopies_17 : decode cX8_setCopies 17 = .ok (.iload_n 1, 1) := by decide +kernel
theorem dX8_setCopies_18 : decode cX8_setCopies 18 = .ok (.invokestatic 109, 3) := by decide +kernel
theorem dX8_setCopies_21 : decode cX8_setCopies 21 = .ok (.ifCond .ne 7, 3) := by decide +kernel
theorem dX8_setCopies_24 : decode cX8_setCopies 24 = .ok (.iconst 1, 1) := by decide +kernel
theorem dX8_setCopies_25 : decode cX8_setCopies 25 = .ok (.goto 4, 3) := by decide +kernel
theorem dX8_setCopies_28 : decode cX8_setCopies 28 = .ok (.iconst 2, 1) := by decide +kernel
theorem dX8_setCopies_29 : decode cX8_setCopies 29 = .ok (.invokevirtual 87, 3) := by decide +kernel
theorem dX8_setCopies_32 : decode cX8_setCopies 32 = .ok (.ireturn, 1) := by decide +kernel
theorem dX8_setCopies_33 : decode cX8_setCopies 33 = .ok (.aload_n 0, 1) := by decide +kernel
theorem dX8_setCopies_34 : decode cX8_setCopies 34 = .ok (.invokevirtual 84, 3) := by decide +kernel
theorem dX8_setCopies_37 : decode cX8_setCopies 37 = .ok (.aload_n 0, 1) := by decide +kernel
theorem dX8_setCopies_38 : decode cX8_setCopies 38 = .ok (.getfield 7, 3) := by decide +kernel
theorem dX8_setCopies_41 : decode cX8_setCopies 41 = .ok (.bipush 8, 2) := by decide +kernel
theorem dX8_setCopies_43 : decode cX8_setCopies 43 = .ok (.iload_n 1, 1) := by decide +kernel
theorem dX8_setCopies_44 : decode cX8_setCopies 44 = .ok (.iadd, 1) := by decide +kernel
theorem dX8_setCopies_45 : decode cX8_setCopies 45 = .ok (.iaload, 1) := by decide +kernel
theorem dX8_setCopies_46 : decode cX8_setCopies 46 = .ok (.istore_n 3, 1) := by decide +kernel
theorem dX8_setCopies_47 : decode cX8_setCopies 47 = .ok (.aload_n 0, 1) := by decide +kernel
theorem dX8_setCopies_48 : decode cX8_setCopies 48 = .ok (.getfield 7, 3) := by decide +kernel
theorem dX8_setCopies_51 : decode cX8_setCopies 51 = .ok (.bipush 8, 2) := by decide +kernel
theorem dX8_setCopies_53 : decode cX8_setCopies 53 = .ok (.iload_n 1, 1) := by decide +kernel
theorem dX8_setCopies_54 : decode cX8_setCopies 54 = .ok (.iadd, 1) := by decide +kernel
theorem dX8_setCopies_55 : decode cX8_setCopies 55 = .ok (.iload_n 2, 1) := by decide +kernel
theorem dX8_setCopies_56 : decode cX8_setCopies 56 = .ok (.iastore, 1) := by decide +kernel
theorem dX8_setCopies_57 : decode cX8_setCopies 57 = .ok (.aload_n 0, 1) := by decide +kernel
theorem dX8_setCopies_58 : decode cX8_setCopies 58 = .ok (.aload_n 0, 1) := by decide +kernel
theorem dX8_setCopies_59 : decode cX8_setCopies 59 = .ok (.iload_n 3, 1) := by decide +kernel
theorem dX8_setCopies_60 : decode cX8_setCopies 60 = .ok (.invokevirtual 91, 3) := by decide +kernel
theorem dX8_setCopies_63 : decode cX8_setCopies 63 = .ok (.invokevirtual 94, 3) := by decide +kernel
theorem dX8_setCopies_66 : decode cX8_setCopies 66 = .ok (.ireturn, 1) := by decide +kernel
theorem dX8_addsTask_0 : decode cX8_addsTask 0 = .ok (.iload_n 1, 1) := by decide +kernel
theorem dX8_addsTask_1 : decode cX8_addsTask 1 = .ok (.iconst 0, 1) := by decide +kernel
theorem dX8_addsTask_2 : decode cX8_addsTask 2 = .ok (.bipush 99, 2) := by decide +kernel
theorem dX8_addsTask_4 : decode cX8_addsTask 4 = .ok (.invokestatic 74, 3) := by decide +kernel
theorem dX8_addsTask_7 : decode cX8_addsTask 7 = .ok (.ifCond .eq 33, 3) := by decide +kernel
theorem dX8_addsTask_10 : decode cX8_addsTask 10 = .ok (.iload_n 2, 1) := by decide +kernel
theorem dX8_addsTask_11 : decode cX8_addsTask 11 = .ok (.iconst 0, 1) := by decide +kernel
theorem dX8_addsTask_12 : decode cX8_addsTask 12 = .ok (.bipush 99, 2) := by decide +kernel
theorem dX8_addsTask_14 : decode cX8_addsTask 14 = .ok (.invokestatic 74, 3) := by decide +kernel
theorem dX8_addsTask_17 : decode cX8_addsTask 17 = .ok (.ifCond .eq 23, 3) := by decide +kernel
theorem dX8_addsTask_20 : decode cX8_addsTask 20 = .ok (.iload_n 3, 1) := by decide +kernel
theorem dX8_addsTask_21 : decode cX8_addsTask 21 = .ok (.iconst 0, 1) := by decide +kernel
theorem dX8_addsTask_22 : decode cX8_addsTask 22 = .ok (.bipush 99, 2) := by decide +kernel
theorem dX8_addsTask_24 : decode cX8_addsTask 24 = .ok (.invokestatic 74, 3) := by decide +kernel
theorem dX8_addsTask_27 : decode cX8_addsTask 27 = .ok (.ifCond .eq 13, 3) := by decide +kernel
theorem dX8_addsTask_30 : decode cX8_addsTask 30 = .ok (.iload 4, 2) := by decide +kernel
theorem dX8_addsTask_32 : decode cX8_addsTask 32 = .ok (.iconst 0, 1) := by decide +kernel
theorem dX8_addsTask_33 : decode cX8_addsTask 33 = .ok (.iconst 5, 1) := by decide +kernel
theorem dX8_addsTask_34 : decode cX8_addsTask 34 = .ok (.invokestatic 74, 3) := by decide +kernel
theorem dX8_addsTask_37 : decode cX8_addsTask 37 = .ok (.ifCond .ne 9, 3) := by decide +kernel
theorem dX8_addsTask_40 : decode cX8_addsTask 40 = .ok (.aload_n 0, 1) := by decide +kernel
theorem dX8_addsTask_41 : decode cX8_addsTask 41 = .ok (.iconst 1, 1) := by decide +kernel
theorem dX8_addsTask_42 : decode cX8_addsTask 42 = .ok (.invokevirtual 87, 3) := by decide +kernel
theorem dX8_addsTask_45 : decode cX8_addsTask 45 = .ok (.ireturn, 1) := by decide +kernel
theorem dX8_addsTask_46 : decode cX8_addsTask 46 = .ok (.aload_n 0, 1) := by decide +kernel
theorem dX8_addsTask_47 : decode cX8_addsTask 47 = .ok (.getfield 7, 3) := by decide +kernel
theorem dX8_addsTask_50 : decode cX8_addsTask 50 = .ok (.bipush 16, 2) := by decide +kernel
theorem dX8_addsTask_52 : decode cX8_addsTask 52 = .ok (.iaload, 1) := by decide +kernel
theorem dX8_addsTask_53 : decode cX8_addsTask 53 = .ok (.bipush 12, 2) := by decide +kernel
theorem dX8_addsTask_55 : decode cX8_addsTask 55 = .ok (.if_icmp .ne 9, 3) := by decide +kernel
theorem dX8_addsTask_58 : decode cX8_addsTask 58 = .ok (.aload_n 0, 1) := by decide +kernel
theorem dX8_addsTask_59 : decode cX8_addsTask 59 = .ok (.iconst 2, 1) := by decide +kernel
theorem dX8_addsTask_60 : decode cX8_addsTask 60 = .ok (.invokevirtual 87, 3) := by decide +kernel
theorem dX8_addsTask_63 : decode cX8_addsTask 63 = .ok (.ireturn, 1) := by decide +kernel
theorem dX8_addsTask_64 : decode cX8_addsTask 64 = .ok (.aload_n 0, 1) := by decide +kernel
theorem dX8_addsTask_65 : decode cX8_addsTask 65 = .ok (.getfield 7, 3) := by decide +kernel
theorem dX8_addsTask_68 : decode cX8_addsTask 68 = .ok (.bipush 16, 2) := by decide +kernel
theorem dX8_addsTask_70 : decode cX8_addsTask 70 = .ok (.iaload, 1) := by decide +kernel
theorem dX8_addsTask_71 : decode cX8_addsTask 71 = .ok (.istore 5, 2) := by decide +kernel
theorem dX8_addsTask_73 : decode cX8_addsTask 73 = .ok (.aload_n 0, 1) := by decide +kernel
theorem dX8_addsTask_74 : decode cX8_addsTask 74 = .ok (.iload 5, 2) := by decide +kernel
theorem dX8_addsTask_76 : decode cX8_addsTask 76 = .ok (.iconst 0, 1) := by decide +kernel
theorem dX8_addsTask_77 : decode cX8_addsTask 77 = .ok (.iload_n 1, 1) := by decide +kernel
theorem dX8_addsTask_78 : decode cX8_addsTask 78 = .ok (.invokevirtual 113, 3) := by decide +kernel
theorem dX8_addsTask_81 : decode cX8_addsTask 81 = .ok (.aload_n 0, 1) := by decide +kernel
theorem dX8_addsTask_82 : decode cX8_addsTask 82 = .ok (.iload 5, 2) := by decide +kernel
theorem dX8_addsTask_84 : decode cX8_addsTask 84 = .ok (.iconst 1, 1) := by decide +kernel
theorem dX8_addsTask_85 : decode cX8_addsTask 85 = .ok (.iload_n 2, 1) := by decide +kernel
theorem dX8_addsTask_86 : decode cX8_addsTask 86 = .ok (.invokevirtual 113, 3) := by decide +kernel
theorem dX8_addsTask_89 : decode cX8_addsTask 89 = .ok (.aload_n 0, 1) := by decide +kernel
theorem dX8_addsTask_90 : decode cX8_addsTask 90 = .ok (.iload 5, 2) := by decide +kernel
theorem dX8_addsTask_92 : decode cX8_addsTask 92 = .ok (.iconst 2, 1) := by decide +kernel
theorem dX8_addsTask_93 : decode cX8_addsTask 93 = .ok (.iload_n 3, 1) := by decide +kernel
theorem dX8_addsTask_94 : decode cX8_addsTask 94 = .ok (.invokevirtual 113, 3) := by decide +kernel
theorem dX8_addsTask_97 : decode cX8_addsTask 97 = .ok (.aload_n 0, 1) := by decide +kernel
theorem dX8_addsTask_98 : decode cX8_addsTask 98 = .ok (.iload 5, 2) := by decide +kernel
theorem dX8_addsTask_100 : decode cX8_addsTask 100 = .ok (.iconst 3, 1) := by decide +kernel
theorem dX8_addsTask_101 : decode cX8_addsTask 101 = .ok (.iload 4, 2) := by decide +kernel
theorem dX8_addsTask_103 : decode cX8_addsTask 103 = .ok (.invokevirtual 113, 3) := by decide +kernel
theorem dX8_addsTask_106 : decode cX8_addsTask 106 = .ok (.aload_n 0, 1) := by decide +kernel
theorem dX8_addsTask_107 : decode cX8_addsTask 107 = .ok (.iload 5, 2) := by decide +kernel
theorem dX8_addsTask_109 : decode cX8_addsTask 109 = .ok (.iconst 4, 1) := by decide +kernel
theorem dX8_addsTask_110 : decode cX8_addsTask 110 = .ok (.iconst (-1), 1) := by decide +kernel
theorem dX8_addsTask_111 : decode cX8_addsTask 111 = .ok (.invokevirtual 113, 3) := by decide +kernel
theorem dX8_addsTask_114 : decode cX8_addsTask 114 = .ok (.aload_n 0, 1) := by decide +kernel
theorem dX8_addsTask_115 : decode cX8_addsTask 115 = .ok (.getfield 7, 3) := by decide +kernel
theorem dX8_addsTask_118 : decode cX8_addsTask 118 = .ok (.bipush 16, 2) := by decide +kernel
theorem dX8_addsTask_120 : decode cX8_addsTask 120 = .ok (.dup2, 1) := by decide +kernel
theorem dX8_addsTask_121 : decode cX8_addsTask 121 = .ok (.iaload, 1) := by decide +kernel
theorem dX8_addsTask_122 : decode cX8_addsTask 122 = .ok (.iconst 1, 1) := by decide +kernel
theorem dX8_addsTask_123 : decode cX8_addsTask 123 = .ok (.iadd, 1) := by decide +kernel
theorem dX8_addsTask_124 : decode cX8_addsTask 124 = .ok (.iastore, 1) := by decide +kernel
theorem dX8_addsTask_125 : decode cX8_addsTask 125 = .ok (.aload_n 0, 1) := by decide +kernel
theorem dX8_addsTask_126 : decode cX8_addsTask 126 = .ok (.iload 5, 2) := by decide +kernel
theorem dX8_addsTask_128 : decode cX8_addsTask 128 = .ok (.invokevirtual 91, 3) := by decide +kernel
theorem dX8_addsTask_131 : decode cX8_addsTask 131 = .ok (.ireturn, 1) := by decide +kernel
theorem dX8_addTask_0 : decode cX8_addTask 0 = .ok (.aload_n 0, 1) := by decide +kernel
theorem dX8_addTask_1 : decode cX8_addTask 1 = .ok (.invokevirtual 84, 3) := by decide +kernel
theorem dX8_addTask_4 : decode cX8_addTask 4 = .ok (.aload_n 0, 1) := by decide +kernel
theorem dX8_addTask_5 : decode cX8_addTask 5 = .ok (.aload_n 0, 1) := by decide +kernel
theorem dX8_addTask_6 : decode cX8_addTask 6 = .ok (.iload_n 1, 1) := by decide +kernel
theorem dX8_addTask_7 : decode cX8_addTask 7 = .ok (.iload_n 2, 1) := by decide +kernel
theorem dX8_addTask_8 : decode cX8_addTask 8 = .ok (.iload_n 3, 1) := by decide +kernel
theorem dX8_addTask_9 : decode cX8_addTask 9 = .ok (.iload 4, 2) := by decide +kernel
theorem dX8_addTask_11 : decode cX8_addTask 11 = .ok (.invokevirtual 117, 3) := by decide +kernel
theorem dX8_addTask_14 : decode cX8_addTask 14 = .ok (.invokevirtual 94, 3) := by decide +kernel
theorem dX8_addTask_17 : decode cX8_addTask 17 = .ok (.ireturn, 1) := by decide +kernel
theorem dX8_setTime_0 : decode cX8_setTime 0 = .ok (.aload_n 0, 1) := by decide +kernel
theorem dX8_setTime_1 : decode cX8_setTime 1 = .ok (.iload_n 1, 1) := by decide +kernel
theorem dX8_setTime_2 : decode cX8_setTime 2 = .ok (.invokevirtual 121, 3) := by decide +kernel
theorem dX8_setTime_5 : decode cX8_setTime 5 = .ok (.ifCond .eq 12, 3) := by decide +kernel
theorem dX8_setTime_8 : decode cX8_setTime 8 = .ok (.iload_n 2, 1) := by decide +kernel
theorem dX8_setTime_9 : decode cX8_setTime 9 = .ok (.iconst 0, 1) := by decide +kernel
theorem dX8_setTime_10 : decode cX8_setTime 10 = .ok (.iconst 2, 1) := by decide +kernel
theorem dX8_setTime_11 : decode cX8_setTime 11 = .ok (.invokestatic 74, 3) := by decide +kernel
theorem dX8_setTime_14 : decode cX8_setTime 14 = .ok (.ifCond .ne 9, 3) := by decide +kernel
theorem dX8_setTime_17 : decode cX8_setTime 17 = .ok (.aload_n 0, 1) := by decide +kernel
theorem dX8_setTime_18 : decode cX8_setTime 18 = .ok (.iconst 1, 1) := by decide +kernel
theorem dX8_setTime_19 : decode cX8_setTime 19 = .ok (.invokevirtual 87, 3) := by decide +kernel
theorem dX8_setTime_22 : decode cX8_setTime 22 = .ok (.ireturn, 1) := by decide +kernel
theorem dX8_setTime_23 : decode cX8_setTime 23 = .ok (.iload_n 3, 1) := by decide +kernel
theorem dX8_setTime_24 : decode cX8_setTime 24 = .ok (.iconst 0, 1) := by decide +kernel
theorem dX8_setTime_25 : decode cX8_setTime 25 = .ok (.bipush 99, 2) := by decide +kernel
theorem dX8_setTime_27 : decode cX8_setTime 27 = .ok (.invokestatic 74, 3) := by decide +kernel
theorem dX8_setTime_30 : decode cX8_setTime 30 = .ok (.ifCond .ne 9, 3) := by decide +kernel
theorem dX8_setTime_33 : decode cX8_setTime 33 = .ok (.aload_n 0, 1) := by decide +kernel
theorem dX8_setTime_34 : decode cX8_setTime 34 = .ok (.iconst 2, 1) := by decide +kernel
theorem dX8_setTime_35 : decode cX8_setTime 35 = .ok (.invokevirtual 87, 3) := by decide +kernel
theorem dX8_setTime_38 : decode cX8_setTime 38 = .ok (.ireturn, 1) := by decide +kernel
theorem dX8_setTime_39 : decode cX8_setTime 39 = .ok (.aload_n 0, 1) := by decide +kernel
theorem dX8_setTime_40 : decode cX8_setTime 40 = .ok (.invokevirtual 84, 3) := by decide +kernel
theorem dX8_setTime_43 : decode cX8_setTime 43 = .ok (.aload_n 0, 1) := by decide +kernel
theorem dX8_setTime_44 : decode cX8_setTime 44 = .ok (.iload_n 1, 1) := by decide +kernel
theorem dX8_setTime_45 : decode cX8_setTime 45 = .ok (.iload_n 2, 1) := by decide +kernel
theorem dX8_setTime_46 : decode cX8_setTime 46 = .ok (.invokevirtual 124, 3) := by decide +kernel
theorem dX8_setTime_49 : decode cX8_setTime 49 = .ok (.istore 4, 2) := by decide +kernel
theorem dX8_setTime_51 : decode cX8_setTime 51 = .ok (.aload_n 0, 1) := by decide +kernel
theorem dX8_setTime_52 : decode cX8_setTime 52 = .ok (.iload_n 1, 1) := by decide +kernel
theorem dX8_setTime_53 : decode cX8_setTime 53 = .ok (.iload_n 2, 1) := by decide +kernel
theorem dX8_setTime_54 : decode cX8_setTime 54 = .ok (.iload_n 3, 1) := by decide +kernel
theorem dX8_setTime_55 : decode cX8_setTime 55 = .ok (.invokevirtual 113, 3) := by decide +kernel
theorem dX8_setTime_58 : decode cX8_setTime 58 = .ok (.aload_n 0, 1) := by decide +kernel
theorem dX8_setTime_59 : decode cX8_setTime 59 = .ok (.aload_n 0, 1) := by decide +kernel
theorem dX8_setTime_60 : decode cX8_setTime 60 = .ok (.iload 4, 2) := by decide +kernel
theorem dX8_setTime_62 : decode cX8_setTime 62 = .ok (.invokevirtual 91, 3) := by decide +kernel
theorem dX8_setTime_65 : decode cX8_setTime 65 = .ok (.invokevirtual 94, 3) := by decide +kernel
theorem dX8_setTime_68 : decode cX8_setTime 68 = .ok (.ireturn, 1) := by decide +kernel
theorem dX8_setTool_0 : decode cX8_setTool 0 = .ok (.aload_n 0, 1) := by decide +kernel
theorem dX8_setTool_1 : decode cX8_setTool 1 = .ok (.iload_n 1, 1) := by decide +kernel
theorem dX8_setTool_2 : decode cX8_setTool 2 = .ok (.invokevirtual 121, 3) := by decide +kernel
theorem dX8_setTool_5 : decode cX8_setTool 5 = .ok (.ifCond .eq 12, 3) := by decide +kernel
theorem dX8_setTool_8 : decode cX8_setTool 8 = .ok (.iload_n 2, 1) := by decide +kernel
theorem dX8_setTool_9 : decode cX8_setTool 9 = .ok (.iconst 0, 1) := by decide +kernel
theorem dX8_setTool_10 : decode cX8_setTool 10 = .ok (.iconst 5, 1) := by decide +kernel
theorem dX8_setTool_11 : decode cX8_setTool 11 = .ok (.invokestatic 74, 3) := by decide +kernel
theorem dX8_setTool_14 : decode cX8_setTool 14 = .ok (.ifCond .ne 21, 3) := by decide +kernel
theorem dX8_setTool_17 : decode cX8_setTool 17 = .ok (.aload_n 0, 1) := by decide +kernel
theorem dX8_setTool_18 : decode cX8_setTool 18 = .ok (.aload_n 0, 1) := by decide +kernel
theorem dX8_setTool_19 : decode cX8_setTool 19 = .ok (.iload_n 1, 1) := by decide +kernel
theorem dX8_setTool_20 : decode cX8_setTool 20 = .ok (.invokevirtual 121, 3) := by decide +kernel
theorem dX8_setTool_23 : decode cX8_setTool 23 = .ok (.ifCond .ne 7, 3) := by decide +kernel
theorem dX8_setTool_26 : decode cX8_setTool 26 = .ok (.iconst 1, 1) := by decide +kernel
theorem dX8_setTool_27 : decode cX8_setTool 27 = .ok (.goto 4, 3) := by decide +kernel
theorem dX8_setTool_30 : decode cX8_setTool 30 = .ok (.iconst 2, 1) := by decide +kernel
theorem dX8_setTool_31 : decode cX8_setTool 31 = .ok (.invokevirtual 87, 3) := by decide +kernel
theorem dX8_setTool_34 : decode cX8_setTool 34 = .ok (.ireturn, 1) := by decide +kernel
theorem dX8_setTool_35 : decode cX8_setTool 35 = .ok (.aload_n 0, 1) := by decide +kernel
theorem dX8_setTool_36 : decode cX8_setTool 36 = .ok (.invokevirtual 84, 3) := by decide +kernel
theorem dX8_setTool_39 : decode cX8_setTool 39 = .ok (.aload_n 0, 1) := by decide +kernel
theorem dX8_setTool_40 : decode cX8_setTool 40 = .ok (.iload_n 1, 1) := by decide +kernel
theorem dX8_setTool_41 : decode cX8_setTool 41 = .ok (.iconst 3, 1) := by decide +kernel
theorem dX8_setTool_42 : decode cX8_setTool 42 = .ok (.invokevirtual 124, 3) := by decide +kernel
theorem dX8_setTool_45 : decode cX8_setTool 45 = .ok (.istore_n 3, 1) := by decide +kernel
theorem dX8_setTool_46 : decode cX8_setTool 46 = .ok (.aload_n 0, 1) := by decide +kernel
theorem dX8_setTool_47 : decode cX8_setTool 47 = .ok (.iload_n 1, 1) := by decide +kernel
theorem dX8_setTool_48 : decode cX8_setTool 48 = .ok (.iconst 3, 1) := by decide +kernel
theorem dX8_setTool_49 : decode cX8_setTool 49 = .ok (.iload_n 2, 1) := by decide +kernel
theorem dX8_setTool_50 : decode cX8_setTool 50 = .ok (.invokevirtual 113, 3) := by decide +kernel
theorem dX8_setTool_53 : decode cX8_setTool 53 = .ok (.aload_n 0, 1) := by decide +kernel
theorem dX8_setTool_54 : decode cX8_setTool 54 = .ok (.aload_n 0, 1) := by decide +kernel
theorem dX8_setTool_55 : decode cX8_setTool 55 = .ok (.iload_n 3, 1) := by decide +kernel
theorem dX8_setTool_56 : decode cX8_setTool 56 = .ok (.invokevirtual 91, 3) := by decide +kernel
theorem dX8_setTool_59 : decode cX8_setTool 59 = .ok (.invokevirtual 94, 3) := by decide +kernel
theorem dX8_setTool_62 : decode cX8_setTool 62 = .ok (.ireturn, 1) := by decide +kernel
theorem dX8_has_0 : decode cX8_has 0 = .ok (.iload_n 0, 1) := by decide +kernel
theorem dX8_has_1 : decode cX8_has 1 = .ok (.iload_n 1, 1) := by decide +kernel
theorem dX8_has_2 : decode cX8_has 2 = .ok (.ishr, 1) := by decide +kernel
theorem dX8_has_3 : decode cX8_has 3 = .ok (.iconst 1, 1) := by decide +kernel
theorem dX8_has_4 : decode cX8_has 4 = .ok (.iand, 1) := by decide +kernel
theorem dX8_has_5 : decode cX8_has 5 = .ok (.iconst 1, 1) := by decide +kernel
theorem dX8_has_6 : decode cX8_has 6 = .ok (.if_icmp .ne 7, 3) := by decide +kernel
theorem dX8_has_9 : decode cX8_has 9 = .ok (.iconst 1, 1) := by decide +kernel
theorem dX8_has_10 : decode cX8_has 10 = .ok (.goto 4, 3) := by decide +kernel
theorem dX8_has_13 : decode cX8_has 13 = .ok (.iconst 0, 1) := by decide +kernel
theorem dX8_has_14 : decode cX8_has 14 = .ok (.ireturn, 1) := by decide +kernel
theorem dX8_aheadOf_0 : decode cX8_aheadOf 0 = .ok (.aload_n 0, 1) := by decide +kernel
theorem dX8_aheadOf_1 : decode cX8_aheadOf 1 = .ok (.getfield 7, 3) := by decide +kernel
theorem dX8_aheadOf_4 : decode cX8_aheadOf 4 = .ok (.bipush 77, 2) := by decide +kernel
theorem dX8_aheadOf_6 : decode cX8_aheadOf 6 = .ok (.iload_n 1, 1) := by decide +kernel
theorem dX8_aheadOf_7 : decode cX8_aheadOf 7 = .ok (.iadd, 1) := by decide +kernel
theorem dX8_aheadOf_8 : decode cX8_aheadOf 8 = .ok (.iaload, 1) := by decide +kernel
theorem dX8_aheadOf_9 : decode cX8_aheadOf 9 = .ok (.istore_n 2, 1) := by decide +kernel
theorem dX8_aheadOf_10 : decode cX8_aheadOf 10 = .ok (.iconst (-1), 1) := by decide +kernel
theorem dX8_aheadOf_11 : decode cX8_aheadOf 11 = .ok (.istore_n 3, 1) := by decide +kernel
theorem dX8_aheadOf_12 : decode cX8_aheadOf 12 = .ok (.iload_n 3, 1) := by decide +kernel
theorem dX8_aheadOf_13 : decode cX8_aheadOf 13 = .ok (.iload_n 2, 1) := by decide +kernel
theorem dX8_aheadOf_14 : decode cX8_aheadOf 14 = .ok (.if_icmp .eq 55, 3) := by decide +kernel
theorem dX8_aheadOf_17 : decode cX8_aheadOf 17 = .ok (.iload_n 2, 1) := by decide +kernel
theorem dX8_aheadOf_18 : decode cX8_aheadOf 18 = .ok (.istore_n 3, 1) := by decide +kernel
theorem dX8_aheadOf_19 : decode cX8_aheadOf 19 = .ok (.iconst 0, 1) := by decide +kernel
theorem dX8_aheadOf_20 : decode cX8_aheadOf 20 = .ok (.istore 4, 2) := by decide +kernel
theorem dX8_aheadOf_22 : decode cX8_aheadOf 22 = .ok (.iload 4, 2) := by decide +kernel
theorem dX8_aheadOf_24 : decode cX8_aheadOf 24 = .ok (.aload_n 0, 1) := by decide +kernel
theorem dX8_aheadOf_25 : decode cX8_aheadOf 25 = .ok (.getfield 7, 3) := by decide +kernel
theorem dX8_aheadOf_28 : decode cX8_aheadOf 28 = .ok (.bipush 16, 2) := by decide +kernel
theorem dX8_aheadOf_30 : decode cX8_aheadOf 30 = .ok (.iaload, 1) := by decide +kernel
theorem dX8_aheadOf_31 : decode cX8_aheadOf 31 = .ok (.if_icmp .ge 35, 3) := by decide +kernel
theorem dX8_aheadOf_34 : decode cX8_aheadOf 34 = .ok (.iload_n 2, 1) := by decide +kernel
theorem dX8_aheadOf_35 : decode cX8_aheadOf 35 = .ok (.iload_n 3, 1) := by decide +kernel
theorem dX8_aheadOf_36 : decode cX8_aheadOf 36 = .ok (.iload 4, 2) := by decide +kernel
theorem dX8_aheadOf_38 : decode cX8_aheadOf 38 = .ok (.invokestatic 127, 3) := by decide +kernel
theorem dX8_aheadOf_41 : decode cX8_aheadOf 41 = .ok (.ifCond .eq 16, 3) := by decide +kernel
theorem dX8_aheadOf_44 : decode cX8_aheadOf 44 = .ok (.aload_n 0, 1) := by decide +kernel
theorem dX8_aheadOf_45 : decode cX8_aheadOf 45 = .ok (.getfield 7, 3) := by decide +kernel
theorem dX8_aheadOf_48 : decode cX8_aheadOf 48 = .ok (.bipush 77, 2) := by decide +kernel
theorem dX8_aheadOf_50 : decode cX8_aheadOf 50 = .ok (.iload 4, 2) := by decide +kernel
theorem dX8_aheadOf_52 : decode cX8_aheadOf 52 = .ok (.iadd, 1) := by decide +kernel
theorem dX8_aheadOf_53 : decode cX8_aheadOf 53 = .ok (.iaload, 1) := by decide +kernel
theorem dX8_aheadOf_54 : decode cX8_aheadOf 54 = .ok (.goto 4, 3) := by decide +kernel
theorem dX8_aheadOf_57 : decode cX8_aheadOf 57 = .ok (.iconst 0, 1) := by decide +kernel
theorem dX8_aheadOf_58 : decode cX8_aheadOf 58 = .ok (.ior, 1) := by decide +kernel
theorem dX8_aheadOf_59 : decode cX8_aheadOf 59 = .ok (.istore_n 2, 1) := by decide +kernel
theorem dX8_aheadOf_60 : decode cX8_aheadOf 60 = .ok (.iinc 4 1, 3) := by decide +kernel
theorem dX8_aheadOf_63 : decode cX8_aheadOf 63 = .ok (.goto (-41), 3) := by decide +kernel
theorem dX8_aheadOf_66 : decode cX8_aheadOf 66 = .ok (.goto (-54), 3) := by decide +kernel
theorem dX8_aheadOf_69 : decode cX8_aheadOf 69 = .ok (.iload_n 2, 1) := by decide +kernel
theorem dX8_aheadOf_70 : decode cX8_aheadOf 70 = .ok (.ireturn, 1) := by decide +kernel
theorem dX8_behind_0 : decode cX8_behind 0 = .ok (.iconst 0, 1) := by decide +kernel
theorem dX8_behind_1 : decode cX8_behind 1 = .ok (.istore_n 2, 1) := by decide +kernel
theorem dX8_behind_2 : decode cX8_behind 2 = .ok (.iconst 0, 1) := by decide +kernel
theorem dX8_behind_3 : decode cX8_behind 3 = .ok (.istore_n 3, 1) := by decide +kernel
theorem dX8_behind_4 : decode cX8_behind 4 = .ok (.iload_n 3, 1) := by decide +kernel
theorem dX8_behind_5 : decode cX8_behind 5 = .ok (.aload_n 0, 1) := by decide +kernel
theorem dX8_behind_6 : decode cX8_behind 6 = .ok (.getfield 7, 3) := by decide +kernel
theorem dX8_behind_9 : decode cX8_behind 9 = .ok (.bipush 16, 2) := by decide +kernel
theorem dX8_behind_11 : decode cX8_behind 11 = .ok (.iaload, 1) := by decide +kernel
theorem dX8_behind_12 : decode cX8_behind 12 = .ok (.if_icmp .ge 31, 3) := by decide +kernel
theorem dX8_behind_15 : decode cX8_behind 15 = .ok (.iload_n 2, 1) := by decide +kernel
theorem dX8_behind_16 : decode cX8_behind 16 = .ok (.aload_n 0, 1) := by decide +kernel
theorem dX8_behind_17 : decode cX8_behind 17 = .ok (.iload_n 3, 1) := by decide +kernel
theorem dX8_behind_18 : decode cX8_behind 18 = .ok (.invokevirtual 130, 3) := by decide +kernel
theorem dX8_behind_21 : decode cX8_behind 21 = .ok (.iload_n 1, 1) := by decide +kernel
theorem dX8_behind_22 : decode cX8_behind 22 = .ok (.invokestatic 127, 3) := by decide +kernel
theorem dX8_behind_25 : decode cX8_behind 25 = .ok (.ifCond .eq 9, 3) := by decide +kernel
theorem dX8_behind_28 : decode cX8_behind 28 = .ok (.iconst 1, 1) := by decide +kernel
theorem dX8_behind_29 : decode cX8_behind 29 = .ok (.iload_n 3, 1) := by decide +kernel
theorem dX8_behind_30 : decode cX8_behind 30 = .ok (.ishl, 1) := by decide +kernel
theorem dX8_behind_31 : decode cX8_behind 31 = .ok (.goto 4, 3) := by decide +kernel
theorem dX8_behind_34 : decode cX8_behind 34 = .ok (.iconst 0, 1) := by decide +kernel
theorem dX8_behind_35 : decode cX8_behind 35 = .ok (.ior, 1) := by decide +kernel
theorem dX8_behind_36 : decode cX8_behind 36 = .ok (.istore_n 2, 1) := by decide +kernel
theorem dX8_behind_37 : decode cX8_behind 37 = .ok (.iinc 3 1, 3) := by decide +kernel
theorem dX8_behind_40 : decode cX8_behind 40 = .ok (.goto (-36), 3) := by decide +kernel
theorem dX8_behind_43 : decode cX8_behind 43 = .ok (.iload_n 2, 1) := by decide +kernel
theorem dX8_behind_44 : decode cX8_behind 44 = .ok (.ireturn, 1) := by decide +kernel
theorem dX8_many_0 : decode cX8_many 0 = .ok (.iconst 0, 1) := by decide +kernel
theorem dX8_many_1 : decode cX8_many 1 = .ok (.istore_n 1, 1) := by decide +kernel
theorem dX8_many_2 : decode cX8_many 2 = .ok (.iconst 0, 1) := by decide +kernel
theorem dX8_many_3 : decode cX8_many 3 = .ok (.istore_n 2, 1) := by decide +kernel
theorem dX8_many_4 : decode cX8_many 4 = .ok (.iload_n 2, 1) := by decide +kernel
theorem dX8_many_5 : decode cX8_many 5 = .ok (.bipush 32, 2) := by decide +kernel
theorem dX8_many_7 : decode cX8_many 7 = .ok (.if_icmp .ge 25, 3) := by decide +kernel
theorem dX8_many_10 : decode cX8_many 10 = .ok (.iload_n 1, 1) := by decide +kernel
theorem dX8_many_11 : decode cX8_many 11 = .ok (.iload_n 0, 1) := by decide +kernel
theorem dX8_many_12 : decode cX8_many 12 = .ok (.iload_n 2, 1) := by decide +kernel
theorem dX8_many_13 : decode cX8_many 13 = .ok (.invokestatic 127, 3) := by decide +kernel
theorem dX8_many_16 : decode cX8_many 16 = .ok (.ifCond .eq 7, 3) := by decide +kernel
theorem dX8_many_19 : decode cX8_many 19 = .ok (.iconst 1, 1) := by decide +kernel
theorem dX8_many_20 : decode cX8_many 20 = .ok (.goto 4, 3) := by decide +kernel
theorem dX8_many_23 : decode cX8_many 23 = .ok (.iconst 0, 1) := by decide +kernel
theorem dX8_many_24 : decode cX8_many 24 = .ok (.iadd, 1) := by decide +kernel
theorem dX8_many_25 : decode cX8_many 25 = .ok (.istore_n 1, 1) := by decide +kernel
theorem dX8_many_26 : decode cX8_many 26 = .ok (.iinc 2 1, 3) := by decide +kernel
theorem dX8_many_29 : decode cX8_many 29 = .ok (.goto (-25), 3) := by decide +kernel
theorem dX8_many_32 : decode cX8_many 32 = .ok (.iload_n 1, 1) := by decide +kernel
theorem dX8_many_33 : decode cX8_many 33 = .ok (.ireturn, 1) := by decide +kernel
theorem dX8_putsBefore_0 : decode cX8_putsBefore 0 = .ok (.aload_n 0, 1) := by decide +kernel
theorem dX8_putsBefore_1 : decode cX8_putsBefore 1 = .ok (.iload_n 1, 1) := by decide +kernel
theorem dX8_putsBefore_2 : decode cX8_putsBefore 2 = .ok (.invokevirtual 121, 3) := by decide +kernel
theorem dX8_putsBefore_5 : decode cX8_putsBefore 5 = .ok (.ifCond .eq 11, 3) := by decide +kernel
theorem dX8_putsBefore_8 : decode cX8_putsBefore 8 = .ok (.aload_n 0, 1) := by decide +kernel
theorem dX8_putsBefore_9 : decode cX8_putsBefore 9 = .ok (.iload_n 2, 1) := by decide +kernel
theorem dX8_putsBefore_10 : decode cX8_putsBefore 10 = .ok (.invokevirtual 121, 3) := by decide +kernel
theorem dX8_putsBefore_13 : decode cX8_putsBefore 13 = .ok (.ifCond .ne 9, 3) := by decide +kernel
theorem dX8_putsBefore_16 : decode cX8_putsBefore 16 = .ok (.aload_n 0, 1) := by decide +kernel
theorem dX8_putsBefore_17 : decode cX8_putsBefore 17 = .ok (.iconst 1, 1) := by decide +kernel
theorem dX8_putsBefore_18 : decode cX8_putsBefore 18 = .ok (.invokevirtual 87, 3) := by decide +kernel
theorem dX8_putsBefore_21 : decode cX8_putsBefore 21 = .ok (.ireturn, 1) := by decide +kernel
theorem dX8_putsBefore_22 : decode cX8_putsBefore 22 = .ok (.iload_n 1, 1) := by decide +kernel
theorem dX8_putsBefore_23 : decode cX8_putsBefore 23 = .ok (.iload_n 2, 1) := by decide +kernel
theorem dX8_putsBefore_24 : decode cX8_putsBefore 24 = .ok (.if_icmp .eq 19, 3) := by decide +kernel
theorem dX8_putsBefore_27 : decode cX8_putsBefore 27 = .ok (.aload_n 0, 1) := by decide +kernel
theorem dX8_putsBefore_28 : decode cX8_putsBefore 28 = .ok (.getfield 7, 3) := by decide +kernel
theorem dX8_putsBefore_31 : decode cX8_putsBefore 31 = .ok (.bipush 77, 2) := by decide +kernel
theorem dX8_putsBefore_33 : decode cX8_putsBefore 33 = .ok (.iload_n 2, 1) := by decide +kernel
theorem dX8_putsBefore_34 : decode cX8_putsBefore 34 = .ok (.iadd, 1) := by decide +kernel
theorem dX8_putsBefore_35 : decode cX8_putsBefore 35 = .ok (.iaload, 1) := by decide +kernel
theorem dX8_putsBefore_36 : decode cX8_putsBefore 36 = .ok (.iload_n 1, 1) := by decide +kernel
theorem dX8_putsBefore_37 : decode cX8_putsBefore 37 = .ok (.invokestatic 127, 3) := by decide +kernel
theorem dX8_putsBefore_40 : decode cX8_putsBefore 40 = .ok (.ifCond .eq 9, 3) := by decide +kernel
theorem dX8_putsBefore_43 : decode cX8_putsBefore 43 = .ok (.aload_n 0, 1) := by decide +kernel
theorem dX8_putsBefore_44 : decode cX8_putsBefore 44 = .ok (.iconst 2, 1) := by decide +kernel
theorem dX8_putsBefore_45 : decode cX8_putsBefore 45 = .ok (.invokevirtual 87, 3) := by decide +kernel
theorem dX8_putsBefore_48 : decode cX8_putsBefore 48 = .ok (.ireturn, 1) := by decide +kernel
theorem dX8_putsBefore_49 : decode cX8_putsBefore 49 = .ok (.aload_n 0, 1) := by decide +kernel
theorem dX8_putsBefore_50 : decode cX8_putsBefore 50 = .ok (.iload_n 1, 1) := by decide +kernel
theorem dX8_putsBefore_51 : decode cX8_putsBefore 51 = .ok (.invokevirtual 130, 3) := by decide +kernel
theorem dX8_putsBefore_54 : decode cX8_putsBefore 54 = .ok (.iload_n 2, 1) := by decide +kernel
theorem dX8_putsBefore_55 : decode cX8_putsBefore 55 = .ok (.invokestatic 127, 3) := by decide +kernel
theorem dX8_putsBefore_58 : decode cX8_putsBefore 58 = .ok (.ifCond .eq 9, 3) := by decide +kernel
theorem dX8_putsBefore_61 : decode cX8_putsBefore 61 = .ok (.aload_n 0, 1) := by decide +kernel
theorem dX8_putsBefore_62 : decode cX8_putsBefore 62 = .ok (.iconst 3, 1) := by decide +kernel
theorem dX8_putsBefore_63 : decode cX8_putsBefore 63 = .ok (.invokevirtual 87, 3) := by decide +kernel
theorem dX8_putsBefore_66 : decode cX8_putsBefore 66 = .ok (.ireturn, 1) := by decide +kernel
theorem dX8_putsBefore_67 : decode cX8_putsBefore 67 = .ok (.aload_n 0, 1) := by decide +kernel
theorem dX8_putsBefore_68 : decode cX8_putsBefore 68 = .ok (.getfield 7, 3) := by decide +kernel
theorem dX8_putsBefore_71 : decode cX8_putsBefore 71 = .ok (.bipush 77, 2) := by decide +kernel
theorem dX8_putsBefore_73 : decode cX8_putsBefore 73 = .ok (.iload_n 2, 1) := by decide +kernel
theorem dX8_putsBefore_74 : decode cX8_putsBefore 74 = .ok (.iadd, 1) := by decide +kernel
theorem dX8_putsBefore_75 : decode cX8_putsBefore 75 = .ok (.dup2, 1) := by decide +kernel
theorem dX8_putsBefore_76 : decode cX8_putsBefore 76 = .ok (.iaload, 1) := by decide +kernel
theorem dX8_putsBefore_77 : decode cX8_putsBefore 77 = .ok (.iconst 1, 1) := by decide +kernel
theorem dX8_putsBefore_78 : decode cX8_putsBefore 78 = .ok (.iload_n 1, 1) := by decide +kernel
theorem dX8_putsBefore_79 : decode cX8_putsBefore 79 = .ok (.ishl, 1) := by decide +kernel
theorem dX8_putsBefore_80 : decode cX8_putsBefore 80 = .ok (.ior, 1) := by decide +kernel
theorem dX8_putsBefore_81 : decode cX8_putsBefore 81 = .ok (.iastore, 1) := by decide +kernel
theorem dX8_putsBefore_82 : decode cX8_putsBefore 82 = .ok (.aload_n 0, 1) := by decide +kernel
theorem dX8_putsBefore_83 : decode cX8_putsBefore 83 = .ok (.aload_n 0, 1) := by decide +kernel
theorem dX8_putsBefore_84 : decode cX8_putsBefore 84 = .ok (.iload_n 2, 1) := by decide +kernel
theorem dX8_putsBefore_85 : decode cX8_putsBefore 85 = .ok (.invokevirtual 130, 3) := by decide +kernel
theorem dX8_putsBefore_88 : decode cX8_putsBefore 88 = .ok (.invokestatic 133, 3) := by decide +kernel
theorem dX8_putsBefore_91 : decode cX8_putsBefore 91 = .ok (.invokevirtual 91, 3) := by decide +kernel
theorem dX8_putsBefore_94 : decode cX8_putsBefore 94 = .ok (.ireturn, 1) := by decide +kernel
theorem dX8_before_0 : decode cX8_before 0 = .ok (.aload_n 0, 1) := by decide +kernel
theorem dX8_before_1 : decode cX8_before 1 = .ok (.invokevirtual 84, 3) := by decide +kernel
theorem dX8_before_4 : decode cX8_before 4 = .ok (.aload_n 0, 1) := by decide +kernel
theorem dX8_before_5 : decode cX8_before 5 = .ok (.aload_n 0, 1) := by decide +kernel
theorem dX8_before_6 : decode cX8_before 6 = .ok (.iload_n 1, 1) := by decide +kernel
theorem dX8_before_7 : decode cX8_before 7 = .ok (.iload_n 2, 1) := by decide +kernel
theorem dX8_before_8 : decode cX8_before 8 = .ok (.invokevirtual 136, 3) := by decide +kernel
theorem dX8_before_11 : decode cX8_before 11 = .ok (.invokevirtual 94, 3) := by decide +kernel
theorem dX8_before_14 : decode cX8_before 14 = .ok (.ireturn, 1) := by decide +kernel
theorem dX8_pairOf_0 : decode cX8_pairOf 0 = .ok (.aload_n 0, 1) := by decide +kernel
theorem dX8_pairOf_1 : decode cX8_pairOf 1 = .ok (.getfield 7, 3) := by decide +kernel
theorem dX8_pairOf_4 : decode cX8_pairOf 4 = .ok (.bipush 89, 2) := by decide +kernel
theorem dX8_pairOf_6 : decode cX8_pairOf 6 = .ok (.iload_n 1, 1) := by decide +kernel
theorem dX8_pairOf_7 : decode cX8_pairOf 7 = .ok (.iadd, 1) := by decide +kernel
theorem dX8_pairOf_8 : decode cX8_pairOf 8 = .ok (.iaload, 1) := by decide +kernel
theorem dX8_pairOf_9 : decode cX8_pairOf 9 = .ok (.iload_n 2, 1) := by decide +kernel
theorem dX8_pairOf_10 : decode cX8_pairOf 10 = .ok (.invokestatic 127, 3) := by decide +kernel
theorem dX8_pairOf_13 : decode cX8_pairOf 13 = .ok (.ifCond .eq 7, 3) := by decide +kernel
theorem dX8_pairOf_16 : decode cX8_pairOf 16 = .ok (.iconst 1, 1) := by decide +kernel
theorem dX8_pairOf_17 : decode cX8_pairOf 17 = .ok (.goto 24, 3) := by decide +kernel
theorem dX8_pairOf_20 : decode cX8_pairOf 20 = .ok (.aload_n 0, 1) := by decide +kernel
theorem dX8_pairOf_21 : decode cX8_pairOf 21 = .ok (.getfield 7, 3) := by decide +kernel
theorem dX8_pairOf_24 : decode cX8_pairOf 24 = .ok (.bipush 101, 2) := by decide +kernel
theorem dX8_pairOf_26 : decode cX8_pairOf 26 = .ok (.iload_n 1, 1) := by decide +kernel
theorem dX8_pairOf_27 : decode cX8_pairOf 27 = .ok (.iadd, 1) := by decide +kernel
theorem dX8_pairOf_28 : decode cX8_pairOf 28 = .ok (.iaload, 1) := by decide +kernel
theorem dX8_pairOf_29 : decode cX8_pairOf 29 = .ok (.iload_n 2, 1) := by decide +kernel
theorem dX8_pairOf_30 : decode cX8_pairOf 30 = .ok (.invokestatic 127, 3) := by decide +kernel
theorem dX8_pairOf_33 : decode cX8_pairOf 33 = .ok (.ifCond .eq 7, 3) := by decide +kernel
theorem dX8_pairOf_36 : decode cX8_pairOf 36 = .ok (.iconst 2, 1) := by decide +kernel
theorem dX8_pairOf_37 : decode cX8_pairOf 37 = .ok (.goto 4, 3) := by decide +kernel
theorem dX8_pairOf_40 : decode cX8_pairOf 40 = .ok (.iconst 0, 1) := by decide +kernel
theorem dX8_pairOf_41 : decode cX8_pairOf 41 = .ok (.ireturn, 1) := by decide +kernel
theorem dX8_parts_0 : decode cX8_parts 0 = .ok (.aload_n 0, 1) := by decide +kernel
theorem dX8_parts_1 : decode cX8_parts 1 = .ok (.getfield 7, 3) := by decide +kernel
theorem dX8_parts_4 : decode cX8_parts 4 = .ok (.bipush 89, 2) := by decide +kernel
theorem dX8_parts_6 : decode cX8_parts 6 = .ok (.iload_n 1, 1) := by decide +kernel
theorem dX8_parts_7 : decode cX8_parts 7 = .ok (.iadd, 1) := by decide +kernel
theorem dX8_parts_8 : decode cX8_parts 8 = .ok (.dup2, 1) := by decide +kernel
theorem dX8_parts_9 : decode cX8_parts 9 = .ok (.iaload, 1) := by decide +kernel
theorem dX8_parts_10 : decode cX8_parts 10 = .ok (.iconst 1, 1) := by decide +kernel
theorem dX8_parts_11 : decode cX8_parts 11 = .ok (.iload_n 2, 1) := by decide +kernel
theorem dX8_parts_12 : decode cX8_parts 12 = .ok (.ishl, 1) := by decide +kernel
theorem dX8_parts_13 : decode cX8_parts 13 = .ok (.iconst (-1), 1) := by decide +kernel
theorem dX8_parts_14 : decode cX8_parts 14 = .ok (.ixor, 1) := by decide +kernel
theorem dX8_parts_15 : decode cX8_parts 15 = .ok (.iand, 1) := by decide +kernel
theorem dX8_parts_16 : decode cX8_parts 16 = .ok (.iastore, 1) := by decide +kernel
theorem dX8_parts_17 : decode cX8_parts 17 = .ok (.aload_n 0, 1) := by decide +kernel
theorem dX8_parts_18 : decode cX8_parts 18 = .ok (.getfield 7, 3) := by decide +kernel
theorem dX8_parts_21 : decode cX8_parts 21 = .ok (.bipush 89, 2) := by decide +kernel
theorem dX8_parts_23 : decode cX8_parts 23 = .ok (.iload_n 2, 1) := by decide +kernel
theorem dX8_parts_24 : decode cX8_parts 24 = .ok (.iadd, 1) := by decide +kernel
theorem dX8_parts_25 : decode cX8_parts 25 = .ok (.dup2, 1) := by decide +kernel
theorem dX8_parts_26 : decode cX8_parts 26 = .ok (.iaload, 1) := by decide +kernel
theorem dX8_parts_27 : decode cX8_parts 27 = .ok (.iconst 1, 1) := by decide +kernel
theorem dX8_parts_28 : decode cX8_parts 28 = .ok (.iload_n 1, 1) := by decide +kernel
theorem dX8_parts_29 : decode cX8_parts 29 = .ok (.ishl, 1) := by decide +kernel
theorem dX8_parts_30 : decode cX8_parts 30 = .ok (.iconst (-1), 1) := by decide +kernel
theorem dX8_parts_31 : decode cX8_parts 31 = .ok (.ixor, 1) := by decide +kernel
theorem dX8_parts_32 : decode cX8_parts 32 = .ok (.iand, 1) := by decide +kernel
theorem dX8_parts_33 : decode cX8_parts 33 = .ok (.iastore, 1) := by decide +kernel
theorem dX8_parts_34 : decode cX8_parts 34 = .ok (.aload_n 0, 1) := by decide +kernel
theorem dX8_parts_35 : decode cX8_parts 35 = .ok (.getfield 7, 3) := by decide +kernel
theorem dX8_parts_38 : decode cX8_parts 38 = .ok (.bipush 101, 2) := by decide +kernel
theorem dX8_parts_40 : decode cX8_parts 40 = .ok (.iload_n 1, 1) := by decide +kernel
theorem dX8_parts_41 : decode cX8_parts 41 = .ok (.iadd, 1) := by decide +kernel
theorem dX8_parts_42 : decode cX8_parts 42 = .ok (.dup2, 1) := by decide +kernel
theorem dX8_parts_43 : decode cX8_parts 43 = .ok (.iaload, 1) := by decide +kernel
theorem dX8_parts_44 : decode cX8_parts 44 = .ok (.iconst 1, 1) := by decide +kernel
theorem dX8_parts_45 : decode cX8_parts 45 = .ok (.iload_n 2, 1) := by decide +kernel
theorem dX8_parts_46 : decode cX8_parts 46 = .ok (.ishl, 1) := by decide +kernel
theorem dX8_parts_47 : decode cX8_parts 47 = .ok (.iconst (-1), 1) := by decide +kernel
theorem dX8_parts_48 : decode cX8_parts 48 = .ok (.ixor, 1) := by decide +kernel
theorem dX8_parts_49 : decode cX8_parts 49 = .ok (.iand, 1) := by decide +kernel
theorem dX8_parts_50 : decode cX8_parts 50 = .ok (.iastore, 1) := by decide +kernel
theorem dX8_parts_51 : decode cX8_parts 51 = .ok (.aload_n 0, 1) := by decide +kernel
theorem dX8_parts_52 : decode cX8_parts 52 = .ok (.getfield 7, 3) := by decide +kernel
theorem dX8_parts_55 : decode cX8_parts 55 = .ok (.bipush 101, 2) := by decide +kernel
theorem dX8_parts_57 : decode cX8_parts 57 = .ok (.iload_n 2, 1) := by decide +kernel
theorem dX8_parts_58 : decode cX8_parts 58 = .ok (.iadd, 1) := by decide +kernel
theorem dX8_parts_59 : decode cX8_parts 59 = .ok (.dup2, 1) := by decide +kernel
theorem dX8_parts_60 : decode cX8_parts 60 = .ok (.iaload, 1) := by decide +kernel
theorem dX8_parts_61 : decode cX8_parts 61 = .ok (.iconst 1, 1) := by decide +kernel
theorem dX8_parts_62 : decode cX8_parts 62 = .ok (.iload_n 1, 1) := by decide +kernel
theorem dX8_parts_63 : decode cX8_parts 63 = .ok (.ishl, 1) := by decide +kernel
theorem dX8_parts_64 : decode cX8_parts 64 = .ok (.iconst (-1), 1) := by decide +kernel
theorem dX8_parts_65 : decode cX8_parts 65 = .ok (.ixor, 1) := by decide +kernel
theorem dX8_parts_66 : decode cX8_parts 66 = .ok (.iand, 1) := by decide +kernel
theorem dX8_parts_67 : decode cX8_parts 67 = .ok (.iastore, 1) := by decide +kernel
theorem dX8_parts_68 : decode cX8_parts 68 = .ok (.return_, 1) := by decide +kernel
theorem dX8_pairs_0 : decode cX8_pairs 0 = .ok (.aload_n 0, 1) := by decide +kernel
theorem dX8_pairs_1 : decode cX8_pairs 1 = .ok (.iload_n 1, 1) := by decide +kernel
theorem dX8_pairs_2 : decode cX8_pairs 2 = .ok (.invokevirtual 121, 3) := by decide +kernel
theorem dX8_pairs_5 : decode cX8_pairs 5 = .ok (.ifCond .eq 11, 3) := by decide +kernel
theorem dX8_pairs_8 : decode cX8_pairs 8 = .ok (.aload_n 0, 1) := by decide +kernel
theorem dX8_pairs_9 : decode cX8_pairs 9 = .ok (.iload_n 2, 1) := by decide +kernel
theorem dX8_pairs_10 : decode cX8_pairs 10 = .ok (.invokevirtual 121, 3) := by decide +kernel
theorem dX8_pairs_13 : decode cX8_pairs 13 = .ok (.ifCond .ne 9, 3) := by decide +kernel
theorem dX8_pairs_16 : decode cX8_pairs 16 = .ok (.aload_n 0, 1) := by decide +kernel
theorem dX8_pairs_17 : decode cX8_pairs 17 = .ok (.iconst 1, 1) := by decide +kernel
theorem dX8_pairs_18 : decode cX8_pairs 18 = .ok (.invokevirtual 87, 3) := by decide +kernel
theorem dX8_pairs_21 : decode cX8_pairs 21 = .ok (.ireturn, 1) := by decide +kernel
theorem dX8_pairs_22 : decode cX8_pairs 22 = .ok (.iload_n 1, 1) := by decide +kernel
theorem dX8_pairs_23 : decode cX8_pairs 23 = .ok (.iload_n 2, 1) := by decide +kernel
theorem dX8_pairs_24 : decode cX8_pairs 24 = .ok (.if_icmp .ne 9, 3) := by decide +kernel
theorem dX8_pairs_27 : decode cX8_pairs 27 = .ok (.aload_n 0, 1) := by decide +kernel
theorem dX8_pairs_28 : decode cX8_pairs 28 = .ok (.iconst 2, 1) := by decide +kernel
theorem dX8_pairs_29 : decode cX8_pairs 29 = .ok (.invokevirtual 87, 3) := by decide +kernel
theorem dX8_pairs_32 : decode cX8_pairs 32 = .ok (.ireturn, 1) := by decide +kernel
theorem dX8_pairs_33 : decode cX8_pairs 33 = .ok (.aload_n 0, 1) := by decide +kernel
theorem dX8_pairs_34 : decode cX8_pairs 34 = .ok (.iload_n 1, 1) := by decide +kernel
theorem dX8_pairs_35 : decode cX8_pairs 35 = .ok (.iload_n 2, 1) := by decide +kernel
theorem dX8_pairs_36 : decode cX8_pairs 36 = .ok (.invokevirtual 139, 3) := by decide +kernel
theorem dX8_pairs_39 : decode cX8_pairs 39 = .ok (.istore 4, 2) := by decide +kernel
theorem dX8_pairs_41 : decode cX8_pairs 41 = .ok (.aload_n 0, 1) := by decide +kernel
theorem dX8_pairs_42 : decode cX8_pairs 42 = .ok (.iload_n 1, 1) := by decide +kernel
theorem dX8_pairs_43 : decode cX8_pairs 43 = .ok (.iload_n 2, 1) := by decide +kernel
theorem dX8_pairs_44 : decode cX8_pairs 44 = .ok (.invokevirtual 142, 3) := by decide +kernel
theorem dX8_pairs_47 : decode cX8_pairs 47 = .ok (.iload_n 3, 1) := by decide +kernel
theorem dX8_pairs_48 : decode cX8_pairs 48 = .ok (.ifCond .eq 8, 3) := by decide +kernel
theorem dX8_pairs_51 : decode cX8_pairs 51 = .ok (.bipush 89, 2) := by decide +kernel
theorem dX8_pairs_53 : decode cX8_pairs 53 = .ok (.goto 5, 3) := by decide +kernel
theorem dX8_pairs_56 : decode cX8_pairs 56 = .ok (.bipush 101, 2) := by decide +kernel
theorem dX8_pairs_58 : decode cX8_pairs 58 = .ok (.istore 5, 2) := by decide +kernel
theorem dX8_pairs_60 : decode cX8_pairs 60 = .ok (.aload_n 0, 1) := by decide +kernel
theorem dX8_pairs_61 : decode cX8_pairs 61 = .ok (.getfield 7, 3) := by decide +kernel
theorem dX8_pairs_64 : decode cX8_pairs 64 = .ok (.iload 5, 2) := by decide +kernel
theorem dX8_pairs_66 : decode cX8_pairs 66 = .ok (.iload_n 1, 1) := by decide +kernel
theorem dX8_pairs_67 : decode cX8_pairs 67 = .ok (.iadd, 1) := by decide +kernel
theorem dX8_pairs_68 : decode cX8_pairs 68 = .ok (.dup2, 1) := by decide +kernel
theorem dX8_pairs_69 : decode cX8_pairs 69 = .ok (.iaload, 1) := by decide +kernel
theorem dX8_pairs_70 : decode cX8_pairs 70 = .ok (.iconst 1, 1) := by decide +kernel
theorem dX8_pairs_71 : decode cX8_pairs 71 = .ok (.iload_n 2, 1) := by decide +kernel
theorem dX8_pairs_72 : decode cX8_pairs 72 = .ok (.ishl, 1) := by decide +kernel
theorem dX8_pairs_73 : decode cX8_pairs 73 = .ok (.ior, 1) := by decide +kernel
theorem dX8_pairs_74 : decode cX8_pairs 74 = .ok (.iastore, 1) := by decide +kernel
theorem dX8_pairs_75 : decode cX8_pairs 75 = .ok (.aload_n 0, 1) := by decide +kernel
theorem dX8_pairs_76 : decode cX8_pairs 76 = .ok (.getfield 7, 3) := by decide +kernel
theorem dX8_pairs_79 : decode cX8_pairs 79 = .ok (.iload 5, 2) := by decide +kernel
theorem dX8_pairs_81 : decode cX8_pairs 81 = .ok (.iload_n 2, 1) := by decide +kernel
theorem dX8_pairs_82 : decode cX8_pairs 82 = .ok (.iadd, 1) := by decide +kernel
theorem dX8_pairs_83 : decode cX8_pairs 83 = .ok (.dup2, 1) := by decide +kernel
theorem dX8_pairs_84 : decode cX8_pairs 84 = .ok (.iaload, 1) := by decide +kernel
theorem dX8_pairs_85 : decode cX8_pairs 85 = .ok (.iconst 1, 1) := by decide +kernel
theorem dX8_pairs_86 : decode cX8_pairs 86 = .ok (.iload_n 1, 1) := by decide +kernel
theorem dX8_pairs_87 : decode cX8_pairs 87 = .ok (.ishl, 1) := by decide +kernel
theorem dX8_pairs_88 : decode cX8_pairs 88 = .ok (.ior, 1) := by decide +kernel
theorem dX8_pairs_89 : decode cX8_pairs 89 = .ok (.iastore, 1) := by decide +kernel
theorem dX8_pairs_90 : decode cX8_pairs 90 = .ok (.aload_n 0, 1) := by decide +kernel
theorem dX8_pairs_91 : decode cX8_pairs 91 = .ok (.iload 4, 2) := by decide +kernel
theorem dX8_pairs_93 : decode cX8_pairs 93 = .ok (.invokevirtual 91, 3) := by decide +kernel
theorem dX8_pairs_96 : decode cX8_pairs 96 = .ok (.ireturn, 1) := by decide +kernel
theorem dX8_pair_0 : decode cX8_pair 0 = .ok (.aload_n 0, 1) := by decide +kernel
theorem dX8_pair_1 : decode cX8_pair 1 = .ok (.invokevirtual 84, 3) := by decide +kernel
theorem dX8_pair_4 : decode cX8_pair 4 = .ok (.aload_n 0, 1) := by decide +kernel
theorem dX8_pair_5 : decode cX8_pair 5 = .ok (.aload_n 0, 1) := by decide +kernel
theorem dX8_pair_6 : decode cX8_pair 6 = .ok (.iload_n 1, 1) := by decide +kernel
theorem dX8_pair_7 : decode cX8_pair 7 = .ok (.iload_n 2, 1) := by decide +kernel
theorem dX8_pair_8 : decode cX8_pair 8 = .ok (.iload_n 3, 1) := by decide +kernel
theorem dX8_pair_9 : decode cX8_pair 9 = .ok (.invokevirtual 146, 3) := by decide +kernel
theorem dX8_pair_12 : decode cX8_pair 12 = .ok (.invokevirtual 94, 3) := by decide +kernel
theorem dX8_pair_15 : decode cX8_pair 15 = .ok (.ireturn, 1) := by decide +kernel
theorem dX8_drop_0 : decode cX8_drop 0 = .ok (.aload_n 0, 1) := by decide +kernel
theorem dX8_drop_1 : decode cX8_drop 1 = .ok (.iload_n 1, 1) := by decide +kernel
theorem dX8_drop_2 : decode cX8_drop 2 = .ok (.invokevirtual 121, 3) := by decide +kernel
theorem dX8_drop_5 : decode cX8_drop 5 = .ok (.ifCond .eq 11, 3) := by decide +kernel
theorem dX8_drop_8 : decode cX8_drop 8 = .ok (.aload_n 0, 1) := by decide +kernel
theorem dX8_drop_9 : decode cX8_drop 9 = .ok (.iload_n 2, 1) := by decide +kernel
theorem dX8_drop_10 : decode cX8_drop 10 = .ok (.invokevirtual 121, 3) := by decide +kernel
theorem dX8_drop_13 : decode cX8_drop 13 = .ok (.ifCond .ne 9, 3) := by decide +kernel
theorem dX8_drop_16 : decode cX8_drop 16 = .ok (.aload_n 0, 1) := by decide +kernel
theorem dX8_drop_17 : decode cX8_drop 17 = .ok (.iconst 1, 1) := by decide +kernel
theorem dX8_drop_18 : decode cX8_drop 18 = .ok (.invokevirtual 87, 3) := by decide +kernel
theorem dX8_drop_21 : decode cX8_drop 21 = .ok (.ireturn, 1) := by decide +kernel
theorem dX8_drop_22 : decode cX8_drop 22 = .ok (.aload_n 0, 1) := by decide +kernel
theorem dX8_drop_23 : decode cX8_drop 23 = .ok (.getfield 7, 3) := by decide +kernel
theorem dX8_drop_26 : decode cX8_drop 26 = .ok (.bipush 77, 2) := by decide +kernel
theorem dX8_drop_28 : decode cX8_drop 28 = .ok (.iload_n 2, 1) := by decide +kernel
theorem dX8_drop_29 : decode cX8_drop 29 = .ok (.iadd, 1) := by decide +kernel
theorem dX8_drop_30 : decode cX8_drop 30 = .ok (.iaload, 1) := by decide +kernel
theorem dX8_drop_31 : decode cX8_drop 31 = .ok (.iload_n 1, 1) := by decide +kernel
theorem dX8_drop_32 : decode cX8_drop 32 = .ok (.invokestatic 127, 3) := by decide +kernel
theorem dX8_drop_35 : decode cX8_drop 35 = .ok (.ifCond .ne 19, 3) := by decide +kernel
theorem dX8_drop_38 : decode cX8_drop 38 = .ok (.aload_n 0, 1) := by decide +kernel
theorem dX8_drop_39 : decode cX8_drop 39 = .ok (.getfield 7, 3) := by decide +kernel
theorem dX8_drop_42 : decode cX8_drop 42 = .ok (.bipush 77, 2) := by decide +kernel
theorem dX8_drop_44 : decode cX8_drop 44 = .ok (.iload_n 1, 1) := by decide +kernel
theorem dX8_drop_45 : decode cX8_drop 45 = .ok (.iadd, 1) := by decide +kernel
theorem dX8_drop_46 : decode cX8_drop 46 = .ok (.iaload, 1) := by decide +kernel
theorem dX8_drop_47 : decode cX8_drop 47 = .ok (.iload_n 2, 1) := by decide +kernel
theorem dX8_drop_48 : decode cX8_drop 48 = .ok (.invokestatic 127, 3) := by decide +kernel
theorem dX8_drop_51 : decode cX8_drop 51 = .ok (.ifCond .eq 7, 3) := by decide +kernel
theorem dX8_drop_54 : decode cX8_drop 54 = .ok (.iconst 1, 1) := by decide +kernel
theorem dX8_drop_55 : decode cX8_drop 55 = .ok (.goto 4, 3) := by decide +kernel
theorem dX8_drop_58 : decode cX8_drop 58 = .ok (.iconst 0, 1) := by decide +kernel
theorem dX8_drop_59 : decode cX8_drop 59 = .ok (.istore_n 3, 1) := by decide +kernel
theorem dX8_drop_60 : decode cX8_drop 60 = .ok (.aload_n 0, 1) := by decide +kernel
theorem dX8_drop_61 : decode cX8_drop 61 = .ok (.iload_n 1, 1) := by decide +kernel
theorem dX8_drop_62 : decode cX8_drop 62 = .ok (.iload_n 2, 1) := by decide +kernel
theorem dX8_drop_63 : decode cX8_drop 63 = .ok (.invokevirtual 139, 3) := by decide +kernel
theorem dX8_drop_66 : decode cX8_drop 66 = .ok (.istore 4, 2) := by decide +kernel
theorem dX8_drop_68 : decode cX8_drop 68 = .ok (.iload_n 3, 1) := by decide +kernel
theorem dX8_drop_69 : decode cX8_drop 69 = .ok (.ifCond .ne 14, 3) := by decide +kernel
theorem dX8_drop_72 : decode cX8_drop 72 = .ok (.iload 4, 2) := by decide +kernel
theorem dX8_drop_74 : decode cX8_drop 74 = .ok (.ifCond .ne 9, 3) := by decide +kernel
theorem dX8_drop_77 : decode cX8_drop 77 = .ok (.aload_n 0, 1) := by decide +kernel
theorem dX8_drop_78 : decode cX8_drop 78 = .ok (.iconst 2, 1) := by decide +kernel
theorem dX8_drop_79 : decode cX8_drop 79 = .ok (.invokevirtual 87, 3) := by decide +kernel
theorem dX8_drop_82 : decode cX8_drop 82 = .ok (.ireturn, 1) := by decide +kernel
theorem dX8_drop_83 : decode cX8_drop 83 = .ok (.aload_n 0, 1) := by decide +kernel
theorem dX8_drop_84 : decode cX8_drop 84 = .ok (.invokevirtual 84, 3) := by decide +kernel
theorem dX8_drop_87 : decode cX8_drop 87 = .ok (.aload_n 0, 1) := by decide +kernel
theorem dX8_drop_88 : decode cX8_drop 88 = .ok (.getfield 7, 3) := by decide +kernel
theorem dX8_drop_91 : decode cX8_drop 91 = .ok (.bipush 77, 2) := by decide +kernel
theorem dX8_drop_93 : decode cX8_drop 93 = .ok (.iload_n 2, 1) := by decide +kernel
theorem dX8_drop_94 : decode cX8_drop 94 = .ok (.iadd, 1) := by decide +kernel
theorem dX8_drop_95 : decode cX8_drop 95 = .ok (.dup2, 1) := by decide +kernel
theorem dX8_drop_96 : decode cX8_drop 96 = .ok (.iaload, 1) := by decide +kernel
theorem dX8_drop_97 : decode cX8_drop 97 = .ok (.iconst 1, 1) := by decide +kernel
theorem dX8_drop_98 : decode cX8_drop 98 = .ok (.iload_n 1, 1) := by decide +kernel
theorem dX8_drop_99 : decode cX8_drop 99 = .ok (.ishl, 1) := by decide +kernel
theorem dX8_drop_100 : decode cX8_drop 100 = .ok (.iconst (-1), 1) := by decide +kernel
theorem dX8_drop_101 : decode cX8_drop 101 = .ok (.ixor, 1) := by decide +kernel
theorem dX8_drop_102 : decode cX8_drop 102 = .ok (.iand, 1) := by decide +kernel
theorem dX8_drop_103 : decode cX8_drop 103 = .ok (.iastore, 1) := by decide +kernel
theorem dX8_drop_104 : decode cX8_drop 104 = .ok (.aload_n 0, 1) := by decide +kernel
theorem dX8_drop_105 : decode cX8_drop 105 = .ok (.getfield 7, 3) := by decide +kernel
theorem dX8_drop_108 : decode cX8_drop 108 = .ok (.bipush 77, 2) := by decide +kernel
theorem dX8_drop_110 : decode cX8_drop 110 = .ok (.iload_n 1, 1) := by decide +kernel
theorem dX8_drop_111 : decode cX8_drop 111 = .ok (.iadd, 1) := by decide +kernel
theorem dX8_drop_112 : decode cX8_drop 112 = .ok (.dup2, 1) := by decide +kernel
theorem dX8_drop_113 : decode cX8_drop 113 = .ok (.iaload, 1) := by decide +kernel
theorem dX8_drop_114 : decode cX8_drop 114 = .ok (.iconst 1, 1) := by decide +kernel
theorem dX8_drop_115 : decode cX8_drop 115 = .ok (.iload_n 2, 1) := by decide +kernel
theorem dX8_drop_116 : decode cX8_drop 116 = .ok (.ishl, 1) := by decide +kernel
theorem dX8_drop_117 : decode cX8_drop 117 = .ok (.iconst (-1), 1) := by decide +kernel
theorem dX8_drop_118 : decode cX8_drop 118 = .ok (.ixor, 1) := by decide +kernel
theorem dX8_drop_119 : decode cX8_drop 119 = .ok (.iand, 1) := by decide +kernel
theorem dX8_drop_120 : decode cX8_drop 120 = .ok (.iastore, 1) := by decide +kernel
theorem dX8_drop_121 : decode cX8_drop 121 = .ok (.aload_n 0, 1) := by decide +kernel
theorem dX8_drop_122 : decode cX8_drop 122 = .ok (.iload_n 1, 1) := by decide +kernel
theorem dX8_drop_123 : decode cX8_drop 123 = .ok (.iload_n 2, 1) := by decide +kernel
theorem dX8_drop_124 : decode cX8_drop 124 = .ok (.invokevirtual 142, 3) := by decide +kernel
theorem dX8_drop_127 : decode cX8_drop 127 = .ok (.aload_n 0, 1) := by decide +kernel
theorem dX8_drop_128 : decode cX8_drop 128 = .ok (.aload_n 0, 1) := by decide +kernel
theorem dX8_drop_129 : decode cX8_drop 129 = .ok (.iload_n 3, 1) := by decide +kernel
theorem dX8_drop_130 : decode cX8_drop 130 = .ok (.ifCond .eq 7, 3) := by decide +kernel
theorem dX8_drop_133 : decode cX8_drop 133 = .ok (.iconst 1, 1) := by decide +kernel
theorem dX8_drop_134 : decode cX8_drop 134 = .ok (.goto 4, 3) := by decide +kernel
theorem dX8_drop_137 : decode cX8_drop 137 = .ok (.iconst 0, 1) := by decide +kernel
theorem dX8_drop_138 : decode cX8_drop 138 = .ok (.iload 4, 2) := by decide +kernel
theorem dX8_drop_140 : decode cX8_drop 140 = .ok (.ifCond .eq 7, 3) := by decide +kernel
theorem dX8_drop_143 : decode cX8_drop 143 = .ok (.iconst 2, 1) := by decide +kernel
theorem dX8_drop_144 : decode cX8_drop 144 = .ok (.goto 4, 3) := by decide +kernel
theorem dX8_drop_147 : decode cX8_drop 147 = .ok (.iconst 0, 1) := by decide +kernel
theorem dX8_drop_148 : decode cX8_drop 148 = .ok (.iadd, 1) := by decide +kernel
theorem dX8_drop_149 : decode cX8_drop 149 = .ok (.invokevirtual 91, 3) := by decide +kernel
theorem dX8_drop_152 : decode cX8_drop 152 = .ok (.invokevirtual 94, 3) := by decide +kernel
theorem dX8_drop_155 : decode cX8_drop 155 = .ok (.ireturn, 1) := by decide +kernel
theorem dX8_weighted_0 : decode cX8_weighted 0 = .ok (.iconst 0, 1) := by decide +kernel
theorem dX8_weighted_1 : decode cX8_weighted 1 = .ok (.istore_n 2, 1) := by decide +kernel
theorem dX8_weighted_2 : decode cX8_weighted 2 = .ok (.iconst 0, 1) := by decide +kernel
theorem dX8_weighted_3 : decode cX8_weighted 3 = .ok (.istore_n 3, 1) := by decide +kernel
theorem dX8_weighted_4 : decode cX8_weighted 4 = .ok (.iload_n 3, 1) := by decide +kernel
theorem dX8_weighted_5 : decode cX8_weighted 5 = .ok (.aload_n 0, 1) := by decide +kernel
theorem dX8_weighted_6 : decode cX8_weighted 6 = .ok (.getfield 7, 3) := by decide +kernel
theorem dX8_weighted_9 : decode cX8_weighted 9 = .ok (.iconst 0, 1) := by decide +kernel
theorem dX8_weighted_10 : decode cX8_weighted 10 = .ok (.iaload, 1) := by decide +kernel
theorem dX8_weighted_11 : decode cX8_weighted 11 = .ok (.if_icmp .ge 27, 3) := by decide +kernel
theorem dX8_weighted_14 : decode cX8_weighted 14 = .ok (.iload_n 2, 1) := by decide +kernel
theorem dX8_weighted_15 : decode cX8_weighted 15 = .ok (.aload_n 0, 1) := by decide +kernel
theorem dX8_weighted_16 : decode cX8_weighted 16 = .ok (.getfield 7, 3) := by decide +kernel
theorem dX8_weighted_19 : decode cX8_weighted 19 = .ok (.iconst 1, 1) := by decide +kernel
theorem dX8_weighted_20 : decode cX8_weighted 20 = .ok (.iload_n 3, 1) := by decide +kernel
theorem dX8_weighted_21 : decode cX8_weighted 21 = .ok (.iadd, 1) := by decide +kernel
theorem dX8_weighted_22 : decode cX8_weighted 22 = .ok (.iaload, 1) := by decide +kernel
theorem dX8_weighted_23 : decode cX8_weighted 23 = .ok (.aload_n 0, 1) := by decide +kernel
theorem dX8_weighted_24 : decode cX8_weighted 24 = .ok (.iload_n 1, 1) := by decide +kernel
theorem dX8_weighted_25 : decode cX8_weighted 25 = .ok (.iload_n 3, 1) := by decide +kernel
theorem dX8_weighted_26 : decode cX8_weighted 26 = .ok (.invokevirtual 124, 3) := by decide +kernel
theorem dX8_weighted_29 : decode cX8_weighted 29 = .ok (.imul, 1) := by decide +kernel
theorem dX8_weighted_30 : decode cX8_weighted 30 = .ok (.iadd, 1) := by decide +kernel
theorem dX8_weighted_31 : decode cX8_weighted 31 = .ok (.istore_n 2, 1) := by decide +kernel
theorem dX8_weighted_32 : decode cX8_weighted 32 = .ok (.iinc 3 1, 3) := by decide +kernel
theorem dX8_weighted_35 : decode cX8_weighted 35 = .ok (.goto (-31), 3) := by decide +kernel
theorem dX8_weighted_38 : decode cX8_weighted 38 = .ok (.iload_n 2, 1) := by decide +kernel
theorem dX8_weighted_39 : decode cX8_weighted 39 = .ok (.ireturn, 1) := by decide +kernel
theorem dX8_task_0 : decode cX8_task 0 = .ok (.aload_n 0, 1) := by decide +kernel
theorem dX8_task_1 : decode cX8_task 1 = .ok (.iload_n 1, 1) := by decide +kernel
theorem dX8_task_2 : decode cX8_task 2 = .ok (.invokevirtual 121, 3) := by decide +kernel
theorem dX8_task_5 : decode cX8_task 5 = .ok (.ifCond .eq 13, 3) := by decide +kernel
theorem dX8_task_8 : decode cX8_task 8 = .ok (.iload_n 2, 1) := by decide +kernel
theorem dX8_task_9 : decode cX8_task 9 = .ok (.iconst 0, 1) := by decide +kernel
theorem dX8_task_10 : decode cX8_task 10 = .ok (.bipush 11, 2) := by decide +kernel
theorem dX8_task_12 : decode cX8_task 12 = .ok (.invokestatic 74, 3) := by decide +kernel
theorem dX8_task_15 : decode cX8_task 15 = .ok (.ifCond .ne 21, 3) := by decide +kernel
theorem dX8_task_18 : decode cX8_task 18 = .ok (.aload_n 0, 1) := by decide +kernel
theorem dX8_task_19 : decode cX8_task 19 = .ok (.aload_n 0, 1) := by decide +kernel
theorem dX8_task_20 : decode cX8_task 20 = .ok (.iload_n 1, 1) := by decide +kernel
theorem dX8_task_21 : decode cX8_task 21 = .ok (.invokevirtual 121, 3) := by decide +kernel
theorem dX8_task_24 : decode cX8_task 24 = .ok (.ifCond .ne 7, 3) := by decide +kernel
theorem dX8_task_27 : decode cX8_task 27 = .ok (.iconst 1, 1) := by decide +kernel
theorem dX8_task_28 : decode cX8_task 28 = .ok (.goto 4, 3) := by decide +kernel
theorem dX8_task_31 : decode cX8_task 31 = .ok (.iconst 2, 1) := by decide +kernel
theorem dX8_task_32 : decode cX8_task 32 = .ok (.invokevirtual 87, 3) := by decide +kernel
theorem dX8_task_35 : decode cX8_task 35 = .ok (.ireturn, 1) := by decide +kernel
theorem dX8_task_36 : decode cX8_task 36 = .ok (.iload_n 2, 1) := by decide +kernel
theorem dX8_task_37 : decode cX8_task 37 = .ok (.tableswitch 153 0 10 #[59, 59, 59, 59, 70, 80, 91, 101, 111, 125, 139], 59) := by decide +kernel
theorem dX8_task_96 : decode cX8_task 96 = .ok (.aload_n 0, 1) := by decide +kernel
theorem dX8_task_97 : decode cX8_task 97 = .ok (.aload_n 0, 1) := by decide +kernel
theorem dX8_task_98 : decode cX8_task 98 = .ok (.iload_n 1, 1) := by decide +kernel
theorem dX8_task_99 : decode cX8_task 99 = .ok (.iload_n 2, 1) := by decide +kernel
theorem dX8_task_100 : decode cX8_task 100 = .ok (.invokevirtual 124, 3) := by decide +kernel
theorem dX8_task_103 : decode cX8_task 103 = .ok (.invokevirtual 91, 3) := by decide +kernel
theorem dX8_task_106 : decode cX8_task 106 = .ok (.ireturn, 1) := by decide +kernel
theorem dX8_task_107 : decode cX8_task 107 = .ok (.aload_n 0, 1) := by decide +kernel
theorem dX8_task_108 : decode cX8_task 108 = .ok (.aload_n 0, 1) := by decide +kernel
theorem dX8_task_109 : decode cX8_task 109 = .ok (.iload_n 1, 1) := by decide +kernel
theorem dX8_task_110 : decode cX8_task 110 = .ok (.invokevirtual 150, 3) := by decide +kernel
theorem dX8_task_113 : decode cX8_task 113 = .ok (.invokevirtual 91, 3) := by decide +kernel
theorem dX8_task_116 : decode cX8_task 116 = .ok (.ireturn, 1) := by decide +kernel
theorem dX8_task_117 : decode cX8_task 117 = .ok (.aload_n 0, 1) := by decide +kernel
theorem dX8_task_118 : decode cX8_task 118 = .ok (.aload_n 0, 1) := by decide +kernel
theorem dX8_task_119 : decode cX8_task 119 = .ok (.iload_n 1, 1) := by decide +kernel
theorem dX8_task_120 : decode cX8_task 120 = .ok (.iconst 4, 1) := by decide +kernel
theorem dX8_task_121 : decode cX8_task 121 = .ok (.invokevirtual 124, 3) := by decide +kernel
theorem dX8_task_124 : decode cX8_task 124 = .ok (.invokevirtual 91, 3) := by decide +kernel
theorem dX8_task_127 : decode cX8_task 127 = .ok (.ireturn, 1) := by decide +kernel
theorem dX8_task_128 : decode cX8_task 128 = .ok (.aload_n 0, 1) := by decide +kernel
theorem dX8_task_129 : decode cX8_task 129 = .ok (.aload_n 0, 1) := by decide +kernel
theorem dX8_task_130 : decode cX8_task 130 = .ok (.iload_n 1, 1) := by decide +kernel
theorem dX8_task_131 : decode cX8_task 131 = .ok (.invokevirtual 130, 3) := by decide +kernel
theorem dX8_task_134 : decode cX8_task 134 = .ok (.invokevirtual 91, 3) := by decide +kernel
theorem dX8_task_137 : decode cX8_task 137 = .ok (.ireturn, 1) := by decide +kernel
theorem dX8_task_138 : decode cX8_task 138 = .ok (.aload_n 0, 1) := by decide +kernel
theorem dX8_task_139 : decode cX8_task 139 = .ok (.aload_n 0, 1) := by decide +kernel
theorem dX8_task_140 : decode cX8_task 140 = .ok (.iload_n 1, 1) := by decide +kernel
theorem dX8_task_141 : decode cX8_task 141 = .ok (.invokevirtual 153, 3) := by decide +kernel
theorem dX8_task_144 : decode cX8_task 144 = .ok (.invokevirtual 91, 3) := by decide +kernel
theorem dX8_task_147 : decode cX8_task 147 = .ok (.ireturn, 1) := by decide +kernel
theorem dX8_task_148 : decode cX8_task 148 = .ok (.aload_n 0, 1) := by decide +kernel
theorem dX8_task_149 : decode cX8_task 149 = .ok (.aload_n 0, 1) := by decide +kernel
theorem dX8_task_150 : decode cX8_task 150 = .ok (.getfield 7, 3) := by decide +kernel
theorem dX8_task_153 : decode cX8_task 153 = .ok (.bipush 77, 2) := by decide +kernel
theorem dX8_task_155 : decode cX8_task 155 = .ok (.iload_n 1, 1) := by decide +kernel
theorem dX8_task_156 : decode cX8_task 156 = .ok (.iadd, 1) := by decide +kernel
theorem dX8_task_157 : decode cX8_task 157 = .ok (.iaload, 1) := by decide +kernel
theorem dX8_task_158 : decode cX8_task 158 = .ok (.invokevirtual 91, 3) := by decide +kernel
theorem dX8_task_161 : decode cX8_task 161 = .ok (.ireturn, 1) := by decide +kernel
theorem dX8_task_162 : decode cX8_task 162 = .ok (.aload_n 0, 1) := by decide +kernel
theorem dX8_task_163 : decode cX8_task 163 = .ok (.aload_n 0, 1) := by decide +kernel
theorem dX8_task_164 : decode cX8_task 164 = .ok (.getfield 7, 3) := by decide +kernel
theorem dX8_task_167 : decode cX8_task 167 = .ok (.bipush 89, 2) := by decide +kernel
theorem dX8_task_169 : decode cX8_task 169 = .ok (.iload_n 1, 1) := by decide +kernel
theorem dX8_task_170 : decode cX8_task 170 = .ok (.iadd, 1) := by decide +kernel
theorem dX8_task_171 : decode cX8_task 171 = .ok (.iaload, 1) := by decide +kernel
theorem dX8_task_172 : decode cX8_task 172 = .ok (.invokevirtual 91, 3) := by decide +kernel
theorem dX8_task_175 : decode cX8_task 175 = .ok (.ireturn, 1) := by decide +kernel
theorem dX8_task_176 : decode cX8_task 176 = .ok (.aload_n 0, 1) := by decide +kernel
theorem dX8_task_177 : decode cX8_task 177 = .ok (.aload_n 0, 1) := by decide +kernel
theorem dX8_task_178 : decode cX8_task 178 = .ok (.getfield 7, 3) := by decide +kernel
theorem dX8_task_181 : decode cX8_task 181 = .ok (.bipush 101, 2) := by decide +kernel
theorem dX8_task_183 : decode cX8_task 183 = .ok (.iload_n 1, 1) := by decide +kernel
theorem dX8_task_184 : decode cX8_task 184 = .ok (.iadd, 1) := by decide +kernel
theorem dX8_task_185 : decode cX8_task 185 = .ok (.iaload, 1) := by decide +kernel
theorem dX8_task_186 : decode cX8_task 186 = .ok (.invokevirtual 91, 3) := by decide +kernel
theorem dX8_task_189 : decode cX8_task 189 = .ok (.ireturn, 1) := by decide +kernel
theorem dX8_task_190 : decode cX8_task 190 = .ok (.aload_n 0, 1) := by decide +kernel
theorem dX8_task_191 : decode cX8_task 191 = .ok (.aload_n 0, 1) := by decide +kernel
theorem dX8_task_192 : decode cX8_task 192 = .ok (.iload_n 1, 1) := by decide +kernel
theorem dX8_task_193 : decode cX8_task 193 = .ok (.invokevirtual 156, 3) := by decide +kernel
theorem dX8_task_196 : decode cX8_task 196 = .ok (.invokevirtual 91, 3) := by decide +kernel
theorem dX8_task_199 : decode cX8_task 199 = .ok (.ireturn, 1) := by decide +kernel
theorem dX8_worth_0 : decode cX8_worth 0 = .ok (.aload_n 0, 1) := by decide +kernel
theorem dX8_worth_1 : decode cX8_worth 1 = .ok (.iload_n 1, 1) := by decide +kernel
theorem dX8_worth_2 : decode cX8_worth 2 = .ok (.invokevirtual 153, 3) := by decide +kernel
theorem dX8_worth_5 : decode cX8_worth 5 = .ok (.istore_n 3, 1) := by decide +kernel
theorem dX8_worth_6 : decode cX8_worth 6 = .ok (.aload_n 0, 1) := by decide +kernel
theorem dX8_worth_7 : decode cX8_worth 7 = .ok (.iload_n 1, 1) := by decide +kernel
theorem dX8_worth_8 : decode cX8_worth 8 = .ok (.invokevirtual 150, 3) := by decide +kernel
theorem dX8_worth_11 : decode cX8_worth 11 = .ok (.istore 4, 2) := by decide +kernel
theorem dX8_worth_13 : decode cX8_worth 13 = .ok (.iload_n 2, 1) := by decide +kernel
theorem dX8_worth_14 : decode cX8_worth 14 = .ok (.tableswitch 82 0 2 #[26, 74, 77], 26) := by decide +kernel
theorem dX8_worth_40 : decode cX8_worth 40 = .ok (.iconst 0, 1) := by decide +kernel
theorem dX8_worth_41 : decode cX8_worth 41 = .ok (.istore 5, 2) := by decide +kernel
theorem dX8_worth_43 : decode cX8_worth 43 = .ok (.iload 5, 2) := by decide +kernel
theorem dX8_worth_45 : decode cX8_worth 45 = .ok (.aload_n 0, 1) := by decide +kernel
theorem dX8_worth_46 : decode cX8_worth 46 = .ok (.getfield 7, 3) := by decide +kernel
theorem dX8_worth_49 : decode cX8_worth 49 = .ok (.bipush 16, 2) := by decide +kernel
theorem dX8_worth_51 : decode cX8_worth 51 = .ok (.iaload, 1) := by decide +kernel
theorem dX8_worth_52 : decode cX8_worth 52 = .ok (.if_icmp .ge 33, 3) := by decide +kernel
theorem dX8_worth_55 : decode cX8_worth 55 = .ok (.iload 4, 2) := by decide +kernel
theorem dX8_worth_57 : decode cX8_worth 57 = .ok (.iload_n 3, 1) := by decide +kernel
theorem dX8_worth_58 : decode cX8_worth 58 = .ok (.iload 5, 2) := by decide +kernel
theorem dX8_worth_60 : decode cX8_worth 60 = .ok (.invokestatic 127, 3) := by decide +kernel
theorem dX8_worth_63 : decode cX8_worth 63 = .ok (.ifCond .eq 12, 3) := by decide +kernel
theorem dX8_worth_66 : decode cX8_worth 66 = .ok (.aload_n 0, 1) := by decide +kernel
theorem dX8_worth_67 : decode cX8_worth 67 = .ok (.iload 5, 2) := by decide +kernel
theorem dX8_worth_69 : decode cX8_worth 69 = .ok (.invokevirtual 150, 3) := by decide +kernel
theorem dX8_worth_72 : decode cX8_worth 72 = .ok (.goto 4, 3) := by decide +kernel
theorem dX8_worth_75 : decode cX8_worth 75 = .ok (.iconst 0, 1) := by decide +kernel
theorem dX8_worth_76 : decode cX8_worth 76 = .ok (.iadd, 1) := by decide +kernel
theorem dX8_worth_77 : decode cX8_worth 77 = .ok (.istore 4, 2) := by decide +kernel
theorem dX8_worth_79 : decode cX8_worth 79 = .ok (.iinc 5 1, 3) := by decide +kernel
theorem dX8_worth_82 : decode cX8_worth 82 = .ok (.goto (-39), 3) := by decide +kernel
theorem dX8_worth_85 : decode cX8_worth 85 = .ok (.iload 4, 2) := by decide +kernel
theorem dX8_worth_87 : decode cX8_worth 87 = .ok (.ireturn, 1) := by decide +kernel
theorem dX8_worth_88 : decode cX8_worth 88 = .ok (.iload 4, 2) := by decide +kernel
theorem dX8_worth_90 : decode cX8_worth 90 = .ok (.ireturn, 1) := by decide +kernel
theorem dX8_worth_91 : decode cX8_worth 91 = .ok (.iload_n 3, 1) := by decide +kernel
theorem dX8_worth_92 : decode cX8_worth 92 = .ok (.invokestatic 133, 3) := by decide +kernel
theorem dX8_worth_95 : decode cX8_worth 95 = .ok (.ireturn, 1) := by decide +kernel
theorem dX8_worth_96 : decode cX8_worth 96 = .ok (.iconst 0, 1) := by decide +kernel
theorem dX8_worth_97 : decode cX8_worth 97 = .ok (.ireturn, 1) := by decide +kernel
theorem dX8_priority_0 : decode cX8_priority 0 = .ok (.aload_n 0, 1) := by decide +kernel
theorem dX8_priority_1 : decode cX8_priority 1 = .ok (.iload_n 1, 1) := by decide +kernel
theorem dX8_priority_2 : decode cX8_priority 2 = .ok (.invokevirtual 121, 3) := by decide +kernel
theorem dX8_priority_5 : decode cX8_priority 5 = .ok (.ifCond .eq 12, 3) := by decide +kernel
theorem dX8_priority_8 : decode cX8_priority 8 = .ok (.iload_n 2, 1) := by decide +kernel
theorem dX8_priority_9 : decode cX8_priority 9 = .ok (.iconst 0, 1) := by decide +kernel
theorem dX8_priority_10 : decode cX8_priority 10 = .ok (.iconst 3, 1) := by decide +kernel
theorem dX8_priority_11 : decode cX8_priority 11 = .ok (.invokestatic 74, 3) := by decide +kernel
theorem dX8_priority_14 : decode cX8_priority 14 = .ok (.ifCond .ne 21, 3) := by decide +kernel
theorem dX8_priority_17 : decode cX8_priority 17 = .ok (.aload_n 0, 1) := by decide +kernel
theorem dX8_priority_18 : decode cX8_priority 18 = .ok (.aload_n 0, 1) := by decide +kernel
theorem dX8_priority_19 : decode cX8_priority 19 = .ok (.iload_n 1, 1) := by decide +kernel
theorem dX8_priority_20 : decode cX8_priority 20 = .ok (.invokevirtual 121, 3) := by decide +kernel
theorem dX8_priority_23 : decode cX8_priority 23 = .ok (.ifCond .ne 7, 3) := by decide +kernel
theorem dX8_priority_26 : decode cX8_priority 26 = .ok (.iconst 1, 1) := by decide +kernel
theorem dX8_priority_27 : decode cX8_priority 27 = .ok (.goto 4, 3) := by decide +kernel
theorem dX8_priority_30 : decode cX8_priority 30 = .ok (.iconst 2, 1) := by decide +kernel
theorem dX8_priority_31 : decode cX8_priority 31 = .ok (.invokevirtual 87, 3) := by decide +kernel
theorem dX8_priority_34 : decode cX8_priority 34 = .ok (.ireturn, 1) := by decide +kernel
theorem dX8_priority_35 : decode cX8_priority 35 = .ok (.aload_n 0, 1) := by decide +kernel
theorem dX8_priority_36 : decode cX8_priority 36 = .ok (.aload_n 0, 1) := by decide +kernel
theorem dX8_priority_37 : decode cX8_priority 37 = .ok (.iload_n 1, 1) := by decide +kernel
theorem dX8_priority_38 : decode cX8_priority 38 = .ok (.iload_n 2, 1) := by decide +kernel
theorem dX8_priority_39 : decode cX8_priority 39 = .ok (.invokevirtual 159, 3) := by decide +kernel
theorem dX8_priority_42 : decode cX8_priority 42 = .ok (.invokevirtual 91, 3) := by decide +kernel
theorem dX8_priority_45 : decode cX8_priority 45 = .ok (.ireturn, 1) := by decide +kernel
theorem dX8_size_0 : decode cX8_size 0 = .ok (.aload_n 0, 1) := by decide +kernel
theorem dX8_size_1 : decode cX8_size 1 = .ok (.aload_n 0, 1) := by decide +kernel
theorem dX8_size_2 : decode cX8_size 2 = .ok (.getfield 7, 3) := by decide +kernel
theorem dX8_size_5 : decode cX8_size 5 = .ok (.bipush 16, 2) := by decide +kernel
theorem dX8_size_7 : decode cX8_size 7 = .ok (.iaload, 1) := by decide +kernel
theorem dX8_size_8 : decode cX8_size 8 = .ok (.invokevirtual 91, 3) := by decide +kernel
theorem dX8_size_11 : decode cX8_size 11 = .ok (.ireturn, 1) := by decide +kernel
theorem dX8_tellRow_0 : decode cX8_tellRow 0 = .ok (.aload_n 0, 1) := by decide +kernel
theorem dX8_tellRow_1 : decode cX8_tellRow 1 = .ok (.iconst 0, 1) := by decide +kernel
theorem dX8_tellRow_2 : decode cX8_tellRow 2 = .ok (.putfield 162, 3) := by decide +kernel
theorem dX8_tellRow_5 : decode cX8_tellRow 5 = .ok (.iload_n 1, 1) := by decide +kernel
theorem dX8_tellRow_6 : decode cX8_tellRow 6 = .ok (.istore_n 2, 1) := by decide +kernel
theorem dX8_tellRow_7 : decode cX8_tellRow 7 = .ok (.iload_n 2, 1) := by decide +kernel
theorem dX8_tellRow_8 : decode cX8_tellRow 8 = .ok (.ifCond .eq 85, 3) := by decide +kernel
theorem dX8_tellRow_11 : decode cX8_tellRow 11 = .ok (.iconst (-1), 1) := by decide +kernel
theorem dX8_tellRow_12 : decode cX8_tellRow 12 = .ok (.istore_n 3, 1) := by decide +kernel
theorem dX8_tellRow_13 : decode cX8_tellRow 13 = .ok (.aload_n 0, 1) := by decide +kernel
theorem dX8_tellRow_14 : decode cX8_tellRow 14 = .ok (.getfield 7, 3) := by decide +kernel
theorem dX8_tellRow_17 : decode cX8_tellRow 17 = .ok (.bipush 16, 2) := by decide +kernel
theorem dX8_tellRow_19 : decode cX8_tellRow 19 = .ok (.iaload, 1) := by decide +kernel
theorem dX8_tellRow_20 : decode cX8_tellRow 20 = .ok (.iconst 1, 1) := by decide +kernel
theorem dX8_tellRow_21 : decode cX8_tellRow 21 = .ok (.isub, 1) := by decide +kernel
theorem dX8_tellRow_22 : decode cX8_tellRow 22 = .ok (.istore 4, 2) := by decide +kernel
theorem dX8_tellRow_24 : decode cX8_tellRow 24 = .ok (.iload 4, 2) := by decide +kernel
theorem dX8_tellRow_26 : decode cX8_tellRow 26 = .ok (.ifCond .lt 36, 3) := by decide +kernel
theorem dX8_tellRow_29 : decode cX8_tellRow 29 = .ok (.iload_n 2, 1) := by decide +kernel
theorem dX8_tellRow_30 : decode cX8_tellRow 30 = .ok (.iload 4, 2) := by decide +kernel
theorem dX8_tellRow_32 : decode cX8_tellRow 32 = .ok (.invokestatic 127, 3) := by decide +kernel
theorem dX8_tellRow_35 : decode cX8_tellRow 35 = .ok (.ifCond .eq 19, 3) := by decide +kernel
theorem dX8_tellRow_38 : decode cX8_tellRow 38 = .ok (.aload_n 0, 1) := by decide +kernel
theorem dX8_tellRow_39 : decode cX8_tellRow 39 = .ok (.iload 4, 2) := by decide +kernel
theorem dX8_tellRow_41 : decode cX8_tellRow 41 = .ok (.invokevirtual 130, 3) := by decide +kernel
theorem dX8_tellRow_44 : decode cX8_tellRow 44 = .ok (.iload_n 2, 1) := by decide +kernel
theorem dX8_tellRow_45 : decode cX8_tellRow 45 = .ok (.iand, 1) := by decide +kernel
theorem dX8_tellRow_46 : decode cX8_tellRow 46 = .ok (.ifCond .ne 8, 3) := by decide +kernel
theorem dX8_tellRow_49 : decode cX8_tellRow 49 = .ok (.iload 4, 2) := by decide +kernel
theorem dX8_tellRow_51 : decode cX8_tellRow 51 = .ok (.goto 4, 3) := by decide +kernel
theorem dX8_tellRow_54 : decode cX8_tellRow 54 = .ok (.iload_n 3, 1) := by decide +kernel
theorem dX8_tellRow_55 : decode cX8_tellRow 55 = .ok (.istore_n 3, 1) := by decide +kernel
theorem dX8_tellRow_56 : decode cX8_tellRow 56 = .ok (.iinc 4 (-1), 3) := by decide +kernel
theorem dX8_tellRow_59 : decode cX8_tellRow 59 = .ok (.goto (-35), 3) := by decide +kernel
theorem dX8_tellRow_62 : decode cX8_tellRow 62 = .ok (.aload_n 0, 1) := by decide +kernel
theorem dX8_tellRow_63 : decode cX8_tellRow 63 = .ok (.getfield 22, 3) := by decide +kernel
theorem dX8_tellRow_66 : decode cX8_tellRow 66 = .ok (.aload_n 0, 1) := by decide +kernel
theorem dX8_tellRow_67 : decode cX8_tellRow 67 = .ok (.getfield 162, 3) := by decide +kernel
theorem dX8_tellRow_70 : decode cX8_tellRow 70 = .ok (.iload_n 3, 1) := by decide +kernel
theorem dX8_tellRow_71 : decode cX8_tellRow 71 = .ok (.iastore, 1) := by decide +kernel
theorem dX8_tellRow_72 : decode cX8_tellRow 72 = .ok (.aload_n 0, 1) := by decide +kernel
theorem dX8_tellRow_73 : decode cX8_tellRow 73 = .ok (.dup, 1) := by decide +kernel
theorem dX8_tellRow_74 : decode cX8_tellRow 74 = .ok (.getfield 162, 3) := by decide +kernel
theorem dX8_tellRow_77 : decode cX8_tellRow 77 = .ok (.iconst 1, 1) := by decide +kernel
theorem dX8_tellRow_78 : decode cX8_tellRow 78 = .ok (.iadd, 1) := by decide +kernel
theorem dX8_tellRow_79 : decode cX8_tellRow 79 = .ok (.putfield 162, 3) := by decide +kernel
theorem dX8_tellRow_82 : decode cX8_tellRow 82 = .ok (.iload_n 2, 1) := by decide +kernel
theorem dX8_tellRow_83 : decode cX8_tellRow 83 = .ok (.iconst 1, 1) := by decide +kernel
theorem dX8_tellRow_84 : decode cX8_tellRow 84 = .ok (.iload_n 3, 1) := by decide +kernel
theorem dX8_tellRow_85 : decode cX8_tellRow 85 = .ok (.ishl, 1) := by decide +kernel
theorem dX8_tellRow_86 : decode cX8_tellRow 86 = .ok (.iconst (-1), 1) := by decide +kernel
theorem dX8_tellRow_87 : decode cX8_tellRow 87 = .ok (.ixor, 1) := by decide +kernel
theorem dX8_tellRow_88 : decode cX8_tellRow 88 = .ok (.iand, 1) := by decide +kernel
theorem dX8_tellRow_89 : decode cX8_tellRow 89 = .ok (.istore_n 2, 1) := by decide +kernel
theorem dX8_tellRow_90 : decode cX8_tellRow 90 = .ok (.goto (-83), 3) := by decide +kernel
theorem dX8_tellRow_93 : decode cX8_tellRow 93 = .ok (.return_, 1) := by decide +kernel
theorem dX8_changes_0 : decode cX8_changes 0 = .ok (.iconst 0, 1) := by decide +kernel
theorem dX8_changes_1 : decode cX8_changes 1 = .ok (.istore_n 2, 1) := by decide +kernel
theorem dX8_changes_2 : decode cX8_changes 2 = .ok (.iconst 0, 1) := by decide +kernel
theorem dX8_changes_3 : decode cX8_changes 3 = .ok (.istore_n 3, 1) := by decide +kernel
theorem dX8_changes_4 : decode cX8_changes 4 = .ok (.iload_n 3, 1) := by decide +kernel
theorem dX8_changes_5 : decode cX8_changes 5 = .ok (.aload_n 0, 1) := by decide +kernel
theorem dX8_changes_6 : decode cX8_changes 6 = .ok (.getfield 162, 3) := by decide +kernel
theorem dX8_changes_9 : decode cX8_changes 9 = .ok (.if_icmp .ge 88, 3) := by decide +kernel
theorem dX8_changes_12 : decode cX8_changes 12 = .ok (.aload_n 0, 1) := by decide +kernel
theorem dX8_changes_13 : decode cX8_changes 13 = .ok (.aload_n 0, 1) := by decide +kernel
theorem dX8_changes_14 : decode cX8_changes 14 = .ok (.getfield 22, 3) := by decide +kernel
theorem dX8_changes_17 : decode cX8_changes 17 = .ok (.iload_n 3, 1) := by decide +kernel
theorem dX8_changes_18 : decode cX8_changes 18 = .ok (.iaload, 1) := by decide +kernel
theorem dX8_changes_19 : decode cX8_changes 19 = .ok (.iload_n 1, 1) := by decide +kernel
theorem dX8_changes_20 : decode cX8_changes 20 = .ok (.invokevirtual 124, 3) := by decide +kernel
theorem dX8_changes_23 : decode cX8_changes 23 = .ok (.ifCond .le 21, 3) := by decide +kernel
theorem dX8_changes_26 : decode cX8_changes 26 = .ok (.aload_n 0, 1) := by decide +kernel
theorem dX8_changes_27 : decode cX8_changes 27 = .ok (.aload_n 0, 1) := by decide +kernel
theorem dX8_changes_28 : decode cX8_changes 28 = .ok (.getfield 22, 3) := by decide +kernel
theorem dX8_changes_31 : decode cX8_changes 31 = .ok (.iload_n 3, 1) := by decide +kernel
theorem dX8_changes_32 : decode cX8_changes 32 = .ok (.iaload, 1) := by decide +kernel
theorem dX8_changes_33 : decode cX8_changes 33 = .ok (.iconst 3, 1) := by decide +kernel
theorem dX8_changes_34 : decode cX8_changes 34 = .ok (.invokevirtual 124, 3) := by decide +kernel
theorem dX8_changes_37 : decode cX8_changes 37 = .ok (.ifCond .eq 7, 3) := by decide +kernel
theorem dX8_changes_40 : decode cX8_changes 40 = .ok (.iconst 1, 1) := by decide +kernel
theorem dX8_changes_41 : decode cX8_changes 41 = .ok (.goto 4, 3) := by decide +kernel
theorem dX8_changes_44 : decode cX8_changes 44 = .ok (.iconst 0, 1) := by decide +kernel
theorem dX8_changes_45 : decode cX8_changes 45 = .ok (.istore 4, 2) := by decide +kernel
theorem dX8_changes_47 : decode cX8_changes 47 = .ok (.aload_n 0, 1) := by decide +kernel
theorem dX8_changes_48 : decode cX8_changes 48 = .ok (.getfield 25, 3) := by decide +kernel
theorem dX8_changes_51 : decode cX8_changes 51 = .ok (.iload_n 2, 1) := by decide +kernel
theorem dX8_changes_52 : decode cX8_changes 52 = .ok (.iload 4, 2) := by decide +kernel
theorem dX8_changes_54 : decode cX8_changes 54 = .ok (.ifCond .eq 17, 3) := by decide +kernel
theorem dX8_changes_57 : decode cX8_changes 57 = .ok (.aload_n 0, 1) := by decide +kernel
theorem dX8_changes_58 : decode cX8_changes 58 = .ok (.aload_n 0, 1) := by decide +kernel
theorem dX8_changes_59 : decode cX8_changes 59 = .ok (.getfield 22, 3) := by decide +kernel
theorem dX8_changes_62 : decode cX8_changes 62 = .ok (.iload_n 3, 1) := by decide +kernel
theorem dX8_changes_63 : decode cX8_changes 63 = .ok (.iaload, 1) := by decide +kernel
theorem dX8_changes_64 : decode cX8_changes 64 = .ok (.iconst 3, 1) := by decide +kernel
theorem dX8_changes_65 : decode cX8_changes 65 = .ok (.invokevirtual 124, 3) := by decide +kernel
theorem dX8_changes_68 : decode cX8_changes 68 = .ok (.goto 9, 3) := by decide +kernel
theorem dX8_changes_71 : decode cX8_changes 71 = .ok (.aload_n 0, 1) := by decide +kernel
theorem dX8_changes_72 : decode cX8_changes 72 = .ok (.getfield 25, 3) := by decide +kernel
theorem dX8_changes_75 : decode cX8_changes 75 = .ok (.iload_n 2, 1) := by decide +kernel
theorem dX8_changes_76 : decode cX8_changes 76 = .ok (.iaload, 1) := by decide +kernel
theorem dX8_changes_77 : decode cX8_changes 77 = .ok (.iastore, 1) := by decide +kernel
theorem dX8_changes_78 : decode cX8_changes 78 = .ok (.iload_n 2, 1) := by decide +kernel
theorem dX8_changes_79 : decode cX8_changes 79 = .ok (.iload 4, 2) := by decide +kernel
theorem dX8_changes_81 : decode cX8_changes 81 = .ok (.ifCond .eq 7, 3) := by decide +kernel
theorem dX8_changes_84 : decode cX8_changes 84 = .ok (.iconst 1, 1) := by decide +kernel
theorem dX8_changes_85 : decode cX8_changes 85 = .ok (.goto 4, 3) := by decide +kernel
theorem dX8_changes_88 : decode cX8_changes 88 = .ok (.iconst 0, 1) := by decide +kernel
theorem dX8_changes_89 : decode cX8_changes 89 = .ok (.iadd, 1) := by decide +kernel
theorem dX8_changes_90 : decode cX8_changes 90 = .ok (.istore_n 2, 1) := by decide +kernel
theorem dX8_changes_91 : decode cX8_changes 91 = .ok (.iinc 3 1, 3) := by decide +kernel
theorem dX8_changes_94 : decode cX8_changes 94 = .ok (.goto (-90), 3) := by decide +kernel
theorem dX8_changes_97 : decode cX8_changes 97 = .ok (.iconst 0, 1) := by decide +kernel
theorem dX8_changes_98 : decode cX8_changes 98 = .ok (.istore_n 3, 1) := by decide +kernel
theorem dX8_changes_99 : decode cX8_changes 99 = .ok (.iconst 0, 1) := by decide +kernel
theorem dX8_changes_100 : decode cX8_changes 100 = .ok (.istore 4, 2) := by decide +kernel
theorem dX8_changes_102 : decode cX8_changes 102 = .ok (.iload 4, 2) := by decide +kernel
theorem dX8_changes_104 : decode cX8_changes 104 = .ok (.iload_n 2, 1) := by decide +kernel
theorem dX8_changes_105 : decode cX8_changes 105 = .ok (.if_icmp .ge 48, 3) := by decide +kernel
theorem dX8_changes_108 : decode cX8_changes 108 = .ok (.iload_n 3, 1) := by decide +kernel
theorem dX8_changes_109 : decode cX8_changes 109 = .ok (.aload_n 0, 1) := by decide +kernel
theorem dX8_changes_110 : decode cX8_changes 110 = .ok (.getfield 25, 3) := by decide +kernel
theorem dX8_changes_113 : decode cX8_changes 113 = .ok (.iload 4, 2) := by decide +kernel
theorem dX8_changes_115 : decode cX8_changes 115 = .ok (.iaload, 1) := by decide +kernel
theorem dX8_changes_116 : decode cX8_changes 116 = .ok (.aload_n 0, 1) := by decide +kernel
theorem dX8_changes_117 : decode cX8_changes 117 = .ok (.getfield 25, 3) := by decide +kernel
theorem dX8_changes_120 : decode cX8_changes 120 = .ok (.iload 4, 2) := by decide +kernel
theorem dX8_changes_122 : decode cX8_changes 122 = .ok (.iconst 1, 1) := by decide +kernel
theorem dX8_changes_123 : decode cX8_changes 123 = .ok (.iadd, 1) := by decide +kernel
theorem dX8_changes_124 : decode cX8_changes 124 = .ok (.iload_n 2, 1) := by decide +kernel
theorem dX8_changes_125 : decode cX8_changes 125 = .ok (.if_icmp .ne 7, 3) := by decide +kernel
theorem dX8_changes_128 : decode cX8_changes 128 = .ok (.iconst 0, 1) := by decide +kernel
theorem dX8_changes_129 : decode cX8_changes 129 = .ok (.goto 7, 3) := by decide +kernel
theorem dX8_changes_132 : decode cX8_changes 132 = .ok (.iload 4, 2) := by decide +kernel
theorem dX8_changes_134 : decode cX8_changes 134 = .ok (.iconst 1, 1) := by decide +kernel
theorem dX8_changes_135 : decode cX8_changes 135 = .ok (.iadd, 1) := by decide +kernel
theorem dX8_changes_136 : decode cX8_changes 136 = .ok (.iaload, 1) := by decide +kernel
theorem dX8_changes_137 : decode cX8_changes 137 = .ok (.if_icmp .eq 7, 3) := by decide +kernel
theorem dX8_changes_140 : decode cX8_changes 140 = .ok (.iconst 1, 1) := by decide +kernel
theorem dX8_changes_141 : decode cX8_changes 141 = .ok (.goto 4, 3) := by decide +kernel
theorem dX8_changes_144 : decode cX8_changes 144 = .ok (.iconst 0, 1) := by decide +kernel
theorem dX8_changes_145 : decode cX8_changes 145 = .ok (.iadd, 1) := by decide +kernel
theorem dX8_changes_146 : decode cX8_changes 146 = .ok (.istore_n 3, 1) := by decide +kernel
theorem dX8_changes_147 : decode cX8_changes 147 = .ok (.iinc 4 1, 3) := by decide +kernel
theorem dX8_changes_150 : decode cX8_changes 150 = .ok (.goto (-48), 3) := by decide +kernel
theorem dX8_changes_153 : decode cX8_changes 153 = .ok (.iload_n 3, 1) := by decide +kernel
theorem dX8_changes_154 : decode cX8_changes 154 = .ok (.ireturn, 1) := by decide +kernel
theorem dX8_timeOf_0 : decode cX8_timeOf 0 = .ok (.aload_n 0, 1) := by decide +kernel
theorem dX8_timeOf_1 : decode cX8_timeOf 1 = .ok (.iload_n 1, 1) := by decide +kernel
theorem dX8_timeOf_2 : decode cX8_timeOf 2 = .ok (.invokevirtual 165, 3) := by decide +kernel
theorem dX8_timeOf_5 : decode cX8_timeOf 5 = .ok (.aload_n 0, 1) := by decide +kernel
theorem dX8_timeOf_6 : decode cX8_timeOf 6 = .ok (.getfield 7, 3) := by decide +kernel
theorem dX8_timeOf_9 : decode cX8_timeOf 9 = .ok (.iconst 5, 1) := by decide +kernel
theorem dX8_timeOf_10 : decode cX8_timeOf 10 = .ok (.iaload, 1) := by decide +kernel
theorem dX8_timeOf_11 : decode cX8_timeOf 11 = .ok (.imul, 1) := by decide +kernel
theorem dX8_timeOf_12 : decode cX8_timeOf 12 = .ok (.istore_n 2, 1) := by decide +kernel
theorem dX8_timeOf_13 : decode cX8_timeOf 13 = .ok (.iconst 0, 1) := by decide +kernel
theorem dX8_timeOf_14 : decode cX8_timeOf 14 = .ok (.istore_n 3, 1) := by decide +kernel
theorem dX8_timeOf_15 : decode cX8_timeOf 15 = .ok (.iload_n 3, 1) := by decide +kernel
theorem dX8_timeOf_16 : decode cX8_timeOf 16 = .ok (.aload_n 0, 1) := by decide +kernel
theorem dX8_timeOf_17 : decode cX8_timeOf 17 = .ok (.getfield 162, 3) := by decide +kernel
theorem dX8_timeOf_20 : decode cX8_timeOf 20 = .ok (.if_icmp .ge 23, 3) := by decide +kernel
theorem dX8_timeOf_23 : decode cX8_timeOf 23 = .ok (.iload_n 2, 1) := by decide +kernel
theorem dX8_timeOf_24 : decode cX8_timeOf 24 = .ok (.aload_n 0, 1) := by decide +kernel
theorem dX8_timeOf_25 : decode cX8_timeOf 25 = .ok (.aload_n 0, 1) := by decide +kernel
theorem dX8_timeOf_26 : decode cX8_timeOf 26 = .ok (.getfield 22, 3) := by decide +kernel
theorem dX8_timeOf_29 : decode cX8_timeOf 29 = .ok (.iload_n 3, 1) := by decide +kernel
theorem dX8_timeOf_30 : decode cX8_timeOf 30 = .ok (.iaload, 1) := by decide +kernel
theorem dX8_timeOf_31 : decode cX8_timeOf 31 = .ok (.iload_n 1, 1) := by decide +kernel
theorem dX8_timeOf_32 : decode cX8_timeOf 32 = .ok (.invokevirtual 124, 3) := by decide +kernel
theorem dX8_timeOf_35 : decode cX8_timeOf 35 = .ok (.iadd, 1) := by decide +kernel
theorem dX8_timeOf_36 : decode cX8_timeOf 36 = .ok (.istore_n 2, 1) := by decide +kernel
theorem dX8_timeOf_37 : decode cX8_timeOf 37 = .ok (.iinc 3 1, 3) := by decide +kernel
theorem dX8_timeOf_40 : decode cX8_timeOf 40 = .ok (.goto (-25), 3) := by decide +kernel
theorem dX8_timeOf_43 : decode cX8_timeOf 43 = .ok (.iload_n 2, 1) := by decide +kernel
theorem dX8_timeOf_44 : decode cX8_timeOf 44 = .ok (.ireturn, 1) := by decide +kernel
theorem dX8_loadOf_0 : decode cX8_loadOf 0 = .ok (.aload_n 0, 1) := by decide +kernel
theorem dX8_loadOf_1 : decode cX8_loadOf 1 = .ok (.iload_n 1, 1) := by decide +kernel
theorem dX8_loadOf_2 : decode cX8_loadOf 2 = .ok (.invokevirtual 168, 3) := by decide +kernel
theorem dX8_loadOf_5 : decode cX8_loadOf 5 = .ok (.iconst 0, 1) := by decide +kernel
theorem dX8_loadOf_6 : decode cX8_loadOf 6 = .ok (.istore_n 2, 1) := by decide +kernel
theorem dX8_loadOf_7 : decode cX8_loadOf 7 = .ok (.iconst 0, 1) := by decide +kernel
theorem dX8_loadOf_8 : decode cX8_loadOf 8 = .ok (.istore_n 3, 1) := by decide +kernel
theorem dX8_loadOf_9 : decode cX8_loadOf 9 = .ok (.iload_n 3, 1) := by decide +kernel
theorem dX8_loadOf_10 : decode cX8_loadOf 10 = .ok (.aload_n 0, 1) := by decide +kernel
theorem dX8_loadOf_11 : decode cX8_loadOf 11 = .ok (.getfield 7, 3) := by decide +kernel
theorem dX8_loadOf_14 : decode cX8_loadOf 14 = .ok (.iconst 0, 1) := by decide +kernel
theorem dX8_loadOf_15 : decode cX8_loadOf 15 = .ok (.iaload, 1) := by decide +kernel
theorem dX8_loadOf_16 : decode cX8_loadOf 16 = .ok (.if_icmp .ge 26, 3) := by decide +kernel
theorem dX8_loadOf_19 : decode cX8_loadOf 19 = .ok (.iload_n 2, 1) := by decide +kernel
theorem dX8_loadOf_20 : decode cX8_loadOf 20 = .ok (.aload_n 0, 1) := by decide +kernel
theorem dX8_loadOf_21 : decode cX8_loadOf 21 = .ok (.getfield 7, 3) := by decide +kernel
theorem dX8_loadOf_24 : decode cX8_loadOf 24 = .ok (.iconst 1, 1) := by decide +kernel
theorem dX8_loadOf_25 : decode cX8_loadOf 25 = .ok (.iload_n 3, 1) := by decide +kernel
theorem dX8_loadOf_26 : decode cX8_loadOf 26 = .ok (.iadd, 1) := by decide +kernel
theorem dX8_loadOf_27 : decode cX8_loadOf 27 = .ok (.iaload, 1) := by decide +kernel
theorem dX8_loadOf_28 : decode cX8_loadOf 28 = .ok (.aload_n 0, 1) := by decide +kernel
theorem dX8_loadOf_29 : decode cX8_loadOf 29 = .ok (.iload_n 3, 1) := by decide +kernel
theorem dX8_loadOf_30 : decode cX8_loadOf 30 = .ok (.invokevirtual 172, 3) := by decide +kernel
theorem dX8_loadOf_33 : decode cX8_loadOf 33 = .ok (.imul, 1) := by decide +kernel
theorem dX8_loadOf_34 : decode cX8_loadOf 34 = .ok (.iadd, 1) := by decide +kernel
theorem dX8_loadOf_35 : decode cX8_loadOf 35 = .ok (.istore_n 2, 1) := by decide +kernel
theorem dX8_loadOf_36 : decode cX8_loadOf 36 = .ok (.iinc 3 1, 3) := by decide +kernel
theorem dX8_loadOf_39 : decode cX8_loadOf 39 = .ok (.goto (-30), 3) := by decide +kernel
theorem dX8_loadOf_42 : decode cX8_loadOf 42 = .ok (.iload_n 2, 1) := by decide +kernel
theorem dX8_loadOf_43 : decode cX8_loadOf 43 = .ok (.ireturn, 1) := by decide +kernel
theorem dX8_fits_0 : decode cX8_fits 0 = .ok (.aload_n 0, 1) := by decide +kernel
theorem dX8_fits_1 : decode cX8_fits 1 = .ok (.getfield 7, 3) := by decide +kernel
theorem dX8_fits_4 : decode cX8_fits 4 = .ok (.bipush 7, 2) := by decide +kernel
theorem dX8_fits_6 : decode cX8_fits 6 = .ok (.iaload, 1) := by decide +kernel
theorem dX8_fits_7 : decode cX8_fits 7 = .ok (.ifCond .ne 30, 3) := by decide +kernel
theorem dX8_fits_10 : decode cX8_fits 10 = .ok (.aload_n 0, 1) := by decide +kernel
theorem dX8_fits_11 : decode cX8_fits 11 = .ok (.iload_n 1, 1) := by decide +kernel
theorem dX8_fits_12 : decode cX8_fits 12 = .ok (.invokevirtual 175, 3) := by decide +kernel
theorem dX8_fits_15 : decode cX8_fits 15 = .ok (.iload_n 2, 1) := by decide +kernel
theorem dX8_fits_16 : decode cX8_fits 16 = .ok (.aload_n 0, 1) := by decide +kernel
theorem dX8_fits_17 : decode cX8_fits 17 = .ok (.getfield 7, 3) := by decide +kernel
theorem dX8_fits_20 : decode cX8_fits 20 = .ok (.iconst 4, 1) := by decide +kernel
theorem dX8_fits_21 : decode cX8_fits 21 = .ok (.iaload, 1) := by decide +kernel
theorem dX8_fits_22 : decode cX8_fits 22 = .ok (.imul, 1) := by decide +kernel
theorem dX8_fits_23 : decode cX8_fits 23 = .ok (.aload_n 0, 1) := by decide +kernel
theorem dX8_fits_24 : decode cX8_fits 24 = .ok (.invokevirtual 105, 3) := by decide +kernel
theorem dX8_fits_27 : decode cX8_fits 27 = .ok (.imul, 1) := by decide +kernel
theorem dX8_fits_28 : decode cX8_fits 28 = .ok (.if_icmp .gt 7, 3) := by decide +kernel
theorem dX8_fits_31 : decode cX8_fits 31 = .ok (.iconst 1, 1) := by decide +kernel
theorem dX8_fits_32 : decode cX8_fits 32 = .ok (.goto 4, 3) := by decide +kernel
theorem dX8_fits_35 : decode cX8_fits 35 = .ok (.iconst 0, 1) := by decide +kernel
theorem dX8_fits_36 : decode cX8_fits 36 = .ok (.ireturn, 1) := by decide +kernel
theorem dX8_fits_37 : decode cX8_fits 37 = .ok (.aload_n 0, 1) := by decide +kernel
theorem dX8_fits_38 : decode cX8_fits 38 = .ok (.iload_n 1, 1) := by decide +kernel
theorem dX8_fits_39 : decode cX8_fits 39 = .ok (.invokevirtual 168, 3) := by decide +kernel
theorem dX8_fits_42 : decode cX8_fits 42 = .ok (.iconst 1, 1) := by decide +kernel
theorem dX8_fits_43 : decode cX8_fits 43 = .ok (.istore_n 3, 1) := by decide +kernel
theorem dX8_fits_44 : decode cX8_fits 44 = .ok (.iconst 0, 1) := by decide +kernel
theorem dX8_fits_45 : decode cX8_fits 45 = .ok (.istore 4, 2) := by decide +kernel
theorem dX8_fits_47 : decode cX8_fits 47 = .ok (.iload 4, 2) := by decide +kernel
theorem dX8_fits_49 : decode cX8_fits 49 = .ok (.aload_n 0, 1) := by decide +kernel
theorem dX8_fits_50 : decode cX8_fits 50 = .ok (.getfield 7, 3) := by decide +kernel
theorem dX8_fits_53 : decode cX8_fits 53 = .ok (.iconst 0, 1) := by decide +kernel
theorem dX8_fits_54 : decode cX8_fits 54 = .ok (.iaload, 1) := by decide +kernel
theorem dX8_fits_55 : decode cX8_fits 55 = .ok (.if_icmp .ge 36, 3) := by decide +kernel
theorem dX8_fits_58 : decode cX8_fits 58 = .ok (.iload_n 3, 1) := by decide +kernel
theorem dX8_fits_59 : decode cX8_fits 59 = .ok (.ifCond .eq 24, 3) := by decide +kernel
theorem dX8_fits_62 : decode cX8_fits 62 = .ok (.aload_n 0, 1) := by decide +kernel
theorem dX8_fits_63 : decode cX8_fits 63 = .ok (.iload 4, 2) := by decide +kernel
theorem dX8_fits_65 : decode cX8_fits 65 = .ok (.invokevirtual 172, 3) := by decide +kernel
theorem dX8_fits_68 : decode cX8_fits 68 = .ok (.iload_n 2, 1) := by decide +kernel
theorem dX8_fits_69 : decode cX8_fits 69 = .ok (.aload_n 0, 1) := by decide +kernel
theorem dX8_fits_70 : decode cX8_fits 70 = .ok (.getfield 7, 3) := by decide +kernel
theorem dX8_fits_73 : decode cX8_fits 73 = .ok (.iconst 4, 1) := by decide +kernel
theorem dX8_fits_74 : decode cX8_fits 74 = .ok (.iaload, 1) := by decide +kernel
theorem dX8_fits_75 : decode cX8_fits 75 = .ok (.imul, 1) := by decide +kernel
theorem dX8_fits_76 : decode cX8_fits 76 = .ok (.if_icmp .gt 7, 3) := by decide +kernel
theorem dX8_fits_79 : decode cX8_fits 79 = .ok (.iconst 1, 1) := by decide +kernel
theorem dX8_fits_80 : decode cX8_fits 80 = .ok (.goto 4, 3) := by decide +kernel
theorem dX8_fits_83 : decode cX8_fits 83 = .ok (.iconst 0, 1) := by decide +kernel
theorem dX8_fits_84 : decode cX8_fits 84 = .ok (.istore_n 3, 1) := by decide +kernel
theorem dX8_fits_85 : decode cX8_fits 85 = .ok (.iinc 4 1, 3) := by decide +kernel
theorem dX8_fits_88 : decode cX8_fits 88 = .ok (.goto (-41), 3) := by decide +kernel
theorem dX8_fits_91 : decode cX8_fits 91 = .ok (.iload_n 3, 1) := by decide +kernel
theorem dX8_fits_92 : decode cX8_fits 92 = .ok (.ireturn, 1) := by decide +kernel
theorem dX8_toolsOf_0 : decode cX8_toolsOf 0 = .ok (.iconst 0, 1) := by decide +kernel
theorem dX8_toolsOf_1 : decode cX8_toolsOf 1 = .ok (.istore_n 2, 1) := by decide +kernel
theorem dX8_toolsOf_2 : decode cX8_toolsOf 2 = .ok (.iconst 0, 1) := by decide +kernel
theorem dX8_toolsOf_3 : decode cX8_toolsOf 3 = .ok (.istore_n 3, 1) := by decide +kernel
theorem dX8_toolsOf_4 : decode cX8_toolsOf 4 = .ok (.iload_n 3, 1) := by decide +kernel
theorem dX8_toolsOf_5 : decode cX8_toolsOf 5 = .ok (.aload_n 0, 1) := by decide +kernel
theorem dX8_toolsOf_6 : decode cX8_toolsOf 6 = .ok (.getfield 7, 3) := by decide +kernel
theorem dX8_toolsOf_9 : decode cX8_toolsOf 9 = .ok (.bipush 16, 2) := by decide +kernel
theorem dX8_toolsOf_11 : decode cX8_toolsOf 11 = .ok (.iaload, 1) := by decide +kernel
theorem dX8_toolsOf_12 : decode cX8_toolsOf 12 = .ok (.if_icmp .ge 32, 3) := by decide +kernel
theorem dX8_toolsOf_15 : decode cX8_toolsOf 15 = .ok (.iload_n 2, 1) := by decide +kernel
theorem dX8_toolsOf_16 : decode cX8_toolsOf 16 = .ok (.iload_n 1, 1) := by decide +kernel
theorem dX8_toolsOf_17 : decode cX8_toolsOf 17 = .ok (.iload_n 3, 1) := by decide +kernel
theorem dX8_toolsOf_18 : decode cX8_toolsOf 18 = .ok (.invokestatic 127, 3) := by decide +kernel
theorem dX8_toolsOf_21 : decode cX8_toolsOf 21 = .ok (.ifCond .eq 14, 3) := by decide +kernel
theorem dX8_toolsOf_24 : decode cX8_toolsOf 24 = .ok (.iconst 1, 1) := by decide +kernel
theorem dX8_toolsOf_25 : decode cX8_toolsOf 25 = .ok (.aload_n 0, 1) := by decide +kernel
theorem dX8_toolsOf_26 : decode cX8_toolsOf 26 = .ok (.iload_n 3, 1) := by decide +kernel
theorem dX8_toolsOf_27 : decode cX8_toolsOf 27 = .ok (.iconst 3, 1) := by decide +kernel
theorem dX8_toolsOf_28 : decode cX8_toolsOf 28 = .ok (.invokevirtual 124, 3) := by decide +kernel
theorem dX8_toolsOf_31 : decode cX8_toolsOf 31 = .ok (.ishl, 1) := by decide +kernel
theorem dX8_toolsOf_32 : decode cX8_toolsOf 32 = .ok (.goto 4, 3) := by decide +kernel
theorem dX8_toolsOf_35 : decode cX8_toolsOf 35 = .ok (.iconst 0, 1) := by decide +kernel
theorem dX8_toolsOf_36 : decode cX8_toolsOf 36 = .ok (.ior, 1) := by decide +kernel
theorem dX8_toolsOf_37 : decode cX8_toolsOf 37 = .ok (.istore_n 2, 1) := by decide +kernel
theorem dX8_toolsOf_38 : decode cX8_toolsOf 38 = .ok (.iinc 3 1, 3) := by decide +kernel
theorem dX8_toolsOf_41 : decode cX8_toolsOf 41 = .ok (.goto (-37), 3) := by decide +kernel
theorem dX8_toolsOf_44 : decode cX8_toolsOf 44 = .ok (.iload_n 2, 1) := by decide +kernel
theorem dX8_toolsOf_45 : decode cX8_toolsOf 45 = .ok (.bipush (-2), 2) := by decide +kernel
theorem dX8_toolsOf_47 : decode cX8_toolsOf 47 = .ok (.iand, 1) := by decide +kernel
theorem dX8_toolsOf_48 : decode cX8_toolsOf 48 = .ok (.ireturn, 1) := by decide +kernel
theorem dX8_inStation_0 : decode cX8_inStation 0 = .ok (.iconst 0, 1) := by decide +kernel
theorem dX8_inStation_1 : decode cX8_inStation 1 = .ok (.istore_n 2, 1) := by decide +kernel
theorem dX8_inStation_2 : decode cX8_inStation 2 = .ok (.iconst 0, 1) := by decide +kernel
theorem dX8_inStation_3 : decode cX8_inStation 3 = .ok (.istore_n 3, 1) := by decide +kernel
theorem dX8_inStation_4 : decode cX8_inStation 4 = .ok (.iload_n 3, 1) := by decide +kernel
theorem dX8_inStation_5 : decode cX8_inStation 5 = .ok (.aload_n 0, 1) := by decide +kernel
theorem dX8_inStation_6 : decode cX8_inStation 6 = .ok (.getfield 7, 3) := by decide +kernel
theorem dX8_inStation_9 : decode cX8_inStation 9 = .ok (.bipush 16, 2) := by decide +kernel
theorem dX8_inStation_11 : decode cX8_inStation 11 = .ok (.iaload, 1) := by decide +kernel
theorem dX8_inStation_12 : decode cX8_inStation 12 = .ok (.if_icmp .ge 29, 3) := by decide +kernel
theorem dX8_inStation_15 : decode cX8_inStation 15 = .ok (.iload_n 2, 1) := by decide +kernel
theorem dX8_inStation_16 : decode cX8_inStation 16 = .ok (.aload_n 0, 1) := by decide +kernel
theorem dX8_inStation_17 : decode cX8_inStation 17 = .ok (.iload_n 3, 1) := by decide +kernel
theorem dX8_inStation_18 : decode cX8_inStation 18 = .ok (.iconst 4, 1) := by decide +kernel
theorem dX8_inStation_19 : decode cX8_inStation 19 = .ok (.invokevirtual 124, 3) := by decide +kernel
theorem dX8_inStation_22 : decode cX8_inStation 22 = .ok (.iload_n 1, 1) := by decide +kernel
theorem dX8_inStation_23 : decode cX8_inStation 23 = .ok (.if_icmp .ne 9, 3) := by decide +kernel
theorem dX8_inStation_26 : decode cX8_inStation 26 = .ok (.iconst 1, 1) := by decide +kernel
theorem dX8_inStation_27 : decode cX8_inStation 27 = .ok (.iload_n 3, 1) := by decide +kernel
theorem dX8_inStation_28 : decode cX8_inStation 28 = .ok (.ishl, 1) := by decide +kernel
theorem dX8_inStation_29 : decode cX8_inStation 29 = .ok (.goto 4, 3) := by decide +kernel
theorem dX8_inStation_32 : decode cX8_inStation 32 = .ok (.iconst 0, 1) := by decide +kernel
theorem dX8_inStation_33 : decode cX8_inStation 33 = .ok (.ior, 1) := by decide +kernel
theorem dX8_inStation_34 : decode cX8_inStation 34 = .ok (.istore_n 2, 1) := by decide +kernel
theorem dX8_inStation_35 : decode cX8_inStation 35 = .ok (.iinc 3 1, 3) := by decide +kernel
theorem dX8_inStation_38 : decode cX8_inStation 38 = .ok (.goto (-34), 3) := by decide +kernel
theorem dX8_inStation_41 : decode cX8_inStation 41 = .ok (.iload_n 2, 1) := by decide +kernel
theorem dX8_inStation_42 : decode cX8_inStation 42 = .ok (.ireturn, 1) := by decide +kernel
theorem dX8_refuses_0 : decode cX8_refuses 0 = .ok (.aload_n 0, 1) := by decide +kernel
theorem dX8_refuses_1 : decode cX8_refuses 1 = .ok (.iload_n 2, 1) := by decide +kernel
theorem dX8_refuses_2 : decode cX8_refuses 2 = .ok (.invokevirtual 178, 3) := by decide +kernel
theorem dX8_refuses_5 : decode cX8_refuses 5 = .ok (.iconst 1, 1) := by decide +kernel
theorem dX8_refuses_6 : decode cX8_refuses 6 = .ok (.iload_n 1, 1) := by decide +kernel
theorem dX8_refuses_7 : decode cX8_refuses 7 = .ok (.ishl, 1) := by decide +kernel
theorem dX8_refuses_8 : decode cX8_refuses 8 = .ok (.ior, 1) := by decide +kernel
theorem dX8_refuses_9 : decode cX8_refuses 9 = .ok (.istore_n 3, 1) := by decide +kernel
theorem dX8_refuses_10 : decode cX8_refuses 10 = .ok (.aload_n 0, 1) := by decide +kernel
theorem dX8_refuses_11 : decode cX8_refuses 11 = .ok (.iload_n 1, 1) := by decide +kernel
theorem dX8_refuses_12 : decode cX8_refuses 12 = .ok (.invokevirtual 130, 3) := by decide +kernel
theorem dX8_refuses_15 : decode cX8_refuses 15 = .ok (.istore 4, 2) := by decide +kernel
theorem dX8_refuses_17 : decode cX8_refuses 17 = .ok (.aload_n 0, 1) := by decide +kernel
theorem dX8_refuses_18 : decode cX8_refuses 18 = .ok (.iload_n 1, 1) := by decide +kernel
theorem dX8_refuses_19 : decode cX8_refuses 19 = .ok (.invokevirtual 153, 3) := by decide +kernel
theorem dX8_refuses_22 : decode cX8_refuses 22 = .ok (.istore 5, 2) := by decide +kernel
theorem dX8_refuses_24 : decode cX8_refuses 24 = .ok (.iconst 0, 1) := by decide +kernel
theorem dX8_refuses_25 : decode cX8_refuses 25 = .ok (.istore 6, 2) := by decide +kernel
theorem dX8_refuses_27 : decode cX8_refuses 27 = .ok (.iconst 0, 1) := by decide +kernel
theorem dX8_refuses_28 : decode cX8_refuses 28 = .ok (.istore 7, 2) := by decide +kernel
theorem dX8_refuses_30 : decode cX8_refuses 30 = .ok (.iconst 0, 1) := by decide +kernel
theorem dX8_refuses_31 : decode cX8_refuses 31 = .ok (.istore 8, 2) := by decide +kernel
theorem dX8_refuses_33 : decode cX8_refuses 33 = .ok (.iconst 0, 1) := by decide +kernel
theorem dX8_refuses_34 : decode cX8_refuses 34 = .ok (.istore 9, 2) := by decide +kernel
theorem dX8_refuses_36 : decode cX8_refuses 36 = .ok (.iload 9, 2) := by decide +kernel
theorem dX8_refuses_38 : decode cX8_refuses 38 = .ok (.aload_n 0, 1) := by decide +kernel
theorem dX8_refuses_39 : decode cX8_refuses 39 = .ok (.getfield 7, 3) := by decide +kernel
theorem dX8_refuses_42 : decode cX8_refuses 42 = .ok (.bipush 16, 2) := by decide +kernel
theorem dX8_refuses_44 : decode cX8_refuses 44 = .ok (.iaload, 1) := by decide +kernel
theorem dX8_refuses_45 : decode cX8_refuses 45 = .ok (.if_icmp .ge 119, 3) := by decide +kernel
theorem dX8_refuses_48 : decode cX8_refuses 48 = .ok (.aload_n 0, 1) := by decide +kernel
theorem dX8_refuses_49 : decode cX8_refuses 49 = .ok (.iload 9, 2) := by decide +kernel
theorem dX8_refuses_51 : decode cX8_refuses 51 = .ok (.iconst 4, 1) := by decide +kernel
theorem dX8_refuses_52 : decode cX8_refuses 52 = .ok (.invokevirtual 124, 3) := by decide +kernel
theorem dX8_refuses_55 : decode cX8_refuses 55 = .ok (.istore 10, 2) := by decide +kernel
theorem dX8_refuses_57 : decode cX8_refuses 57 = .ok (.iload 6, 2) := by decide +kernel
theorem dX8_refuses_59 : decode cX8_refuses 59 = .ok (.ifCond .ne 19, 3) := by decide +kernel
theorem dX8_refuses_62 : decode cX8_refuses 62 = .ok (.iload 4, 2) := by decide +kernel
theorem dX8_refuses_64 : decode cX8_refuses 64 = .ok (.iload 9, 2) := by decide +kernel
theorem dX8_refuses_66 : decode cX8_refuses 66 = .ok (.invokestatic 127, 3) := by decide +kernel
theorem dX8_refuses_69 : decode cX8_refuses 69 = .ok (.ifCond .eq 13, 3) := by decide +kernel
theorem dX8_refuses_72 : decode cX8_refuses 72 = .ok (.iload 10, 2) := by decide +kernel
theorem dX8_refuses_74 : decode cX8_refuses 74 = .ok (.iload_n 2, 1) := by decide +kernel
theorem dX8_refuses_75 : decode cX8_refuses 75 = .ok (.if_icmp .le 7, 3) := by decide +kernel
theorem dX8_refuses_78 : decode cX8_refuses 78 = .ok (.iconst 1, 1) := by decide +kernel
theorem dX8_refuses_79 : decode cX8_refuses 79 = .ok (.goto 4, 3) := by decide +kernel
theorem dX8_refuses_82 : decode cX8_refuses 82 = .ok (.iconst 0, 1) := by decide +kernel
theorem dX8_refuses_83 : decode cX8_refuses 83 = .ok (.istore 6, 2) := by decide +kernel
theorem dX8_refuses_85 : decode cX8_refuses 85 = .ok (.iload 7, 2) := by decide +kernel
theorem dX8_refuses_87 : decode cX8_refuses 87 = .ok (.ifCond .ne 24, 3) := by decide +kernel
theorem dX8_refuses_90 : decode cX8_refuses 90 = .ok (.iload 5, 2) := by decide +kernel
theorem dX8_refuses_92 : decode cX8_refuses 92 = .ok (.iload 9, 2) := by decide +kernel
theorem dX8_refuses_94 : decode cX8_refuses 94 = .ok (.invokestatic 127, 3) := by decide +kernel
theorem dX8_refuses_97 : decode cX8_refuses 97 = .ok (.ifCond .eq 18, 3) := by decide +kernel
theorem dX8_refuses_100 : decode cX8_refuses 100 = .ok (.iload 10, 2) := by decide +kernel
theorem dX8_refuses_102 : decode cX8_refuses 102 = .ok (.ifCond .lt 13, 3) := by decide +kernel
theorem dX8_refuses_105 : decode cX8_refuses 105 = .ok (.iload 10, 2) := by decide +kernel
theorem dX8_refuses_107 : decode cX8_refuses 107 = .ok (.iload_n 2, 1) := by decide +kernel
theorem dX8_refuses_108 : decode cX8_refuses 108 = .ok (.if_icmp .ge 7, 3) := by decide +kernel
theorem dX8_refuses_111 : decode cX8_refuses 111 = .ok (.iconst 1, 1) := by decide +kernel
theorem dX8_refuses_112 : decode cX8_refuses 112 = .ok (.goto 4, 3) := by decide +kernel
theorem dX8_refuses_115 : decode cX8_refuses 115 = .ok (.iconst 0, 1) := by decide +kernel
theorem dX8_refuses_116 : decode cX8_refuses 116 = .ok (.istore 7, 2) := by decide +kernel
theorem dX8_refuses_118 : decode cX8_refuses 118 = .ok (.iload 8, 2) := by decide +kernel
theorem dX8_refuses_120 : decode cX8_refuses 120 = .ok (.ifCond .ne 31, 3) := by decide +kernel
theorem dX8_refuses_123 : decode cX8_refuses 123 = .ok (.aload_n 0, 1) := by decide +kernel
theorem dX8_refuses_124 : decode cX8_refuses 124 = .ok (.getfield 7, 3) := by decide +kernel
theorem dX8_refuses_127 : decode cX8_refuses 127 = .ok (.bipush 101, 2) := by decide +kernel
theorem dX8_refuses_129 : decode cX8_refuses 129 = .ok (.iload_n 1, 1) := by decide +kernel
theorem dX8_refuses_130 : decode cX8_refuses 130 = .ok (.iadd, 1) := by decide +kernel
theorem dX8_refuses_131 : decode cX8_refuses 131 = .ok (.iaload, 1) := by decide +kernel
theorem dX8_refuses_132 : decode cX8_refuses 132 = .ok (.iload 9, 2) := by decide +kernel
theorem dX8_refuses_134 : decode cX8_refuses 134 = .ok (.invokestatic 127, 3) := by decide +kernel
theorem dX8_refuses_137 : decode cX8_refuses 137 = .ok (.ifCond .eq 18, 3) := by decide +kernel
theorem dX8_refuses_140 : decode cX8_refuses 140 = .ok (.iload 10, 2) := by decide +kernel
theorem dX8_refuses_142 : decode cX8_refuses 142 = .ok (.ifCond .lt 13, 3) := by decide +kernel
theorem dX8_refuses_145 : decode cX8_refuses 145 = .ok (.iload 10, 2) := by decide +kernel
theorem dX8_refuses_147 : decode cX8_refuses 147 = .ok (.iload_n 2, 1) := by decide +kernel
theorem dX8_refuses_148 : decode cX8_refuses 148 = .ok (.if_icmp .eq 7, 3) := by decide +kernel
theorem dX8_refuses_151 : decode cX8_refuses 151 = .ok (.iconst 1, 1) := by decide +kernel
theorem dX8_refuses_152 : decode cX8_refuses 152 = .ok (.goto 4, 3) := by decide +kernel
theorem dX8_refuses_155 : decode cX8_refuses 155 = .ok (.iconst 0, 1) := by decide +kernel
theorem dX8_refuses_156 : decode cX8_refuses 156 = .ok (.istore 8, 2) := by decide +kernel
theorem dX8_refuses_158 : decode cX8_refuses 158 = .ok (.iinc 9 1, 3) := by decide +kernel
theorem dX8_refuses_161 : decode cX8_refuses 161 = .ok (.goto (-125), 3) := by decide +kernel
theorem dX8_refuses_164 : decode cX8_refuses 164 = .ok (.iload 6, 2) := by decide +kernel
theorem dX8_refuses_166 : decode cX8_refuses 166 = .ok (.ifCond .ne 8, 3) := by decide +kernel
theorem dX8_refuses_169 : decode cX8_refuses 169 = .ok (.iload 7, 2) := by decide +kernel
theorem dX8_refuses_171 : decode cX8_refuses 171 = .ok (.ifCond .eq 14, 3) := by decide +kernel
theorem dX8_refuses_174 : decode cX8_refuses 174 = .ok (.iload 6, 2) := by decide +kernel
theorem dX8_refuses_176 : decode cX8_refuses 176 = .ok (.ifCond .eq 7, 3) := by decide +kernel
theorem dX8_refuses_179 : decode cX8_refuses 179 = .ok (.iconst 1, 1) := by decide +kernel
theorem dX8_refuses_180 : decode cX8_refuses 180 = .ok (.goto 4, 3) := by decide +kernel
theorem dX8_refuses_183 : decode cX8_refuses 183 = .ok (.iconst 2, 1) := by decide +kernel
theorem dX8_refuses_184 : decode cX8_refuses 184 = .ok (.ireturn, 1) := by decide +kernel
theorem dX8_refuses_185 : decode cX8_refuses 185 = .ok (.aload_n 0, 1) := by decide +kernel
theorem dX8_refuses_186 : decode cX8_refuses 186 = .ok (.getfield 7, 3) := by decide +kernel
theorem dX8_refuses_189 : decode cX8_refuses 189 = .ok (.bipush 89, 2) := by decide +kernel
theorem dX8_refuses_191 : decode cX8_refuses 191 = .ok (.iload_n 1, 1) := by decide +kernel
theorem dX8_refuses_192 : decode cX8_refuses 192 = .ok (.iadd, 1) := by decide +kernel
theorem dX8_refuses_193 : decode cX8_refuses 193 = .ok (.iaload, 1) := by decide +kernel
theorem dX8_refuses_194 : decode cX8_refuses 194 = .ok (.iload_n 3, 1) := by decide +kernel
theorem dX8_refuses_195 : decode cX8_refuses 195 = .ok (.iand, 1) := by decide +kernel
theorem dX8_refuses_196 : decode cX8_refuses 196 = .ok (.ifCond .eq 5, 3) := by decide +kernel
theorem dX8_refuses_199 : decode cX8_refuses 199 = .ok (.iconst 3, 1) := by decide +kernel
theorem dX8_refuses_200 : decode cX8_refuses 200 = .ok (.ireturn, 1) := by decide +kernel
theorem dX8_refuses_201 : decode cX8_refuses 201 = .ok (.iload 8, 2) := by decide +kernel
theorem dX8_refuses_203 : decode cX8_refuses 203 = .ok (.ifCond .eq 5, 3) := by decide +kernel
theorem dX8_refuses_206 : decode cX8_refuses 206 = .ok (.iconst 4, 1) := by decide +kernel
theorem dX8_refuses_207 : decode cX8_refuses 207 = .ok (.ireturn, 1) := by decide +kernel
theorem dX8_refuses_208 : decode cX8_refuses 208 = .ok (.aload_n 0, 1) := by decide +kernel
theorem dX8_refuses_209 : decode cX8_refuses 209 = .ok (.iload_n 3, 1) := by decide +kernel
theorem dX8_refuses_210 : decode cX8_refuses 210 = .ok (.invokevirtual 181, 3) := by decide +kernel
theorem dX8_refuses_213 : decode cX8_refuses 213 = .ok (.invokestatic 133, 3) := by decide +kernel
theorem dX8_refuses_216 : decode cX8_refuses 216 = .ok (.aload_n 0, 1) := by decide +kernel
theorem dX8_refuses_217 : decode cX8_refuses 217 = .ok (.getfield 7, 3) := by decide +kernel
theorem dX8_refuses_220 : decode cX8_refuses 220 = .ok (.bipush 6, 2) := by decide +kernel
theorem dX8_refuses_222 : decode cX8_refuses 222 = .ok (.iaload, 1) := by decide +kernel
theorem dX8_refuses_223 : decode cX8_refuses 223 = .ok (.if_icmp .le 7, 3) := by decide +kernel
theorem dX8_refuses_226 : decode cX8_refuses 226 = .ok (.iconst 5, 1) := by decide +kernel
theorem dX8_refuses_227 : decode cX8_refuses 227 = .ok (.goto 26, 3) := by decide +kernel
theorem dX8_refuses_230 : decode cX8_refuses 230 = .ok (.aload_n 0, 1) := by decide +kernel
theorem dX8_refuses_231 : decode cX8_refuses 231 = .ok (.iload_n 3, 1) := by decide +kernel
theorem dX8_refuses_232 : decode cX8_refuses 232 = .ok (.aload_n 0, 1) := by decide +kernel
theorem dX8_refuses_233 : decode cX8_refuses 233 = .ok (.getfield 7, 3) := by decide +kernel
theorem dX8_refuses_236 : decode cX8_refuses 236 = .ok (.bipush 8, 2) := by decide +kernel
theorem dX8_refuses_238 : decode cX8_refuses 238 = .ok (.iload_n 2, 1) := by decide +kernel
theorem dX8_refuses_239 : decode cX8_refuses 239 = .ok (.iadd, 1) := by decide +kernel
theorem dX8_refuses_240 : decode cX8_refuses 240 = .ok (.iaload, 1) := by decide +kernel
theorem dX8_refuses_241 : decode cX8_refuses 241 = .ok (.invokevirtual 184, 3) := by decide +kernel
theorem dX8_refuses_244 : decode cX8_refuses 244 = .ok (.ifCond .eq 7, 3) := by decide +kernel
theorem dX8_refuses_247 : decode cX8_refuses 247 = .ok (.iconst 0, 1) := by decide +kernel
theorem dX8_refuses_248 : decode cX8_refuses 248 = .ok (.goto 5, 3) := by decide +kernel
theorem dX8_refuses_251 : decode cX8_refuses 251 = .ok (.bipush 6, 2) := by decide +kernel
theorem dX8_refuses_253 : decode cX8_refuses 253 = .ok (.ireturn, 1) := by decide +kernel
theorem dX8_lowest_0 : decode cX8_lowest 0 = .ok (.iconst 0, 1) := by decide +kernel
theorem dX8_lowest_1 : decode cX8_lowest 1 = .ok (.istore_n 2, 1) := by decide +kernel
theorem dX8_lowest_2 : decode cX8_lowest 2 = .ok (.iload_n 2, 1) := by decide +kernel
theorem dX8_lowest_3 : decode cX8_lowest 3 = .ok (.bipush 8, 2) := by decide +kernel
theorem dX8_lowest_5 : decode cX8_lowest 5 = .ok (.if_icmp .ge 20, 3) := by decide +kernel
theorem dX8_lowest_8 : decode cX8_lowest 8 = .ok (.aload_n 0, 1) := by decide +kernel
theorem dX8_lowest_9 : decode cX8_lowest 9 = .ok (.iload_n 1, 1) := by decide +kernel
theorem dX8_lowest_10 : decode cX8_lowest 10 = .ok (.iload_n 2, 1) := by decide +kernel
theorem dX8_lowest_11 : decode cX8_lowest 11 = .ok (.invokevirtual 187, 3) := by decide +kernel
theorem dX8_lowest_14 : decode cX8_lowest 14 = .ok (.ifCond .ne 5, 3) := by decide +kernel
theorem dX8_lowest_17 : decode cX8_lowest 17 = .ok (.iload_n 2, 1) := by decide +kernel
theorem dX8_lowest_18 : decode cX8_lowest 18 = .ok (.ireturn, 1) := by decide +kernel
theorem dX8_lowest_19 : decode cX8_lowest 19 = .ok (.iinc 2 1, 3) := by decide +kernel
theorem dX8_lowest_22 : decode cX8_lowest 22 = .ok (.goto (-20), 3) := by decide +kernel
theorem dX8_lowest_25 : decode cX8_lowest 25 = .ok (.iconst (-1), 1) := by decide +kernel
theorem dX8_lowest_26 : decode cX8_lowest 26 = .ok (.ireturn, 1) := by decide +kernel
theorem dX8_assigns_0 : decode cX8_assigns 0 = .ok (.aload_n 0, 1) := by decide +kernel
theorem dX8_assigns_1 : decode cX8_assigns 1 = .ok (.iload_n 1, 1) := by decide +kernel
theorem dX8_assigns_2 : decode cX8_assigns 2 = .ok (.invokevirtual 121, 3) := by decide +kernel
theorem dX8_assigns_5 : decode cX8_assigns 5 = .ok (.ifCond .eq 13, 3) := by decide +kernel
theorem dX8_assigns_8 : decode cX8_assigns 8 = .ok (.iload_n 2, 1) := by decide +kernel
theorem dX8_assigns_9 : decode cX8_assigns 9 = .ok (.iconst (-1), 1) := by decide +kernel
theorem dX8_assigns_10 : decode cX8_assigns 10 = .ok (.bipush 7, 2) := by decide +kernel
theorem dX8_assigns_12 : decode cX8_assigns 12 = .ok (.invokestatic 74, 3) := by decide +kernel
theorem dX8_assigns_15 : decode cX8_assigns 15 = .ok (.ifCond .ne 9, 3) := by decide +kernel
theorem dX8_assigns_18 : decode cX8_assigns 18 = .ok (.aload_n 0, 1) := by decide +kernel
theorem dX8_assigns_19 : decode cX8_assigns 19 = .ok (.iconst 1, 1) := by decide +kernel
theorem dX8_assigns_20 : decode cX8_assigns 20 = .ok (.invokevirtual 87, 3) := by decide +kernel
theorem dX8_assigns_23 : decode cX8_assigns 23 = .ok (.ireturn, 1) := by decide +kernel
theorem dX8_assigns_24 : decode cX8_assigns 24 = .ok (.iload_n 2, 1) := by decide +kernel
theorem dX8_assigns_25 : decode cX8_assigns 25 = .ok (.iconst (-1), 1) := by decide +kernel
theorem dX8_assigns_26 : decode cX8_assigns 26 = .ok (.if_icmp .ne 7, 3) := by decide +kernel
theorem dX8_assigns_29 : decode cX8_assigns 29 = .ok (.iconst 0, 1) := by decide +kernel
theorem dX8_assigns_30 : decode cX8_assigns 30 = .ok (.goto 9, 3) := by decide +kernel
theorem dX8_assigns_33 : decode cX8_assigns 33 = .ok (.aload_n 0, 1) := by decide +kernel
theorem dX8_assigns_34 : decode cX8_assigns 34 = .ok (.iload_n 1, 1) := by decide +kernel
theorem dX8_assigns_35 : decode cX8_assigns 35 = .ok (.iload_n 2, 1) := by decide +kernel
theorem dX8_assigns_36 : decode cX8_assigns 36 = .ok (.invokevirtual 187, 3) := by decide +kernel
theorem dX8_assigns_39 : decode cX8_assigns 39 = .ok (.istore_n 3, 1) := by decide +kernel
theorem dX8_assigns_40 : decode cX8_assigns 40 = .ok (.iload_n 3, 1) := by decide +kernel
theorem dX8_assigns_41 : decode cX8_assigns 41 = .ok (.ifCond .eq 14, 3) := by decide +kernel
theorem dX8_assigns_44 : decode cX8_assigns 44 = .ok (.aload_n 0, 1) := by decide +kernel
theorem dX8_assigns_45 : decode cX8_assigns 45 = .ok (.iload_n 3, 1) := by decide +kernel
theorem dX8_assigns_46 : decode cX8_assigns 46 = .ok (.putfield 190, 3) := by decide +kernel
theorem dX8_assigns_49 : decode cX8_assigns 49 = .ok (.aload_n 0, 1) := by decide +kernel
theorem dX8_assigns_50 : decode cX8_assigns 50 = .ok (.iconst 2, 1) := by decide +kernel
theorem dX8_assigns_51 : decode cX8_assigns 51 = .ok (.invokevirtual 87, 3) := by decide +kernel
theorem dX8_assigns_54 : decode cX8_assigns 54 = .ok (.ireturn, 1) := by decide +kernel
theorem dX8_assigns_55 : decode cX8_assigns 55 = .ok (.aload_n 0, 1) := by decide +kernel
theorem dX8_assigns_56 : decode cX8_assigns 56 = .ok (.iload_n 1, 1) := by decide +kernel
theorem dX8_assigns_57 : decode cX8_assigns 57 = .ok (.iconst 4, 1) := by decide +kernel
theorem dX8_assigns_58 : decode cX8_assigns 58 = .ok (.invokevirtual 124, 3) := by decide +kernel
theorem dX8_assigns_61 : decode cX8_assigns 61 = .ok (.istore 4, 2) := by decide +kernel
theorem dX8_assigns_63 : decode cX8_assigns 63 = .ok (.aload_n 0, 1) := by decide +kernel
theorem dX8_assigns_64 : decode cX8_assigns 64 = .ok (.iload_n 1, 1) := by decide +kernel
theorem dX8_assigns_65 : decode cX8_assigns 65 = .ok (.iconst 4, 1) := by decide +kernel
theorem dX8_assigns_66 : decode cX8_assigns 66 = .ok (.iload_n 2, 1) := by decide +kernel
theorem dX8_assigns_67 : decode cX8_assigns 67 = .ok (.invokevirtual 113, 3) := by decide +kernel
theorem dX8_assigns_70 : decode cX8_assigns 70 = .ok (.aload_n 0, 1) := by decide +kernel
theorem dX8_assigns_71 : decode cX8_assigns 71 = .ok (.iload 4, 2) := by decide +kernel
theorem dX8_assigns_73 : decode cX8_assigns 73 = .ok (.invokevirtual 91, 3) := by decide +kernel
theorem dX8_assigns_76 : decode cX8_assigns 76 = .ok (.ireturn, 1) := by decide +kernel
theorem dX8_assign_0 : decode cX8_assign 0 = .ok (.aload_n 0, 1) := by decide +kernel
theorem dX8_assign_1 : decode cX8_assign 1 = .ok (.invokevirtual 84, 3) := by decide +kernel
theorem dX8_assign_4 : decode cX8_assign 4 = .ok (.aload_n 0, 1) := by decide +kernel
theorem dX8_assign_5 : decode cX8_assign 5 = .ok (.aload_n 0, 1) := by decide +kernel
theorem dX8_assign_6 : decode cX8_assign 6 = .ok (.iload_n 1, 1) := by decide +kernel
theorem dX8_assign_7 : decode cX8_assign 7 = .ok (.iload_n 2, 1) := by decide +kernel
theorem dX8_assign_8 : decode cX8_assign 8 = .ok (.invokevirtual 193, 3) := by decide +kernel
theorem dX8_assign_11 : decode cX8_assign 11 = .ok (.invokevirtual 94, 3) := by decide +kernel
theorem dX8_assign_14 : decode cX8_assign 14 = .ok (.ireturn, 1) := by decide +kernel
theorem dX8_reason_0 : decode cX8_reason 0 = .ok (.aload_n 0, 1) := by decide +kernel
theorem dX8_reason_1 : decode cX8_reason 1 = .ok (.iload_n 1, 1) := by decide +kernel
theorem dX8_reason_2 : decode cX8_reason 2 = .ok (.invokevirtual 121, 3) := by decide +kernel
theorem dX8_reason_5 : decode cX8_reason 5 = .ok (.ifCond .eq 23, 3) := by decide +kernel
theorem dX8_reason_8 : decode cX8_reason 8 = .ok (.iload_n 2, 1) := by decide +kernel
theorem dX8_reason_9 : decode cX8_reason 9 = .ok (.invokestatic 109, 3) := by decide +kernel
theorem dX8_reason_12 : decode cX8_reason 12 = .ok (.ifCond .eq 16, 3) := by decide +kernel
theorem dX8_reason_15 : decode cX8_reason 15 = .ok (.aload_n 0, 1) := by decide +kernel
theorem dX8_reason_16 : decode cX8_reason 16 = .ok (.aload_n 0, 1) := by decide +kernel
theorem dX8_reason_17 : decode cX8_reason 17 = .ok (.iload_n 1, 1) := by decide +kernel
theorem dX8_reason_18 : decode cX8_reason 18 = .ok (.iload_n 2, 1) := by decide +kernel
theorem dX8_reason_19 : decode cX8_reason 19 = .ok (.invokevirtual 187, 3) := by decide +kernel
theorem dX8_reason_22 : decode cX8_reason 22 = .ok (.invokevirtual 91, 3) := by decide +kernel
theorem dX8_reason_25 : decode cX8_reason 25 = .ok (.goto 8, 3) := by decide +kernel
theorem dX8_reason_28 : decode cX8_reason 28 = .ok (.aload_n 0, 1) := by decide +kernel
theorem dX8_reason_29 : decode cX8_reason 29 = .ok (.iconst 1, 1) := by decide +kernel
theorem dX8_reason_30 : decode cX8_reason 30 = .ok (.invokevirtual 87, 3) := by decide +kernel
theorem dX8_reason_33 : decode cX8_reason 33 = .ok (.ireturn, 1) := by decide +kernel
theorem dX8_whyNot_0 : decode cX8_whyNot 0 = .ok (.aload_n 0, 1) := by decide +kernel
theorem dX8_whyNot_1 : decode cX8_whyNot 1 = .ok (.getfield 190, 3) := by decide +kernel
theorem dX8_whyNot_4 : decode cX8_whyNot 4 = .ok (.ifCond .ne 11, 3) := by decide +kernel
theorem dX8_whyNot_7 : decode cX8_whyNot 7 = .ok (.aload_n 0, 1) := by decide +kernel
theorem dX8_whyNot_8 : decode cX8_whyNot 8 = .ok (.iconst 1, 1) := by decide +kernel
theorem dX8_whyNot_9 : decode cX8_whyNot 9 = .ok (.invokevirtual 87, 3) := by decide +kernel
theorem dX8_whyNot_12 : decode cX8_whyNot 12 = .ok (.goto 11, 3) := by decide +kernel
theorem dX8_whyNot_15 : decode cX8_whyNot 15 = .ok (.aload_n 0, 1) := by decide +kernel
theorem dX8_whyNot_16 : decode cX8_whyNot 16 = .ok (.aload_n 0, 1) := by decide +kernel
theorem dX8_whyNot_17 : decode cX8_whyNot 17 = .ok (.getfield 190, 3) := by decide +kernel
theorem dX8_whyNot_20 : decode cX8_whyNot 20 = .ok (.invokevirtual 91, 3) := by decide +kernel
theorem dX8_whyNot_23 : decode cX8_whyNot 23 = .ok (.ireturn, 1) := by decide +kernel
theorem dX8_most_0 : decode cX8_most 0 = .ok (.aload_n 0, 1) := by decide +kernel
theorem dX8_most_1 : decode cX8_most 1 = .ok (.getfield 7, 3) := by decide +kernel
theorem dX8_most_4 : decode cX8_most 4 = .ok (.bipush 8, 2) := by decide +kernel
theorem dX8_most_6 : decode cX8_most 6 = .ok (.iload_n 1, 1) := by decide +kernel
theorem dX8_most_7 : decode cX8_most 7 = .ok (.iadd, 1) := by decide +kernel
theorem dX8_most_8 : decode cX8_most 8 = .ok (.iaload, 1) := by decide +kernel
theorem dX8_most_9 : decode cX8_most 9 = .ok (.aload_n 0, 1) := by decide +kernel
theorem dX8_most_10 : decode cX8_most 10 = .ok (.getfield 7, 3) := by decide +kernel
theorem dX8_most_13 : decode cX8_most 13 = .ok (.iconst 4, 1) := by decide +kernel
theorem dX8_most_14 : decode cX8_most 14 = .ok (.iaload, 1) := by decide +kernel
theorem dX8_most_15 : decode cX8_most 15 = .ok (.imul, 1) := by decide +kernel
theorem dX8_most_16 : decode cX8_most 16 = .ok (.aload_n 0, 1) := by decide +kernel
theorem dX8_most_17 : decode cX8_most 17 = .ok (.invokevirtual 105, 3) := by decide +kernel
theorem dX8_most_20 : decode cX8_most 20 = .ok (.imul, 1) := by decide +kernel
theorem dX8_most_21 : decode cX8_most 21 = .ok (.ireturn, 1) := by decide +kernel
theorem dX8_lacks_0 : decode cX8_lacks 0 = .ok (.aload_n 0, 1) := by decide +kernel
theorem dX8_lacks_1 : decode cX8_lacks 1 = .ok (.iload_n 1, 1) := by decide +kernel
theorem dX8_lacks_2 : decode cX8_lacks 2 = .ok (.invokevirtual 196, 3) := by decide +kernel
theorem dX8_lacks_5 : decode cX8_lacks 5 = .ok (.aload_n 0, 1) := by decide +kernel
theorem dX8_lacks_6 : decode cX8_lacks 6 = .ok (.aload_n 0, 1) := by decide +kernel
theorem dX8_lacks_7 : decode cX8_lacks 7 = .ok (.iload_n 1, 1) := by decide +kernel
theorem dX8_lacks_8 : decode cX8_lacks 8 = .ok (.invokevirtual 178, 3) := by decide +kernel
theorem dX8_lacks_11 : decode cX8_lacks 11 = .ok (.invokevirtual 175, 3) := by decide +kernel
theorem dX8_lacks_14 : decode cX8_lacks 14 = .ok (.isub, 1) := by decide +kernel
theorem dX8_lacks_15 : decode cX8_lacks 15 = .ok (.ireturn, 1) := by decide +kernel
theorem dX8_station_0 : decode cX8_station 0 = .ok (.iload_n 1, 1) := by decide +kernel
theorem dX8_station_1 : decode cX8_station 1 = .ok (.invokestatic 109, 3) := by decide +kernel
theorem dX8_station_4 : decode cX8_station 4 = .ok (.ifCond .eq 12, 3) := by decide +kernel
theorem dX8_station_7 : decode cX8_station 7 = .ok (.iload_n 2, 1) := by decide +kernel
theorem dX8_station_8 : decode cX8_station 8 = .ok (.iconst 0, 1) := by decide +kernel
theorem dX8_station_9 : decode cX8_station 9 = .ok (.iconst 5, 1) := by decide +kernel
theorem dX8_station_10 : decode cX8_station 10 = .ok (.invokestatic 74, 3) := by decide +kernel
theorem dX8_station_13 : decode cX8_station 13 = .ok (.ifCond .ne 20, 3) := by decide +kernel
theorem dX8_station_16 : decode cX8_station 16 = .ok (.aload_n 0, 1) := by decide +kernel
theorem dX8_station_17 : decode cX8_station 17 = .ok (.iload_n 1, 1) := by decide +kernel
theorem dX8_station_18 : decode cX8_station 18 = .ok (.invokestatic 109, 3) := by decide +kernel
theorem dX8_station_21 : decode cX8_station 21 = .ok (.ifCond .ne 7, 3) := by decide +kernel
theorem dX8_station_24 : decode cX8_station 24 = .ok (.iconst 1, 1) := by decide +kernel
theorem dX8_station_25 : decode cX8_station 25 = .ok (.goto 4, 3) := by decide +kernel
theorem dX8_station_28 : decode cX8_station 28 = .ok (.iconst 2, 1) := by decide +kernel
theorem dX8_station_29 : decode cX8_station 29 = .ok (.invokevirtual 87, 3) := by decide +kernel
theorem dX8_station_32 : decode cX8_station 32 = .ok (.ireturn, 1) := by decide +kernel
theorem dX8_station_33 : decode cX8_station 33 = .ok (.aload_n 0, 1) := by decide +kernel
theorem dX8_station_34 : decode cX8_station 34 = .ok (.iload_n 1, 1) := by decide +kernel
theorem dX8_station_35 : decode cX8_station 35 = .ok (.invokevirtual 178, 3) := by decide +kernel
theorem dX8_station_38 : decode cX8_station 38 = .ok (.istore_n 3, 1) := by decide +kernel
theorem dX8_station_39 : decode cX8_station 39 = .ok (.iload_n 2, 1) := by decide +kernel
theorem dX8_station_40 : decode cX8_station 40 = .ok (.tableswitch 103 0 4 #[36, 42, 56, 66, 93], 36) := by decide +kernel
theorem dX8_station_76 : decode cX8_station 76 = .ok (.aload_n 0, 1) := by decide +kernel
theorem dX8_station_77 : decode cX8_station 77 = .ok (.iload_n 3, 1) := by decide +kernel
theorem dX8_station_78 : decode cX8_station 78 = .ok (.invokevirtual 91, 3) := by decide +kernel
theorem dX8_station_81 : decode cX8_station 81 = .ok (.ireturn, 1) := by decide +kernel
theorem dX8_station_82 : decode cX8_station 82 = .ok (.aload_n 0, 1) := by decide +kernel
theorem dX8_station_83 : decode cX8_station 83 = .ok (.aload_n 0, 1) := by decide +kernel
theorem dX8_station_84 : decode cX8_station 84 = .ok (.getfield 7, 3) := by decide +kernel
theorem dX8_station_87 : decode cX8_station 87 = .ok (.bipush 8, 2) := by decide +kernel
theorem dX8_station_89 : decode cX8_station 89 = .ok (.iload_n 1, 1) := by decide +kernel
theorem dX8_station_90 : decode cX8_station 90 = .ok (.iadd, 1) := by decide +kernel
theorem dX8_station_91 : decode cX8_station 91 = .ok (.iaload, 1) := by decide +kernel
theorem dX8_station_92 : decode cX8_station 92 = .ok (.invokevirtual 91, 3) := by decide +kernel
theorem dX8_station_95 : decode cX8_station 95 = .ok (.ireturn, 1) := by decide +kernel
theorem dX8_station_96 : decode cX8_station 96 = .ok (.aload_n 0, 1) := by decide +kernel
theorem dX8_station_97 : decode cX8_station 97 = .ok (.aload_n 0, 1) := by decide +kernel
theorem dX8_station_98 : decode cX8_station 98 = .ok (.iload_n 3, 1) := by decide +kernel
theorem dX8_station_99 : decode cX8_station 99 = .ok (.invokevirtual 175, 3) := by decide +kernel
theorem dX8_station_102 : decode cX8_station 102 = .ok (.invokevirtual 91, 3) := by decide +kernel
theorem dX8_station_105 : decode cX8_station 105 = .ok (.ireturn, 1) := by decide +kernel
theorem dX8_station_106 : decode cX8_station 106 = .ok (.aload_n 0, 1) := by decide +kernel
theorem dX8_station_107 : decode cX8_station 107 = .ok (.aload_n 0, 1) := by decide +kernel
theorem dX8_station_108 : decode cX8_station 108 = .ok (.iload_n 3, 1) := by decide +kernel
theorem dX8_station_109 : decode cX8_station 109 = .ok (.aload_n 0, 1) := by decide +kernel
theorem dX8_station_110 : decode cX8_station 110 = .ok (.getfield 7, 3) := by decide +kernel
theorem dX8_station_113 : decode cX8_station 113 = .ok (.bipush 8, 2) := by decide +kernel
theorem dX8_station_115 : decode cX8_station 115 = .ok (.iload_n 1, 1) := by decide +kernel
theorem dX8_station_116 : decode cX8_station 116 = .ok (.iadd, 1) := by decide +kernel
theorem dX8_station_117 : decode cX8_station 117 = .ok (.iaload, 1) := by decide +kernel
theorem dX8_station_118 : decode cX8_station 118 = .ok (.invokevirtual 184, 3) := by decide +kernel
theorem dX8_station_121 : decode cX8_station 121 = .ok (.ifCond .eq 7, 3) := by decide +kernel
theorem dX8_station_124 : decode cX8_station 124 = .ok (.iconst 1, 1) := by decide +kernel
theorem dX8_station_125 : decode cX8_station 125 = .ok (.goto 4, 3) := by decide +kernel
theorem dX8_station_128 : decode cX8_station 128 = .ok (.iconst 0, 1) := by decide +kernel
theorem dX8_station_129 : decode cX8_station 129 = .ok (.invokevirtual 91, 3) := by decide +kernel
theorem dX8_station_132 : decode cX8_station 132 = .ok (.ireturn, 1) := by decide +kernel
theorem dX8_station_133 : decode cX8_station 133 = .ok (.aload_n 0, 1) := by decide +kernel
theorem dX8_station_134 : decode cX8_station 134 = .ok (.aload_n 0, 1) := by decide +kernel
theorem dX8_station_135 : decode cX8_station 135 = .ok (.iload_n 3, 1) := by decide +kernel
theorem dX8_station_136 : decode cX8_station 136 = .ok (.invokevirtual 181, 3) := by decide +kernel
theorem dX8_station_139 : decode cX8_station 139 = .ok (.invokevirtual 91, 3) := by decide +kernel
theorem dX8_station_142 : decode cX8_station 142 = .ok (.ireturn, 1) := by decide +kernel
theorem dX8_station_143 : decode cX8_station 143 = .ok (.aload_n 0, 1) := by decide +kernel
theorem dX8_station_144 : decode cX8_station 144 = .ok (.aload_n 0, 1) := by decide +kernel
theorem dX8_station_145 : decode cX8_station 145 = .ok (.iload_n 1, 1) := by decide +kernel
theorem dX8_station_146 : decode cX8_station 146 = .ok (.invokevirtual 199, 3) := by decide +kernel
theorem dX8_station_149 : decode cX8_station 149 = .ok (.invokevirtual 91, 3) := by decide +kernel
theorem dX8_station_152 : decode cX8_station 152 = .ok (.ireturn, 1) := by decide +kernel
theorem dX8_time_0 : decode cX8_time 0 = .ok (.iload_n 1, 1) := by decide +kernel
theorem dX8_time_1 : decode cX8_time 1 = .ok (.invokestatic 109, 3) := by decide +kernel
theorem dX8_time_4 : decode cX8_time 4 = .ok (.ifCond .eq 19, 3) := by decide +kernel
theorem dX8_time_7 : decode cX8_time 7 = .ok (.iload_n 2, 1) := by decide +kernel
theorem dX8_time_8 : decode cX8_time 8 = .ok (.iconst 0, 1) := by decide +kernel
theorem dX8_time_9 : decode cX8_time 9 = .ok (.aload_n 0, 1) := by decide +kernel
theorem dX8_time_10 : decode cX8_time 10 = .ok (.getfield 7, 3) := by decide +kernel
theorem dX8_time_13 : decode cX8_time 13 = .ok (.iconst 0, 1) := by decide +kernel
theorem dX8_time_14 : decode cX8_time 14 = .ok (.iaload, 1) := by decide +kernel
theorem dX8_time_15 : decode cX8_time 15 = .ok (.iconst 1, 1) := by decide +kernel
theorem dX8_time_16 : decode cX8_time 16 = .ok (.isub, 1) := by decide +kernel
theorem dX8_time_17 : decode cX8_time 17 = .ok (.invokestatic 74, 3) := by decide +kernel
theorem dX8_time_20 : decode cX8_time 20 = .ok (.ifCond .ne 9, 3) := by decide +kernel
theorem dX8_time_23 : decode cX8_time 23 = .ok (.aload_n 0, 1) := by decide +kernel
theorem dX8_time_24 : decode cX8_time 24 = .ok (.iconst 1, 1) := by decide +kernel
theorem dX8_time_25 : decode cX8_time 25 = .ok (.invokevirtual 87, 3) := by decide +kernel
theorem dX8_time_28 : decode cX8_time 28 = .ok (.ireturn, 1) := by decide +kernel
theorem dX8_time_29 : decode cX8_time 29 = .ok (.aload_n 0, 1) := by decide +kernel
theorem dX8_time_30 : decode cX8_time 30 = .ok (.aload_n 0, 1) := by decide +kernel
theorem dX8_time_31 : decode cX8_time 31 = .ok (.iload_n 1, 1) := by decide +kernel
theorem dX8_time_32 : decode cX8_time 32 = .ok (.invokevirtual 178, 3) := by decide +kernel
theorem dX8_time_35 : decode cX8_time 35 = .ok (.invokevirtual 168, 3) := by decide +kernel
theorem dX8_time_38 : decode cX8_time 38 = .ok (.aload_n 0, 1) := by decide +kernel
theorem dX8_time_39 : decode cX8_time 39 = .ok (.iload_n 3, 1) := by decide +kernel
theorem dX8_time_40 : decode cX8_time 40 = .ok (.ifCond .eq 11, 3) := by decide +kernel
theorem dX8_time_43 : decode cX8_time 43 = .ok (.aload_n 0, 1) := by decide +kernel
theorem dX8_time_44 : decode cX8_time 44 = .ok (.iload_n 2, 1) := by decide +kernel
theorem dX8_time_45 : decode cX8_time 45 = .ok (.invokevirtual 165, 3) := by decide +kernel
theorem dX8_time_48 : decode cX8_time 48 = .ok (.goto 8, 3) := by decide +kernel
theorem dX8_time_51 : decode cX8_time 51 = .ok (.aload_n 0, 1) := by decide +kernel
theorem dX8_time_52 : decode cX8_time 52 = .ok (.iload_n 2, 1) := by decide +kernel
theorem dX8_time_53 : decode cX8_time 53 = .ok (.invokevirtual 172, 3) := by decide +kernel
theorem dX8_time_56 : decode cX8_time 56 = .ok (.invokevirtual 91, 3) := by decide +kernel
theorem dX8_time_59 : decode cX8_time 59 = .ok (.ireturn, 1) := by decide +kernel
theorem dX8_sequence_0 : decode cX8_sequence 0 = .ok (.iload_n 1, 1) := by decide +kernel
theorem dX8_sequence_1 : decode cX8_sequence 1 = .ok (.invokestatic 109, 3) := by decide +kernel
theorem dX8_sequence_4 : decode cX8_sequence 4 = .ok (.ifCond .ne 9, 3) := by decide +kernel
theorem dX8_sequence_7 : decode cX8_sequence 7 = .ok (.aload_n 0, 1) := by decide +kernel
theorem dX8_sequence_8 : decode cX8_sequence 8 = .ok (.iconst 1, 1) := by decide +kernel
theorem dX8_sequence_9 : decode cX8_sequence 9 = .ok (.invokevirtual 87, 3) := by decide +kernel
theorem dX8_sequence_12 : decode cX8_sequence 12 = .ok (.ireturn, 1) := by decide +kernel
theorem dX8_sequence_13 : decode cX8_sequence 13 = .ok (.aload_n 0, 1) := by decide +kernel
theorem dX8_sequence_14 : decode cX8_sequence 14 = .ok (.aload_n 0, 1) := by decide +kernel
theorem dX8_sequence_15 : decode cX8_sequence 15 = .ok (.iload_n 1, 1) := by decide +kernel
theorem dX8_sequence_16 : decode cX8_sequence 16 = .ok (.invokevirtual 178, 3) := by decide +kernel
theorem dX8_sequence_19 : decode cX8_sequence 19 = .ok (.invokevirtual 168, 3) := by decide +kernel
theorem dX8_sequence_22 : decode cX8_sequence 22 = .ok (.iload_n 2, 1) := by decide +kernel
theorem dX8_sequence_23 : decode cX8_sequence 23 = .ok (.iconst 0, 1) := by decide +kernel
theorem dX8_sequence_24 : decode cX8_sequence 24 = .ok (.aload_n 0, 1) := by decide +kernel
theorem dX8_sequence_25 : decode cX8_sequence 25 = .ok (.getfield 162, 3) := by decide +kernel
theorem dX8_sequence_28 : decode cX8_sequence 28 = .ok (.iconst 1, 1) := by decide +kernel
theorem dX8_sequence_29 : decode cX8_sequence 29 = .ok (.isub, 1) := by decide +kernel
theorem dX8_sequence_30 : decode cX8_sequence 30 = .ok (.invokestatic 74, 3) := by decide +kernel
theorem dX8_sequence_33 : decode cX8_sequence 33 = .ok (.ifCond .eq 16, 3) := by decide +kernel
theorem dX8_sequence_36 : decode cX8_sequence 36 = .ok (.aload_n 0, 1) := by decide +kernel
theorem dX8_sequence_37 : decode cX8_sequence 37 = .ok (.aload_n 0, 1) := by decide +kernel
theorem dX8_sequence_38 : decode cX8_sequence 38 = .ok (.getfield 22, 3) := by decide +kernel
theorem dX8_sequence_41 : decode cX8_sequence 41 = .ok (.iload_n 2, 1) := by decide +kernel
theorem dX8_sequence_42 : decode cX8_sequence 42 = .ok (.iaload, 1) := by decide +kernel
theorem dX8_sequence_43 : decode cX8_sequence 43 = .ok (.invokevirtual 91, 3) := by decide +kernel
theorem dX8_sequence_46 : decode cX8_sequence 46 = .ok (.goto 8, 3) := by decide +kernel
theorem dX8_sequence_49 : decode cX8_sequence 49 = .ok (.aload_n 0, 1) := by decide +kernel
theorem dX8_sequence_50 : decode cX8_sequence 50 = .ok (.iconst 2, 1) := by decide +kernel
theorem dX8_sequence_51 : decode cX8_sequence 51 = .ok (.invokevirtual 87, 3) := by decide +kernel
theorem dX8_sequence_54 : decode cX8_sequence 54 = .ok (.ireturn, 1) := by decide +kernel
theorem dX8_sumOfAll_0 : decode cX8_sumOfAll 0 = .ok (.iconst 0, 1) := by decide +kernel
theorem dX8_sumOfAll_1 : decode cX8_sumOfAll 1 = .ok (.istore_n 1, 1) := by decide +kernel
theorem dX8_sumOfAll_2 : decode cX8_sumOfAll 2 = .ok (.iconst 0, 1) := by decide +kernel
theorem dX8_sumOfAll_3 : decode cX8_sumOfAll 3 = .ok (.istore_n 2, 1) := by decide +kernel
theorem dX8_sumOfAll_4 : decode cX8_sumOfAll 4 = .ok (.iload_n 2, 1) := by decide +kernel
theorem dX8_sumOfAll_5 : decode cX8_sumOfAll 5 = .ok (.aload_n 0, 1) := by decide +kernel
theorem dX8_sumOfAll_6 : decode cX8_sumOfAll 6 = .ok (.getfield 7, 3) := by decide +kernel
theorem dX8_sumOfAll_9 : decode cX8_sumOfAll 9 = .ok (.bipush 16, 2) := by decide +kernel
theorem dX8_sumOfAll_11 : decode cX8_sumOfAll 11 = .ok (.iaload, 1) := by decide +kernel
theorem dX8_sumOfAll_12 : decode cX8_sumOfAll 12 = .ok (.if_icmp .ge 17, 3) := by decide +kernel
theorem dX8_sumOfAll_15 : decode cX8_sumOfAll 15 = .ok (.iload_n 1, 1) := by decide +kernel
theorem dX8_sumOfAll_16 : decode cX8_sumOfAll 16 = .ok (.aload_n 0, 1) := by decide +kernel
theorem dX8_sumOfAll_17 : decode cX8_sumOfAll 17 = .ok (.iload_n 2, 1) := by decide +kernel
theorem dX8_sumOfAll_18 : decode cX8_sumOfAll 18 = .ok (.invokevirtual 150, 3) := by decide +kernel
theorem dX8_sumOfAll_21 : decode cX8_sumOfAll 21 = .ok (.iadd, 1) := by decide +kernel
theorem dX8_sumOfAll_22 : decode cX8_sumOfAll 22 = .ok (.istore_n 1, 1) := by decide +kernel
theorem dX8_sumOfAll_23 : decode cX8_sumOfAll 23 = .ok (.iinc 2 1, 3) := by decide +kernel
theorem dX8_sumOfAll_26 : decode cX8_sumOfAll 26 = .ok (.goto (-22), 3) := by decide +kernel
theorem dX8_sumOfAll_29 : decode cX8_sumOfAll 29 = .ok (.iload_n 1, 1) := by decide +kernel
theorem dX8_sumOfAll_30 : decode cX8_sumOfAll 30 = .ok (.ireturn, 1) := by decide +kernel
theorem dX8_busiest_0 : decode cX8_busiest 0 = .ok (.iconst 0, 1) := by decide +kernel
theorem dX8_busiest_1 : decode cX8_busiest 1 = .ok (.istore_n 1, 1) := by decide +kernel
theorem dX8_busiest_2 : decode cX8_busiest 2 = .ok (.iconst 1, 1) := by decide +kernel
theorem dX8_busiest_3 : decode cX8_busiest 3 = .ok (.istore_n 2, 1) := by decide +kernel
theorem dX8_busiest_4 : decode cX8_busiest 4 = .ok (.iload_n 2, 1) := by decide +kernel
theorem dX8_busiest_5 : decode cX8_busiest 5 = .ok (.bipush 8, 2) := by decide +kernel
theorem dX8_busiest_7 : decode cX8_busiest 7 = .ok (.if_icmp .ge 67, 3) := by decide +kernel
theorem dX8_busiest_10 : decode cX8_busiest 10 = .ok (.aload_n 0, 1) := by decide +kernel
theorem dX8_busiest_11 : decode cX8_busiest 11 = .ok (.aload_n 0, 1) := by decide +kernel
theorem dX8_busiest_12 : decode cX8_busiest 12 = .ok (.iload_n 2, 1) := by decide +kernel
theorem dX8_busiest_13 : decode cX8_busiest 13 = .ok (.invokevirtual 178, 3) := by decide +kernel
theorem dX8_busiest_16 : decode cX8_busiest 16 = .ok (.invokevirtual 175, 3) := by decide +kernel
theorem dX8_busiest_19 : decode cX8_busiest 19 = .ok (.i2l, 1) := by decide +kernel
theorem dX8_busiest_20 : decode cX8_busiest 20 = .ok (.aload_n 0, 1) := by decide +kernel
theorem dX8_busiest_21 : decode cX8_busiest 21 = .ok (.getfield 7, 3) := by decide +kernel
theorem dX8_busiest_24 : decode cX8_busiest 24 = .ok (.bipush 8, 2) := by decide +kernel
theorem dX8_busiest_26 : decode cX8_busiest 26 = .ok (.iload_n 1, 1) := by decide +kernel
theorem dX8_busiest_27 : decode cX8_busiest 27 = .ok (.iadd, 1) := by decide +kernel
theorem dX8_busiest_28 : decode cX8_busiest 28 = .ok (.iaload, 1) := by decide +kernel
theorem dX8_busiest_29 : decode cX8_busiest 29 = .ok (.i2l, 1) := by decide +kernel
theorem dX8_busiest_30 : decode cX8_busiest 30 = .ok (.lmul, 1) := by decide +kernel
theorem dX8_busiest_31 : decode cX8_busiest 31 = .ok (.lstore_n 3, 1) := by decide +kernel
theorem dX8_busiest_32 : decode cX8_busiest 32 = .ok (.aload_n 0, 1) := by decide +kernel
theorem dX8_busiest_33 : decode cX8_busiest 33 = .ok (.aload_n 0, 1) := by decide +kernel
theorem dX8_busiest_34 : decode cX8_busiest 34 = .ok (.iload_n 1, 1) := by decide +kernel
theorem dX8_busiest_35 : decode cX8_busiest 35 = .ok (.invokevirtual 178, 3) := by decide +kernel
theorem dX8_busiest_38 : decode cX8_busiest 38 = .ok (.invokevirtual 175, 3) := by decide +kernel
theorem dX8_busiest_41 : decode cX8_busiest 41 = .ok (.i2l, 1) := by decide +kernel
theorem dX8_busiest_42 : decode cX8_busiest 42 = .ok (.aload_n 0, 1) := by decide +kernel
theorem dX8_busiest_43 : decode cX8_busiest 43 = .ok (.getfield 7, 3) := by decide +kernel
theorem dX8_busiest_46 : decode cX8_busiest 46 = .ok (.bipush 8, 2) := by decide +kernel
theorem dX8_busiest_48 : decode cX8_busiest 48 = .ok (.iload_n 2, 1) := by decide +kernel
theorem dX8_busiest_49 : decode cX8_busiest 49 = .ok (.iadd, 1) := by decide +kernel
theorem dX8_busiest_50 : decode cX8_busiest 50 = .ok (.iaload, 1) := by decide +kernel
theorem dX8_busiest_51 : decode cX8_busiest 51 = .ok (.i2l, 1) := by decide +kernel
theorem dX8_busiest_52 : decode cX8_busiest 52 = .ok (.lmul, 1) := by decide +kernel
theorem dX8_busiest_53 : decode cX8_busiest 53 = .ok (.lstore 5, 2) := by decide +kernel
theorem dX8_busiest_55 : decode cX8_busiest 55 = .ok (.lload_n 3, 1) := by decide +kernel
theorem dX8_busiest_56 : decode cX8_busiest 56 = .ok (.lload 5, 2) := by decide +kernel
theorem dX8_busiest_58 : decode cX8_busiest 58 = .ok (.lcmp, 1) := by decide +kernel
theorem dX8_busiest_59 : decode cX8_busiest 59 = .ok (.ifCond .le 7, 3) := by decide +kernel
theorem dX8_busiest_62 : decode cX8_busiest 62 = .ok (.iload_n 2, 1) := by decide +kernel
theorem dX8_busiest_63 : decode cX8_busiest 63 = .ok (.goto 4, 3) := by decide +kernel
theorem dX8_busiest_66 : decode cX8_busiest 66 = .ok (.iload_n 1, 1) := by decide +kernel
theorem dX8_busiest_67 : decode cX8_busiest 67 = .ok (.istore_n 1, 1) := by decide +kernel
theorem dX8_busiest_68 : decode cX8_busiest 68 = .ok (.iinc 2 1, 3) := by decide +kernel
theorem dX8_busiest_71 : decode cX8_busiest 71 = .ok (.goto (-67), 3) := by decide +kernel
theorem dX8_busiest_74 : decode cX8_busiest 74 = .ok (.iload_n 1, 1) := by decide +kernel
theorem dX8_busiest_75 : decode cX8_busiest 75 = .ok (.ireturn, 1) := by decide +kernel
theorem dX8_refused_0 : decode cX8_refused 0 = .ok (.iconst 0, 1) := by decide +kernel
theorem dX8_refused_1 : decode cX8_refused 1 = .ok (.istore_n 1, 1) := by decide +kernel
theorem dX8_refused_2 : decode cX8_refused 2 = .ok (.iconst 0, 1) := by decide +kernel
theorem dX8_refused_3 : decode cX8_refused 3 = .ok (.istore_n 2, 1) := by decide +kernel
theorem dX8_refused_4 : decode cX8_refused 4 = .ok (.iload_n 2, 1) := by decide +kernel
theorem dX8_refused_5 : decode cX8_refused 5 = .ok (.aload_n 0, 1) := by decide +kernel
theorem dX8_refused_6 : decode cX8_refused 6 = .ok (.getfield 7, 3) := by decide +kernel
theorem dX8_refused_9 : decode cX8_refused 9 = .ok (.bipush 16, 2) := by decide +kernel
theorem dX8_refused_11 : decode cX8_refused 11 = .ok (.iaload, 1) := by decide +kernel
theorem dX8_refused_12 : decode cX8_refused 12 = .ok (.if_icmp .ge 40, 3) := by decide +kernel
theorem dX8_refused_15 : decode cX8_refused 15 = .ok (.iload_n 1, 1) := by decide +kernel
theorem dX8_refused_16 : decode cX8_refused 16 = .ok (.aload_n 0, 1) := by decide +kernel
theorem dX8_refused_17 : decode cX8_refused 17 = .ok (.iload_n 2, 1) := by decide +kernel
theorem dX8_refused_18 : decode cX8_refused 18 = .ok (.iconst 4, 1) := by decide +kernel
theorem dX8_refused_19 : decode cX8_refused 19 = .ok (.invokevirtual 124, 3) := by decide +kernel
theorem dX8_refused_22 : decode cX8_refused 22 = .ok (.ifCond .lt 21, 3) := by decide +kernel
theorem dX8_refused_25 : decode cX8_refused 25 = .ok (.aload_n 0, 1) := by decide +kernel
theorem dX8_refused_26 : decode cX8_refused 26 = .ok (.iload_n 2, 1) := by decide +kernel
theorem dX8_refused_27 : decode cX8_refused 27 = .ok (.aload_n 0, 1) := by decide +kernel
theorem dX8_refused_28 : decode cX8_refused 28 = .ok (.iload_n 2, 1) := by decide +kernel
theorem dX8_refused_29 : decode cX8_refused 29 = .ok (.iconst 4, 1) := by decide +kernel
theorem dX8_refused_30 : decode cX8_refused 30 = .ok (.invokevirtual 124, 3) := by decide +kernel
theorem dX8_refused_33 : decode cX8_refused 33 = .ok (.invokevirtual 187, 3) := by decide +kernel
theorem dX8_refused_36 : decode cX8_refused 36 = .ok (.ifCond .eq 7, 3) := by decide +kernel
theorem dX8_refused_39 : decode cX8_refused 39 = .ok (.iconst 1, 1) := by decide +kernel
theorem dX8_refused_40 : decode cX8_refused 40 = .ok (.goto 4, 3) := by decide +kernel
theorem dX8_refused_43 : decode cX8_refused 43 = .ok (.iconst 0, 1) := by decide +kernel
theorem dX8_refused_44 : decode cX8_refused 44 = .ok (.iadd, 1) := by decide +kernel
theorem dX8_refused_45 : decode cX8_refused 45 = .ok (.istore_n 1, 1) := by decide +kernel
theorem dX8_refused_46 : decode cX8_refused 46 = .ok (.iinc 2 1, 3) := by decide +kernel
theorem dX8_refused_49 : decode cX8_refused 49 = .ok (.goto (-45), 3) := by decide +kernel
theorem dX8_refused_52 : decode cX8_refused 52 = .ok (.iload_n 1, 1) := by decide +kernel
theorem dX8_refused_53 : decode cX8_refused 53 = .ok (.ireturn, 1) := by decide +kernel
theorem dX8_overAll_0 : decode cX8_overAll 0 = .ok (.iconst 0, 1) := by decide +kernel
theorem dX8_overAll_1 : decode cX8_overAll 1 = .ok (.istore_n 2, 1) := by decide +kernel
theorem dX8_overAll_2 : decode cX8_overAll 2 = .ok (.iconst 0, 1) := by decide +kernel
theorem dX8_overAll_3 : decode cX8_overAll 3 = .ok (.istore_n 3, 1) := by decide +kernel
theorem dX8_overAll_4 : decode cX8_overAll 4 = .ok (.iload_n 3, 1) := by decide +kernel
theorem dX8_overAll_5 : decode cX8_overAll 5 = .ok (.bipush 8, 2) := by decide +kernel
theorem dX8_overAll_7 : decode cX8_overAll 7 = .ok (.if_icmp .ge 140, 3) := by decide +kernel
theorem dX8_overAll_10 : decode cX8_overAll 10 = .ok (.aload_n 0, 1) := by decide +kernel
theorem dX8_overAll_11 : decode cX8_overAll 11 = .ok (.iload_n 3, 1) := by decide +kernel
theorem dX8_overAll_12 : decode cX8_overAll 12 = .ok (.invokevirtual 178, 3) := by decide +kernel
theorem dX8_overAll_15 : decode cX8_overAll 15 = .ok (.istore 4, 2) := by decide +kernel
theorem dX8_overAll_17 : decode cX8_overAll 17 = .ok (.iload_n 1, 1) := by decide +kernel
theorem dX8_overAll_18 : decode cX8_overAll 18 = .ok (.tableswitch 97 0 4 #[34, 50, 74, 97, 85], 34) := by decide +kernel
theorem dX8_overAll_52 : decode cX8_overAll 52 = .ok (.iload_n 2, 1) := by decide +kernel
theorem dX8_overAll_53 : decode cX8_overAll 53 = .ok (.iload 4, 2) := by decide +kernel
theorem dX8_overAll_55 : decode cX8_overAll 55 = .ok (.ifCond .eq 7, 3) := by decide +kernel
theorem dX8_overAll_58 : decode cX8_overAll 58 = .ok (.iconst 1, 1) := by decide +kernel
theorem dX8_overAll_59 : decode cX8_overAll 59 = .ok (.goto 4, 3) := by decide +kernel
theorem dX8_overAll_62 : decode cX8_overAll 62 = .ok (.iconst 0, 1) := by decide +kernel
theorem dX8_overAll_63 : decode cX8_overAll 63 = .ok (.iadd, 1) := by decide +kernel
theorem dX8_overAll_64 : decode cX8_overAll 64 = .ok (.istore_n 2, 1) := by decide +kernel
theorem dX8_overAll_65 : decode cX8_overAll 65 = .ok (.goto 76, 3) := by decide +kernel
theorem dX8_overAll_68 : decode cX8_overAll 68 = .ok (.iload_n 2, 1) := by decide +kernel
theorem dX8_overAll_69 : decode cX8_overAll 69 = .ok (.iload 4, 2) := by decide +kernel
theorem dX8_overAll_71 : decode cX8_overAll 71 = .ok (.ifCond .eq 15, 3) := by decide +kernel
theorem dX8_overAll_74 : decode cX8_overAll 74 = .ok (.aload_n 0, 1) := by decide +kernel
theorem dX8_overAll_75 : decode cX8_overAll 75 = .ok (.getfield 7, 3) := by decide +kernel
theorem dX8_overAll_78 : decode cX8_overAll 78 = .ok (.bipush 8, 2) := by decide +kernel
theorem dX8_overAll_80 : decode cX8_overAll 80 = .ok (.iload_n 3, 1) := by decide +kernel
theorem dX8_overAll_81 : decode cX8_overAll 81 = .ok (.iadd, 1) := by decide +kernel
theorem dX8_overAll_82 : decode cX8_overAll 82 = .ok (.iaload, 1) := by decide +kernel
theorem dX8_overAll_83 : decode cX8_overAll 83 = .ok (.goto 4, 3) := by decide +kernel
theorem dX8_overAll_86 : decode cX8_overAll 86 = .ok (.iconst 0, 1) := by decide +kernel
theorem dX8_overAll_87 : decode cX8_overAll 87 = .ok (.iadd, 1) := by decide +kernel
theorem dX8_overAll_88 : decode cX8_overAll 88 = .ok (.istore_n 2, 1) := by decide +kernel
theorem dX8_overAll_89 : decode cX8_overAll 89 = .ok (.goto 52, 3) := by decide +kernel
theorem dX8_overAll_92 : decode cX8_overAll 92 = .ok (.iload_n 2, 1) := by decide +kernel
theorem dX8_overAll_93 : decode cX8_overAll 93 = .ok (.iload 4, 2) := by decide +kernel
theorem dX8_overAll_95 : decode cX8_overAll 95 = .ok (.invokestatic 133, 3) := by decide +kernel
theorem dX8_overAll_98 : decode cX8_overAll 98 = .ok (.iadd, 1) := by decide +kernel
theorem dX8_overAll_99 : decode cX8_overAll 99 = .ok (.istore_n 2, 1) := by decide +kernel
theorem dX8_overAll_100 : decode cX8_overAll 100 = .ok (.goto 41, 3) := by decide +kernel
theorem dX8_overAll_103 : decode cX8_overAll 103 = .ok (.iload_n 2, 1) := by decide +kernel
theorem dX8_overAll_104 : decode cX8_overAll 104 = .ok (.aload_n 0, 1) := by decide +kernel
theorem dX8_overAll_105 : decode cX8_overAll 105 = .ok (.iload 4, 2) := by decide +kernel
theorem dX8_overAll_107 : decode cX8_overAll 107 = .ok (.invokevirtual 175, 3) := by decide +kernel
theorem dX8_overAll_110 : decode cX8_overAll 110 = .ok (.iadd, 1) := by decide +kernel
theorem dX8_overAll_111 : decode cX8_overAll 111 = .ok (.istore_n 2, 1) := by decide +kernel
theorem dX8_overAll_112 : decode cX8_overAll 112 = .ok (.goto 29, 3) := by decide +kernel
theorem dX8_overAll_115 : decode cX8_overAll 115 = .ok (.iload_n 2, 1) := by decide +kernel
theorem dX8_overAll_116 : decode cX8_overAll 116 = .ok (.aload_n 0, 1) := by decide +kernel
theorem dX8_overAll_117 : decode cX8_overAll 117 = .ok (.iload 4, 2) := by decide +kernel
theorem dX8_overAll_119 : decode cX8_overAll 119 = .ok (.aload_n 0, 1) := by decide +kernel
theorem dX8_overAll_120 : decode cX8_overAll 120 = .ok (.getfield 7, 3) := by decide +kernel
theorem dX8_overAll_123 : decode cX8_overAll 123 = .ok (.bipush 8, 2) := by decide +kernel
theorem dX8_overAll_125 : decode cX8_overAll 125 = .ok (.iload_n 3, 1) := by decide +kernel
theorem dX8_overAll_126 : decode cX8_overAll 126 = .ok (.iadd, 1) := by decide +kernel
theorem dX8_overAll_127 : decode cX8_overAll 127 = .ok (.iaload, 1) := by decide +kernel
theorem dX8_overAll_128 : decode cX8_overAll 128 = .ok (.invokevirtual 184, 3) := by decide +kernel
theorem dX8_overAll_131 : decode cX8_overAll 131 = .ok (.ifCond .eq 7, 3) := by decide +kernel
theorem dX8_overAll_134 : decode cX8_overAll 134 = .ok (.iconst 0, 1) := by decide +kernel
theorem dX8_overAll_135 : decode cX8_overAll 135 = .ok (.goto 4, 3) := by decide +kernel
theorem dX8_overAll_138 : decode cX8_overAll 138 = .ok (.iconst 1, 1) := by decide +kernel
theorem dX8_overAll_139 : decode cX8_overAll 139 = .ok (.iadd, 1) := by decide +kernel
theorem dX8_overAll_140 : decode cX8_overAll 140 = .ok (.istore_n 2, 1) := by decide +kernel
theorem dX8_overAll_141 : decode cX8_overAll 141 = .ok (.iinc 3 1, 3) := by decide +kernel
theorem dX8_overAll_144 : decode cX8_overAll 144 = .ok (.goto (-140), 3) := by decide +kernel
theorem dX8_overAll_147 : decode cX8_overAll 147 = .ok (.iload_n 2, 1) := by decide +kernel
theorem dX8_overAll_148 : decode cX8_overAll 148 = .ok (.ireturn, 1) := by decide +kernel
theorem dX8_line_0 : decode cX8_line 0 = .ok (.iload_n 1, 1) := by decide +kernel
theorem dX8_line_1 : decode cX8_line 1 = .ok (.tableswitch 102 0 7 #[47, 47, 47, 57, 47, 66, 47, 75], 47) := by decide +kernel
theorem dX8_line_48 : decode cX8_line 48 = .ok (.aload_n 0, 1) := by decide +kernel
theorem dX8_line_49 : decode cX8_line 49 = .ok (.aload_n 0, 1) := by decide +kernel
theorem dX8_line_50 : decode cX8_line 50 = .ok (.iload_n 1, 1) := by decide +kernel
theorem dX8_line_51 : decode cX8_line 51 = .ok (.invokevirtual 202, 3) := by decide +kernel
theorem dX8_line_54 : decode cX8_line 54 = .ok (.invokevirtual 91, 3) := by decide +kernel
theorem dX8_line_57 : decode cX8_line 57 = .ok (.ireturn, 1) := by decide +kernel
theorem dX8_line_58 : decode cX8_line 58 = .ok (.aload_n 0, 1) := by decide +kernel
theorem dX8_line_59 : decode cX8_line 59 = .ok (.aload_n 0, 1) := by decide +kernel
theorem dX8_line_60 : decode cX8_line 60 = .ok (.invokevirtual 205, 3) := by decide +kernel
theorem dX8_line_63 : decode cX8_line 63 = .ok (.invokevirtual 91, 3) := by decide +kernel
theorem dX8_line_66 : decode cX8_line 66 = .ok (.ireturn, 1) := by decide +kernel
theorem dX8_line_67 : decode cX8_line 67 = .ok (.aload_n 0, 1) := by decide +kernel
theorem dX8_line_68 : decode cX8_line 68 = .ok (.aload_n 0, 1) := by decide +kernel
theorem dX8_line_69 : decode cX8_line 69 = .ok (.invokevirtual 208, 3) := by decide +kernel
theorem dX8_line_72 : decode cX8_line 72 = .ok (.invokevirtual 91, 3) := by decide +kernel
theorem dX8_line_75 : decode cX8_line 75 = .ok (.ireturn, 1) := by decide +kernel
theorem dX8_line_76 : decode cX8_line 76 = .ok (.aload_n 0, 1) := by decide +kernel
theorem dX8_line_77 : decode cX8_line 77 = .ok (.getfield 7, 3) := by decide +kernel
theorem dX8_line_80 : decode cX8_line 80 = .ok (.iconst 4, 1) := by decide +kernel
theorem dX8_line_81 : decode cX8_line 81 = .ok (.iaload, 1) := by decide +kernel
theorem dX8_line_82 : decode cX8_line 82 = .ok (.aload_n 0, 1) := by decide +kernel
theorem dX8_line_83 : decode cX8_line 83 = .ok (.invokevirtual 105, 3) := by decide +kernel
theorem dX8_line_86 : decode cX8_line 86 = .ok (.imul, 1) := by decide +kernel
theorem dX8_line_87 : decode cX8_line 87 = .ok (.istore_n 2, 1) := by decide +kernel
theorem dX8_line_88 : decode cX8_line 88 = .ok (.aload_n 0, 1) := by decide +kernel
theorem dX8_line_89 : decode cX8_line 89 = .ok (.aload_n 0, 1) := by decide +kernel
theorem dX8_line_90 : decode cX8_line 90 = .ok (.invokevirtual 211, 3) := by decide +kernel
theorem dX8_line_93 : decode cX8_line 93 = .ok (.iload_n 2, 1) := by decide +kernel
theorem dX8_line_94 : decode cX8_line 94 = .ok (.iadd, 1) := by decide +kernel
theorem dX8_line_95 : decode cX8_line 95 = .ok (.iconst 1, 1) := by decide +kernel
theorem dX8_line_96 : decode cX8_line 96 = .ok (.isub, 1) := by decide +kernel
theorem dX8_line_97 : decode cX8_line 97 = .ok (.iload_n 2, 1) := by decide +kernel
theorem dX8_line_98 : decode cX8_line 98 = .ok (.idiv, 1) := by decide +kernel
theorem dX8_line_99 : decode cX8_line 99 = .ok (.invokevirtual 91, 3) := by decide +kernel
theorem dX8_line_102 : decode cX8_line 102 = .ok (.ireturn, 1) := by decide +kernel
theorem dX8_line_103 : decode cX8_line 103 = .ok (.aload_n 0, 1) := by decide +kernel
theorem dX8_line_104 : decode cX8_line 104 = .ok (.iconst 1, 1) := by decide +kernel
theorem dX8_line_105 : decode cX8_line 105 = .ok (.invokevirtual 87, 3) := by decide +kernel
theorem dX8_line_108 : decode cX8_line 108 = .ok (.ireturn, 1) := by decide +kernel
theorem dX8_efficiency_0 : decode cX8_efficiency 0 = .ok (.aload_n 0, 1) := by decide +kernel
theorem dX8_efficiency_1 : decode cX8_efficiency 1 = .ok (.iconst 1, 1) := by decide +kernel
theorem dX8_efficiency_2 : decode cX8_efficiency 2 = .ok (.invokevirtual 202, 3) := by decide +kernel
theorem dX8_efficiency_5 : decode cX8_efficiency 5 = .ok (.istore_n 1, 1) := by decide +kernel
theorem dX8_efficiency_6 : decode cX8_efficiency 6 = .ok (.iload_n 1, 1) := by decide +kernel
theorem dX8_efficiency_7 : decode cX8_efficiency 7 = .ok (.ifCond .ne 10, 3) := by decide +kernel
theorem dX8_efficiency_10 : decode cX8_efficiency 10 = .ok (.aload_n 0, 1) := by decide +kernel
theorem dX8_efficiency_11 : decode cX8_efficiency 11 = .ok (.iconst 1, 1) := by decide +kernel
theorem dX8_efficiency_12 : decode cX8_efficiency 12 = .ok (.putfield 70, 3) := by decide +kernel
theorem dX8_efficiency_15 : decode cX8_efficiency 15 = .ok (.fconst 0, 1) := by decide +kernel
theorem dX8_efficiency_16 : decode cX8_efficiency 16 = .ok (.freturn, 1) := by decide +kernel
theorem dX8_efficiency_17 : decode cX8_efficiency 17 = .ok (.iconst 0, 1) := by decide +kernel
theorem dX8_efficiency_18 : decode cX8_efficiency 18 = .ok (.istore_n 2, 1) := by decide +kernel
theorem dX8_efficiency_19 : decode cX8_efficiency 19 = .ok (.iconst 0, 1) := by decide +kernel
theorem dX8_efficiency_20 : decode cX8_efficiency 20 = .ok (.istore_n 3, 1) := by decide +kernel
theorem dX8_efficiency_21 : decode cX8_efficiency 21 = .ok (.iload_n 3, 1) := by decide +kernel
theorem dX8_efficiency_22 : decode cX8_efficiency 22 = .ok (.aload_n 0, 1) := by decide +kernel
theorem dX8_efficiency_23 : decode cX8_efficiency 23 = .ok (.getfield 7, 3) := by decide +kernel
theorem dX8_efficiency_26 : decode cX8_efficiency 26 = .ok (.bipush 16, 2) := by decide +kernel
theorem dX8_efficiency_28 : decode cX8_efficiency 28 = .ok (.iaload, 1) := by decide +kernel
theorem dX8_efficiency_29 : decode cX8_efficiency 29 = .ok (.if_icmp .ge 30, 3) := by decide +kernel
theorem dX8_efficiency_32 : decode cX8_efficiency 32 = .ok (.iload_n 2, 1) := by decide +kernel
theorem dX8_efficiency_33 : decode cX8_efficiency 33 = .ok (.aload_n 0, 1) := by decide +kernel
theorem dX8_efficiency_34 : decode cX8_efficiency 34 = .ok (.iload_n 3, 1) := by decide +kernel
theorem dX8_efficiency_35 : decode cX8_efficiency 35 = .ok (.iconst 4, 1) := by decide +kernel
theorem dX8_efficiency_36 : decode cX8_efficiency 36 = .ok (.invokevirtual 124, 3) := by decide +kernel
theorem dX8_efficiency_39 : decode cX8_efficiency 39 = .ok (.ifCond .lt 11, 3) := by decide +kernel
theorem dX8_efficiency_42 : decode cX8_efficiency 42 = .ok (.aload_n 0, 1) := by decide +kernel
theorem dX8_efficiency_43 : decode cX8_efficiency 43 = .ok (.iload_n 3, 1) := by decide +kernel
theorem dX8_efficiency_44 : decode cX8_efficiency 44 = .ok (.invokevirtual 150, 3) := by decide +kernel
theorem dX8_efficiency_47 : decode cX8_efficiency 47 = .ok (.goto 4, 3) := by decide +kernel
theorem dX8_efficiency_50 : decode cX8_efficiency 50 = .ok (.iconst 0, 1) := by decide +kernel
theorem dX8_efficiency_51 : decode cX8_efficiency 51 = .ok (.iadd, 1) := by decide +kernel
theorem dX8_efficiency_52 : decode cX8_efficiency 52 = .ok (.istore_n 2, 1) := by decide +kernel
theorem dX8_efficiency_53 : decode cX8_efficiency 53 = .ok (.iinc 3 1, 3) := by decide +kernel
theorem dX8_efficiency_56 : decode cX8_efficiency 56 = .ok (.goto (-35), 3) := by decide +kernel
theorem dX8_efficiency_59 : decode cX8_efficiency 59 = .ok (.aload_n 0, 1) := by decide +kernel
theorem dX8_efficiency_60 : decode cX8_efficiency 60 = .ok (.iconst 0, 1) := by decide +kernel
theorem dX8_efficiency_61 : decode cX8_efficiency 61 = .ok (.putfield 70, 3) := by decide +kernel
theorem dX8_efficiency_64 : decode cX8_efficiency 64 = .ok (.iload_n 2, 1) := by decide +kernel
theorem dX8_efficiency_65 : decode cX8_efficiency 65 = .ok (.i2f, 1) := by decide +kernel
theorem dX8_efficiency_66 : decode cX8_efficiency 66 = .ok (.iload_n 1, 1) := by decide +kernel
theorem dX8_efficiency_67 : decode cX8_efficiency 67 = .ok (.aload_n 0, 1) := by decide +kernel
theorem dX8_efficiency_68 : decode cX8_efficiency 68 = .ok (.getfield 7, 3) := by decide +kernel
theorem dX8_efficiency_71 : decode cX8_efficiency 71 = .ok (.iconst 4, 1) := by decide +kernel
theorem dX8_efficiency_72 : decode cX8_efficiency 72 = .ok (.iaload, 1) := by decide +kernel
theorem dX8_efficiency_73 : decode cX8_efficiency 73 = .ok (.imul, 1) := by decide +kernel
theorem dX8_efficiency_74 : decode cX8_efficiency 74 = .ok (.aload_n 0, 1) := by decide +kernel
theorem dX8_efficiency_75 : decode cX8_efficiency 75 = .ok (.invokevirtual 105, 3) := by decide +kernel
theorem dX8_efficiency_78 : decode cX8_efficiency 78 = .ok (.imul, 1) := by decide +kernel
theorem dX8_efficiency_79 : decode cX8_efficiency 79 = .ok (.i2f, 1) := by decide +kernel
theorem dX8_efficiency_80 : decode cX8_efficiency 80 = .ok (.fdiv, 1) := by decide +kernel
theorem dX8_efficiency_81 : decode cX8_efficiency 81 = .ok (.freturn, 1) := by decide +kernel
theorem dX8_unevenness_0 : decode cX8_unevenness 0 = .ok (.lconst 0, 1) := by decide +kernel
theorem dX8_unevenness_1 : decode cX8_unevenness 1 = .ok (.lstore_n 1, 1) := by decide +kernel
theorem dX8_unevenness_2 : decode cX8_unevenness 2 = .ok (.iconst 0, 1) := by decide +kernel
theorem dX8_unevenness_3 : decode cX8_unevenness 3 = .ok (.istore_n 3, 1) := by decide +kernel
theorem dX8_unevenness_4 : decode cX8_unevenness 4 = .ok (.iload_n 3, 1) := by decide +kernel
theorem dX8_unevenness_5 : decode cX8_unevenness 5 = .ok (.bipush 8, 2) := by decide +kernel
theorem dX8_unevenness_7 : decode cX8_unevenness 7 = .ok (.if_icmp .ge 37, 3) := by decide +kernel
theorem dX8_unevenness_10 : decode cX8_unevenness 10 = .ok (.aload_n 0, 1) := by decide +kernel
theorem dX8_unevenness_11 : decode cX8_unevenness 11 = .ok (.iload_n 3, 1) := by decide +kernel
theorem dX8_unevenness_12 : decode cX8_unevenness 12 = .ok (.invokevirtual 178, 3) := by decide +kernel
theorem dX8_unevenness_15 : decode cX8_unevenness 15 = .ok (.ifCond .eq 12, 3) := by decide +kernel
theorem dX8_unevenness_18 : decode cX8_unevenness 18 = .ok (.aload_n 0, 1) := by decide +kernel
theorem dX8_unevenness_19 : decode cX8_unevenness 19 = .ok (.iload_n 3, 1) := by decide +kernel
theorem dX8_unevenness_20 : decode cX8_unevenness 20 = .ok (.invokevirtual 199, 3) := by decide +kernel
theorem dX8_unevenness_23 : decode cX8_unevenness 23 = .ok (.i2l, 1) := by decide +kernel
theorem dX8_unevenness_24 : decode cX8_unevenness 24 = .ok (.goto 4, 3) := by decide +kernel
theorem dX8_unevenness_27 : decode cX8_unevenness 27 = .ok (.lconst 0, 1) := by decide +kernel
theorem dX8_unevenness_28 : decode cX8_unevenness 28 = .ok (.lstore 4, 2) := by decide +kernel
theorem dX8_unevenness_30 : decode cX8_unevenness 30 = .ok (.lload_n 1, 1) := by decide +kernel
theorem dX8_unevenness_31 : decode cX8_unevenness 31 = .ok (.lload 4, 2) := by decide +kernel
theorem dX8_unevenness_33 : decode cX8_unevenness 33 = .ok (.lload 4, 2) := by decide +kernel
theorem dX8_unevenness_35 : decode cX8_unevenness 35 = .ok (.lmul, 1) := by decide +kernel
theorem dX8_unevenness_36 : decode cX8_unevenness 36 = .ok (.ladd, 1) := by decide +kernel
theorem dX8_unevenness_37 : decode cX8_unevenness 37 = .ok (.lstore_n 1, 1) := by decide +kernel
theorem dX8_unevenness_38 : decode cX8_unevenness 38 = .ok (.iinc 3 1, 3) := by decide +kernel
theorem dX8_unevenness_41 : decode cX8_unevenness 41 = .ok (.goto (-37), 3) := by decide +kernel
theorem dX8_unevenness_44 : decode cX8_unevenness 44 = .ok (.aload_n 0, 1) := by decide +kernel
theorem dX8_unevenness_45 : decode cX8_unevenness 45 = .ok (.iconst 0, 1) := by decide +kernel
theorem dX8_unevenness_46 : decode cX8_unevenness 46 = .ok (.putfield 70, 3) := by decide +kernel
theorem dX8_unevenness_49 : decode cX8_unevenness 49 = .ok (.lload_n 1, 1) := by decide +kernel
theorem dX8_unevenness_50 : decode cX8_unevenness 50 = .ok (.lreturn, 1) := by decide +kernel
theorem dX8_clearLine_0 : decode cX8_clearLine 0 = .ok (.aload_n 0, 1) := by decide +kernel
theorem dX8_clearLine_1 : decode cX8_clearLine 1 = .ok (.invokevirtual 84, 3) := by decide +kernel
theorem dX8_clearLine_4 : decode cX8_clearLine 4 = .ok (.aload_n 0, 1) := by decide +kernel
theorem dX8_clearLine_5 : decode cX8_clearLine 5 = .ok (.iconst 2, 1) := by decide +kernel
theorem dX8_clearLine_6 : decode cX8_clearLine 6 = .ok (.invokevirtual 202, 3) := by decide +kernel
theorem dX8_clearLine_9 : decode cX8_clearLine 9 = .ok (.istore_n 1, 1) := by decide +kernel
theorem dX8_clearLine_10 : decode cX8_clearLine 10 = .ok (.iconst 0, 1) := by decide +kernel
theorem dX8_clearLine_11 : decode cX8_clearLine 11 = .ok (.istore_n 2, 1) := by decide +kernel
theorem dX8_clearLine_12 : decode cX8_clearLine 12 = .ok (.iload_n 2, 1) := by decide +kernel
theorem dX8_clearLine_13 : decode cX8_clearLine 13 = .ok (.aload_n 0, 1) := by decide +kernel
theorem dX8_clearLine_14 : decode cX8_clearLine 14 = .ok (.getfield 7, 3) := by decide +kernel
theorem dX8_clearLine_17 : decode cX8_clearLine 17 = .ok (.bipush 16, 2) := by decide +kernel
theorem dX8_clearLine_19 : decode cX8_clearLine 19 = .ok (.iaload, 1) := by decide +kernel
theorem dX8_clearLine_20 : decode cX8_clearLine 20 = .ok (.if_icmp .ge 16, 3) := by decide +kernel
theorem dX8_clearLine_23 : decode cX8_clearLine 23 = .ok (.aload_n 0, 1) := by decide +kernel
theorem dX8_clearLine_24 : decode cX8_clearLine 24 = .ok (.iload_n 2, 1) := by decide +kernel
theorem dX8_clearLine_25 : decode cX8_clearLine 25 = .ok (.iconst 4, 1) := by decide +kernel
theorem dX8_clearLine_26 : decode cX8_clearLine 26 = .ok (.iconst (-1), 1) := by decide +kernel
theorem dX8_clearLine_27 : decode cX8_clearLine 27 = .ok (.invokevirtual 113, 3) := by decide +kernel
theorem dX8_clearLine_30 : decode cX8_clearLine 30 = .ok (.iinc 2 1, 3) := by decide +kernel
theorem dX8_clearLine_33 : decode cX8_clearLine 33 = .ok (.goto (-21), 3) := by decide +kernel
theorem dX8_clearLine_36 : decode cX8_clearLine 36 = .ok (.aload_n 0, 1) := by decide +kernel
theorem dX8_clearLine_37 : decode cX8_clearLine 37 = .ok (.aload_n 0, 1) := by decide +kernel
theorem dX8_clearLine_38 : decode cX8_clearLine 38 = .ok (.iload_n 1, 1) := by decide +kernel
theorem dX8_clearLine_39 : decode cX8_clearLine 39 = .ok (.invokevirtual 91, 3) := by decide +kernel
theorem dX8_clearLine_42 : decode cX8_clearLine 42 = .ok (.invokevirtual 94, 3) := by decide +kernel
theorem dX8_clearLine_45 : decode cX8_clearLine 45 = .ok (.ireturn, 1) := by decide +kernel
theorem dX8_nextTask_0 : decode cX8_nextTask 0 = .ok (.iconst 0, 1) := by decide +kernel
theorem dX8_nextTask_1 : decode cX8_nextTask 1 = .ok (.istore_n 2, 1) := by decide +kernel
theorem dX8_nextTask_2 : decode cX8_nextTask 2 = .ok (.iconst 0, 1) := by decide +kernel
theorem dX8_nextTask_3 : decode cX8_nextTask 3 = .ok (.istore_n 3, 1) := by decide +kernel
theorem dX8_nextTask_4 : decode cX8_nextTask 4 = .ok (.iload_n 3, 1) := by decide +kernel
theorem dX8_nextTask_5 : decode cX8_nextTask 5 = .ok (.aload_n 0, 1) := by decide +kernel
theorem dX8_nextTask_6 : decode cX8_nextTask 6 = .ok (.getfield 7, 3) := by decide +kernel
theorem dX8_nextTask_9 : decode cX8_nextTask 9 = .ok (.bipush 16, 2) := by decide +kernel
theorem dX8_nextTask_11 : decode cX8_nextTask 11 = .ok (.iaload, 1) := by decide +kernel
theorem dX8_nextTask_12 : decode cX8_nextTask 12 = .ok (.if_icmp .ge 29, 3) := by decide +kernel
theorem dX8_nextTask_15 : decode cX8_nextTask 15 = .ok (.iload_n 2, 1) := by decide +kernel
theorem dX8_nextTask_16 : decode cX8_nextTask 16 = .ok (.aload_n 0, 1) := by decide +kernel
theorem dX8_nextTask_17 : decode cX8_nextTask 17 = .ok (.iload_n 3, 1) := by decide +kernel
theorem dX8_nextTask_18 : decode cX8_nextTask 18 = .ok (.iconst 4, 1) := by decide +kernel
theorem dX8_nextTask_19 : decode cX8_nextTask 19 = .ok (.invokevirtual 124, 3) := by decide +kernel
theorem dX8_nextTask_22 : decode cX8_nextTask 22 = .ok (.iconst (-1), 1) := by decide +kernel
theorem dX8_nextTask_23 : decode cX8_nextTask 23 = .ok (.if_icmp .ne 9, 3) := by decide +kernel
theorem dX8_nextTask_26 : decode cX8_nextTask 26 = .ok (.iconst 1, 1) := by decide +kernel
theorem dX8_nextTask_27 : decode cX8_nextTask 27 = .ok (.iload_n 3, 1) := by decide +kernel
theorem dX8_nextTask_28 : decode cX8_nextTask 28 = .ok (.ishl, 1) := by decide +kernel
theorem dX8_nextTask_29 : decode cX8_nextTask 29 = .ok (.goto 4, 3) := by decide +kernel
theorem dX8_nextTask_32 : decode cX8_nextTask 32 = .ok (.iconst 0, 1) := by decide +kernel
theorem dX8_nextTask_33 : decode cX8_nextTask 33 = .ok (.ior, 1) := by decide +kernel
theorem dX8_nextTask_34 : decode cX8_nextTask 34 = .ok (.istore_n 2, 1) := by decide +kernel
theorem dX8_nextTask_35 : decode cX8_nextTask 35 = .ok (.iinc 3 1, 3) := by decide +kernel
theorem dX8_nextTask_38 : decode cX8_nextTask 38 = .ok (.goto (-34), 3) := by decide +kernel
theorem dX8_nextTask_41 : decode cX8_nextTask 41 = .ok (.iconst (-1), 1) := by decide +kernel
theorem dX8_nextTask_42 : decode cX8_nextTask 42 = .ok (.istore_n 3, 1) := by decide +kernel
theorem dX8_nextTask_43 : decode cX8_nextTask 43 = .ok (.iconst 0, 1) := by decide +kernel
theorem dX8_nextTask_44 : decode cX8_nextTask 44 = .ok (.istore 4, 2) := by decide +kernel
theorem dX8_nextTask_46 : decode cX8_nextTask 46 = .ok (.iload 4, 2) := by decide +kernel
theorem dX8_nextTask_48 : decode cX8_nextTask 48 = .ok (.aload_n 0, 1) := by decide +kernel
theorem dX8_nextTask_49 : decode cX8_nextTask 49 = .ok (.getfield 7, 3) := by decide +kernel
theorem dX8_nextTask_52 : decode cX8_nextTask 52 = .ok (.bipush 16, 2) := by decide +kernel
theorem dX8_nextTask_54 : decode cX8_nextTask 54 = .ok (.iaload, 1) := by decide +kernel
theorem dX8_nextTask_55 : decode cX8_nextTask 55 = .ok (.if_icmp .ge 69, 3) := by decide +kernel
theorem dX8_nextTask_58 : decode cX8_nextTask 58 = .ok (.iload_n 2, 1) := by decide +kernel
theorem dX8_nextTask_59 : decode cX8_nextTask 59 = .ok (.iload 4, 2) := by decide +kernel
theorem dX8_nextTask_61 : decode cX8_nextTask 61 = .ok (.invokestatic 127, 3) := by decide +kernel
theorem dX8_nextTask_64 : decode cX8_nextTask 64 = .ok (.ifCond .eq 18, 3) := by decide +kernel
theorem dX8_nextTask_67 : decode cX8_nextTask 67 = .ok (.aload_n 0, 1) := by decide +kernel
theorem dX8_nextTask_68 : decode cX8_nextTask 68 = .ok (.iload 4, 2) := by decide +kernel
theorem dX8_nextTask_70 : decode cX8_nextTask 70 = .ok (.invokevirtual 130, 3) := by decide +kernel
theorem dX8_nextTask_73 : decode cX8_nextTask 73 = .ok (.iload_n 2, 1) := by decide +kernel
theorem dX8_nextTask_74 : decode cX8_nextTask 74 = .ok (.iand, 1) := by decide +kernel
theorem dX8_nextTask_75 : decode cX8_nextTask 75 = .ok (.ifCond .ne 7, 3) := by decide +kernel
theorem dX8_nextTask_78 : decode cX8_nextTask 78 = .ok (.iconst 1, 1) := by decide +kernel
theorem dX8_nextTask_79 : decode cX8_nextTask 79 = .ok (.goto 4, 3) := by decide +kernel
theorem dX8_nextTask_82 : decode cX8_nextTask 82 = .ok (.iconst 0, 1) := by decide +kernel
theorem dX8_nextTask_83 : decode cX8_nextTask 83 = .ok (.istore 5, 2) := by decide +kernel
theorem dX8_nextTask_85 : decode cX8_nextTask 85 = .ok (.iload 5, 2) := by decide +kernel
theorem dX8_nextTask_87 : decode cX8_nextTask 87 = .ok (.ifCond .eq 29, 3) := by decide +kernel
theorem dX8_nextTask_90 : decode cX8_nextTask 90 = .ok (.iload_n 3, 1) := by decide +kernel
theorem dX8_nextTask_91 : decode cX8_nextTask 91 = .ok (.iconst (-1), 1) := by decide +kernel
theorem dX8_nextTask_92 : decode cX8_nextTask 92 = .ok (.if_icmp .eq 19, 3) := by decide +kernel
theorem dX8_nextTask_95 : decode cX8_nextTask 95 = .ok (.aload_n 0, 1) := by decide +kernel
theorem dX8_nextTask_96 : decode cX8_nextTask 96 = .ok (.iload 4, 2) := by decide +kernel
theorem dX8_nextTask_98 : decode cX8_nextTask 98 = .ok (.iload_n 1, 1) := by decide +kernel
theorem dX8_nextTask_99 : decode cX8_nextTask 99 = .ok (.invokevirtual 159, 3) := by decide +kernel
theorem dX8_nextTask_102 : decode cX8_nextTask 102 = .ok (.aload_n 0, 1) := by decide +kernel
theorem dX8_nextTask_103 : decode cX8_nextTask 103 = .ok (.iload_n 3, 1) := by decide +kernel
theorem dX8_nextTask_104 : decode cX8_nextTask 104 = .ok (.iload_n 1, 1) := by decide +kernel
theorem dX8_nextTask_105 : decode cX8_nextTask 105 = .ok (.invokevirtual 159, 3) := by decide +kernel
theorem dX8_nextTask_108 : decode cX8_nextTask 108 = .ok (.if_icmp .le 8, 3) := by decide +kernel
theorem dX8_nextTask_111 : decode cX8_nextTask 111 = .ok (.iload 4, 2) := by decide +kernel
theorem dX8_nextTask_113 : decode cX8_nextTask 113 = .ok (.goto 4, 3) := by decide +kernel
theorem dX8_nextTask_116 : decode cX8_nextTask 116 = .ok (.iload_n 3, 1) := by decide +kernel
theorem dX8_nextTask_117 : decode cX8_nextTask 117 = .ok (.istore_n 3, 1) := by decide +kernel
theorem dX8_nextTask_118 : decode cX8_nextTask 118 = .ok (.iinc 4 1, 3) := by decide +kernel
theorem dX8_nextTask_121 : decode cX8_nextTask 121 = .ok (.goto (-75), 3) := by decide +kernel
theorem dX8_nextTask_124 : decode cX8_nextTask 124 = .ok (.iload_n 3, 1) := by decide +kernel
theorem dX8_nextTask_125 : decode cX8_nextTask 125 = .ok (.ireturn, 1) := by decide +kernel
theorem dX8_fill_0 : decode cX8_fill 0 = .ok (.iload_n 1, 1) := by decide +kernel
theorem dX8_fill_1 : decode cX8_fill 1 = .ok (.iconst 0, 1) := by decide +kernel
theorem dX8_fill_2 : decode cX8_fill 2 = .ok (.iconst 3, 1) := by decide +kernel
theorem dX8_fill_3 : decode cX8_fill 3 = .ok (.invokestatic 74, 3) := by decide +kernel
theorem dX8_fill_6 : decode cX8_fill 6 = .ok (.ifCond .ne 9, 3) := by decide +kernel
theorem dX8_fill_9 : decode cX8_fill 9 = .ok (.aload_n 0, 1) := by decide +kernel
theorem dX8_fill_10 : decode cX8_fill 10 = .ok (.iconst 1, 1) := by decide +kernel
theorem dX8_fill_11 : decode cX8_fill 11 = .ok (.invokevirtual 87, 3) := by decide +kernel
theorem dX8_fill_14 : decode cX8_fill 14 = .ok (.ireturn, 1) := by decide +kernel
theorem dX8_fill_15 : decode cX8_fill 15 = .ok (.aload_n 0, 1) := by decide +kernel
theorem dX8_fill_16 : decode cX8_fill 16 = .ok (.invokevirtual 84, 3) := by decide +kernel
theorem dX8_fill_19 : decode cX8_fill 19 = .ok (.iconst 0, 1) := by decide +kernel
theorem dX8_fill_20 : decode cX8_fill 20 = .ok (.istore_n 2, 1) := by decide +kernel
theorem dX8_fill_21 : decode cX8_fill 21 = .ok (.iload_n 2, 1) := by decide +kernel
theorem dX8_fill_22 : decode cX8_fill 22 = .ok (.aload_n 0, 1) := by decide +kernel
theorem dX8_fill_23 : decode cX8_fill 23 = .ok (.getfield 7, 3) := by decide +kernel
theorem dX8_fill_26 : decode cX8_fill 26 = .ok (.bipush 16, 2) := by decide +kernel
theorem dX8_fill_28 : decode cX8_fill 28 = .ok (.iaload, 1) := by decide +kernel
theorem dX8_fill_29 : decode cX8_fill 29 = .ok (.if_icmp .ge 16, 3) := by decide +kernel
theorem dX8_fill_32 : decode cX8_fill 32 = .ok (.aload_n 0, 1) := by decide +kernel
theorem dX8_fill_33 : decode cX8_fill 33 = .ok (.iload_n 2, 1) := by decide +kernel
theorem dX8_fill_34 : decode cX8_fill 34 = .ok (.iconst 4, 1) := by decide +kernel
theorem dX8_fill_35 : decode cX8_fill 35 = .ok (.iconst (-1), 1) := by decide +kernel
theorem dX8_fill_36 : decode cX8_fill 36 = .ok (.invokevirtual 113, 3) := by decide +kernel
theorem dX8_fill_39 : decode cX8_fill 39 = .ok (.iinc 2 1, 3) := by decide +kernel
theorem dX8_fill_42 : decode cX8_fill 42 = .ok (.goto (-21), 3) := by decide +kernel
theorem dX8_fill_45 : decode cX8_fill 45 = .ok (.aload_n 0, 1) := by decide +kernel
theorem dX8_fill_46 : decode cX8_fill 46 = .ok (.iload_n 1, 1) := by decide +kernel
theorem dX8_fill_47 : decode cX8_fill 47 = .ok (.invokevirtual 214, 3) := by decide +kernel
theorem dX8_fill_50 : decode cX8_fill 50 = .ok (.istore_n 2, 1) := by decide +kernel
theorem dX8_fill_51 : decode cX8_fill 51 = .ok (.iload_n 2, 1) := by decide +kernel
theorem dX8_fill_52 : decode cX8_fill 52 = .ok (.ifCond .lt 51, 3) := by decide +kernel
theorem dX8_fill_55 : decode cX8_fill 55 = .ok (.aload_n 0, 1) := by decide +kernel
theorem dX8_fill_56 : decode cX8_fill 56 = .ok (.iload_n 2, 1) := by decide +kernel
theorem dX8_fill_57 : decode cX8_fill 57 = .ok (.invokevirtual 156, 3) := by decide +kernel
theorem dX8_fill_60 : decode cX8_fill 60 = .ok (.istore_n 3, 1) := by decide +kernel
theorem dX8_fill_61 : decode cX8_fill 61 = .ok (.iload_n 3, 1) := by decide +kernel
theorem dX8_fill_62 : decode cX8_fill 62 = .ok (.iconst (-1), 1) := by decide +kernel
theorem dX8_fill_63 : decode cX8_fill 63 = .ok (.if_icmp .ne 24, 3) := by decide +kernel
theorem dX8_fill_66 : decode cX8_fill 66 = .ok (.aload_n 0, 1) := by decide +kernel
theorem dX8_fill_67 : decode cX8_fill 67 = .ok (.aload_n 0, 1) := by decide +kernel
theorem dX8_fill_68 : decode cX8_fill 68 = .ok (.iload_n 2, 1) := by decide +kernel
theorem dX8_fill_69 : decode cX8_fill 69 = .ok (.bipush 7, 2) := by decide +kernel
theorem dX8_fill_71 : decode cX8_fill 71 = .ok (.invokevirtual 187, 3) := by decide +kernel
theorem dX8_fill_74 : decode cX8_fill 74 = .ok (.putfield 190, 3) := by decide +kernel
theorem dX8_fill_77 : decode cX8_fill 77 = .ok (.aload_n 0, 1) := by decide +kernel
theorem dX8_fill_78 : decode cX8_fill 78 = .ok (.invokevirtual 217, 3) := by decide +kernel
theorem dX8_fill_81 : decode cX8_fill 81 = .ok (.aload_n 0, 1) := by decide +kernel
theorem dX8_fill_82 : decode cX8_fill 82 = .ok (.iconst 2, 1) := by decide +kernel
theorem dX8_fill_83 : decode cX8_fill 83 = .ok (.invokevirtual 87, 3) := by decide +kernel
theorem dX8_fill_86 : decode cX8_fill 86 = .ok (.ireturn, 1) := by decide +kernel
theorem dX8_fill_87 : decode cX8_fill 87 = .ok (.aload_n 0, 1) := by decide +kernel
theorem dX8_fill_88 : decode cX8_fill 88 = .ok (.iload_n 2, 1) := by decide +kernel
theorem dX8_fill_89 : decode cX8_fill 89 = .ok (.iconst 4, 1) := by decide +kernel
theorem dX8_fill_90 : decode cX8_fill 90 = .ok (.iload_n 3, 1) := by decide +kernel
theorem dX8_fill_91 : decode cX8_fill 91 = .ok (.invokevirtual 113, 3) := by decide +kernel
theorem dX8_fill_94 : decode cX8_fill 94 = .ok (.aload_n 0, 1) := by decide +kernel
theorem dX8_fill_95 : decode cX8_fill 95 = .ok (.iload_n 1, 1) := by decide +kernel
theorem dX8_fill_96 : decode cX8_fill 96 = .ok (.invokevirtual 214, 3) := by decide +kernel
theorem dX8_fill_99 : decode cX8_fill 99 = .ok (.istore_n 2, 1) := by decide +kernel
theorem dX8_fill_100 : decode cX8_fill 100 = .ok (.goto (-49), 3) := by decide +kernel
theorem dX8_fill_103 : decode cX8_fill 103 = .ok (.aload_n 0, 1) := by decide +kernel
theorem dX8_fill_104 : decode cX8_fill 104 = .ok (.aload_n 0, 1) := by decide +kernel
theorem dX8_fill_105 : decode cX8_fill 105 = .ok (.aload_n 0, 1) := by decide +kernel
theorem dX8_fill_106 : decode cX8_fill 106 = .ok (.iconst 0, 1) := by decide +kernel
theorem dX8_fill_107 : decode cX8_fill 107 = .ok (.invokevirtual 202, 3) := by decide +kernel
theorem dX8_fill_110 : decode cX8_fill 110 = .ok (.invokevirtual 91, 3) := by decide +kernel
theorem dX8_fill_113 : decode cX8_fill 113 = .ok (.invokevirtual 94, 3) := by decide +kernel
theorem dX8_fill_116 : decode cX8_fill 116 = .ok (.ireturn, 1) := by decide +kernel
theorem dX8_isSet_0 : decode cX8_isSet 0 = .ok (.aload_n 0, 1) := by decide +kernel
theorem dX8_isSet_1 : decode cX8_isSet 1 = .ok (.iload_n 1, 1) := by decide +kernel
theorem dX8_isSet_2 : decode cX8_isSet 2 = .ok (.invokevirtual 181, 3) := by decide +kernel
theorem dX8_isSet_5 : decode cX8_isSet 5 = .ok (.invokestatic 133, 3) := by decide +kernel
theorem dX8_isSet_8 : decode cX8_isSet 8 = .ok (.aload_n 0, 1) := by decide +kernel
theorem dX8_isSet_9 : decode cX8_isSet 9 = .ok (.getfield 7, 3) := by decide +kernel
theorem dX8_isSet_12 : decode cX8_isSet 12 = .ok (.bipush 6, 2) := by decide +kernel
theorem dX8_isSet_14 : decode cX8_isSet 14 = .ok (.iaload, 1) := by decide +kernel
theorem dX8_isSet_15 : decode cX8_isSet 15 = .ok (.if_icmp .gt 7, 3) := by decide +kernel
theorem dX8_isSet_18 : decode cX8_isSet 18 = .ok (.iconst 1, 1) := by decide +kernel
theorem dX8_isSet_19 : decode cX8_isSet 19 = .ok (.goto 4, 3) := by decide +kernel
theorem dX8_isSet_22 : decode cX8_isSet 22 = .ok (.iconst 0, 1) := by decide +kernel
theorem dX8_isSet_23 : decode cX8_isSet 23 = .ok (.istore_n 2, 1) := by decide +kernel
theorem dX8_isSet_24 : decode cX8_isSet 24 = .ok (.iconst 0, 1) := by decide +kernel
theorem dX8_isSet_25 : decode cX8_isSet 25 = .ok (.istore_n 3, 1) := by decide +kernel
theorem dX8_isSet_26 : decode cX8_isSet 26 = .ok (.iload_n 3, 1) := by decide +kernel
theorem dX8_isSet_27 : decode cX8_isSet 27 = .ok (.aload_n 0, 1) := by decide +kernel
theorem dX8_isSet_28 : decode cX8_isSet 28 = .ok (.getfield 7, 3) := by decide +kernel
theorem dX8_isSet_31 : decode cX8_isSet 31 = .ok (.bipush 16, 2) := by decide +kernel
theorem dX8_isSet_33 : decode cX8_isSet 33 = .ok (.iaload, 1) := by decide +kernel
theorem dX8_isSet_34 : decode cX8_isSet 34 = .ok (.if_icmp .ge 57, 3) := by decide +kernel
theorem dX8_isSet_37 : decode cX8_isSet 37 = .ok (.iload_n 2, 1) := by decide +kernel
theorem dX8_isSet_38 : decode cX8_isSet 38 = .ok (.ifCond .eq 45, 3) := by decide +kernel
theorem dX8_isSet_41 : decode cX8_isSet 41 = .ok (.iload_n 1, 1) := by decide +kernel
theorem dX8_isSet_42 : decode cX8_isSet 42 = .ok (.iload_n 3, 1) := by decide +kernel
theorem dX8_isSet_43 : decode cX8_isSet 43 = .ok (.invokestatic 127, 3) := by decide +kernel
theorem dX8_isSet_46 : decode cX8_isSet 46 = .ok (.ifCond .eq 33, 3) := by decide +kernel
theorem dX8_isSet_49 : decode cX8_isSet 49 = .ok (.aload_n 0, 1) := by decide +kernel
theorem dX8_isSet_50 : decode cX8_isSet 50 = .ok (.getfield 7, 3) := by decide +kernel
theorem dX8_isSet_53 : decode cX8_isSet 53 = .ok (.bipush 89, 2) := by decide +kernel
theorem dX8_isSet_55 : decode cX8_isSet 55 = .ok (.iload_n 3, 1) := by decide +kernel
theorem dX8_isSet_56 : decode cX8_isSet 56 = .ok (.iadd, 1) := by decide +kernel
theorem dX8_isSet_57 : decode cX8_isSet 57 = .ok (.iaload, 1) := by decide +kernel
theorem dX8_isSet_58 : decode cX8_isSet 58 = .ok (.iload_n 1, 1) := by decide +kernel
theorem dX8_isSet_59 : decode cX8_isSet 59 = .ok (.iand, 1) := by decide +kernel
theorem dX8_isSet_60 : decode cX8_isSet 60 = .ok (.ifCond .ne 23, 3) := by decide +kernel
theorem dX8_isSet_63 : decode cX8_isSet 63 = .ok (.aload_n 0, 1) := by decide +kernel
theorem dX8_isSet_64 : decode cX8_isSet 64 = .ok (.getfield 7, 3) := by decide +kernel
theorem dX8_isSet_67 : decode cX8_isSet 67 = .ok (.bipush 101, 2) := by decide +kernel
theorem dX8_isSet_69 : decode cX8_isSet 69 = .ok (.iload_n 3, 1) := by decide +kernel
theorem dX8_isSet_70 : decode cX8_isSet 70 = .ok (.iadd, 1) := by decide +kernel
theorem dX8_isSet_71 : decode cX8_isSet 71 = .ok (.iaload, 1) := by decide +kernel
theorem dX8_isSet_72 : decode cX8_isSet 72 = .ok (.iload_n 1, 1) := by decide +kernel
theorem dX8_isSet_73 : decode cX8_isSet 73 = .ok (.iconst (-1), 1) := by decide +kernel
theorem dX8_isSet_74 : decode cX8_isSet 74 = .ok (.ixor, 1) := by decide +kernel
theorem dX8_isSet_75 : decode cX8_isSet 75 = .ok (.iand, 1) := by decide +kernel
theorem dX8_isSet_76 : decode cX8_isSet 76 = .ok (.ifCond .ne 7, 3) := by decide +kernel
theorem dX8_isSet_79 : decode cX8_isSet 79 = .ok (.iconst 1, 1) := by decide +kernel
theorem dX8_isSet_80 : decode cX8_isSet 80 = .ok (.goto 4, 3) := by decide +kernel
theorem dX8_isSet_83 : decode cX8_isSet 83 = .ok (.iconst 0, 1) := by decide +kernel
theorem dX8_isSet_84 : decode cX8_isSet 84 = .ok (.istore_n 2, 1) := by decide +kernel
theorem dX8_isSet_85 : decode cX8_isSet 85 = .ok (.iinc 3 1, 3) := by decide +kernel
theorem dX8_isSet_88 : decode cX8_isSet 88 = .ok (.goto (-62), 3) := by decide +kernel
theorem dX8_isSet_91 : decode cX8_isSet 91 = .ok (.iload_n 2, 1) := by decide +kernel
theorem dX8_isSet_92 : decode cX8_isSet 92 = .ok (.ireturn, 1) := by decide +kernel
theorem dX8_tellSets_0 : decode cX8_tellSets 0 = .ok (.iconst 0, 1) := by decide +kernel
theorem dX8_tellSets_1 : decode cX8_tellSets 1 = .ok (.istore_n 1, 1) := by decide +kernel
theorem dX8_tellSets_2 : decode cX8_tellSets 2 = .ok (.iload_n 1, 1) := by decide +kernel
theorem dX8_tellSets_3 : decode cX8_tellSets 3 = .ok (.iconst 1, 1) := by decide +kernel
theorem dX8_tellSets_4 : decode cX8_tellSets 4 = .ok (.aload_n 0, 1) := by decide +kernel
theorem dX8_tellSets_5 : decode cX8_tellSets 5 = .ok (.getfield 7, 3) := by decide +kernel
theorem dX8_tellSets_8 : decode cX8_tellSets 8 = .ok (.bipush 16, 2) := by decide +kernel
theorem dX8_tellSets_10 : decode cX8_tellSets 10 = .ok (.iaload, 1) := by decide +kernel
theorem dX8_tellSets_11 : decode cX8_tellSets 11 = .ok (.ishl, 1) := by decide +kernel
theorem dX8_tellSets_12 : decode cX8_tellSets 12 = .ok (.if_icmp .ge 118, 3) := by decide +kernel
theorem dX8_tellSets_15 : decode cX8_tellSets 15 = .ok (.iconst 1, 1) := by decide +kernel
theorem dX8_tellSets_16 : decode cX8_tellSets 16 = .ok (.istore_n 2, 1) := by decide +kernel
theorem dX8_tellSets_17 : decode cX8_tellSets 17 = .ok (.iconst 0, 1) := by decide +kernel
theorem dX8_tellSets_18 : decode cX8_tellSets 18 = .ok (.istore_n 3, 1) := by decide +kernel
theorem dX8_tellSets_19 : decode cX8_tellSets 19 = .ok (.iload_n 3, 1) := by decide +kernel
theorem dX8_tellSets_20 : decode cX8_tellSets 20 = .ok (.aload_n 0, 1) := by decide +kernel
theorem dX8_tellSets_21 : decode cX8_tellSets 21 = .ok (.getfield 7, 3) := by decide +kernel
theorem dX8_tellSets_24 : decode cX8_tellSets 24 = .ok (.bipush 16, 2) := by decide +kernel
theorem dX8_tellSets_26 : decode cX8_tellSets 26 = .ok (.iaload, 1) := by decide +kernel
theorem dX8_tellSets_27 : decode cX8_tellSets 27 = .ok (.if_icmp .ge 39, 3) := by decide +kernel
theorem dX8_tellSets_30 : decode cX8_tellSets 30 = .ok (.iload_n 2, 1) := by decide +kernel
theorem dX8_tellSets_31 : decode cX8_tellSets 31 = .ok (.ifCond .eq 27, 3) := by decide +kernel
theorem dX8_tellSets_34 : decode cX8_tellSets 34 = .ok (.iload_n 1, 1) := by decide +kernel
theorem dX8_tellSets_35 : decode cX8_tellSets 35 = .ok (.iload_n 3, 1) := by decide +kernel
theorem dX8_tellSets_36 : decode cX8_tellSets 36 = .ok (.invokestatic 127, 3) := by decide +kernel
theorem dX8_tellSets_39 : decode cX8_tellSets 39 = .ok (.ifCond .eq 15, 3) := by decide +kernel
theorem dX8_tellSets_42 : decode cX8_tellSets 42 = .ok (.aload_n 0, 1) := by decide +kernel
theorem dX8_tellSets_43 : decode cX8_tellSets 43 = .ok (.iload_n 3, 1) := by decide +kernel
theorem dX8_tellSets_44 : decode cX8_tellSets 44 = .ok (.invokevirtual 130, 3) := by decide +kernel
theorem dX8_tellSets_47 : decode cX8_tellSets 47 = .ok (.iload_n 1, 1) := by decide +kernel
theorem dX8_tellSets_48 : decode cX8_tellSets 48 = .ok (.iconst (-1), 1) := by decide +kernel
theorem dX8_tellSets_49 : decode cX8_tellSets 49 = .ok (.ixor, 1) := by decide +kernel
theorem dX8_tellSets_50 : decode cX8_tellSets 50 = .ok (.iand, 1) := by decide +kernel
theorem dX8_tellSets_51 : decode cX8_tellSets 51 = .ok (.ifCond .ne 7, 3) := by decide +kernel
theorem dX8_tellSets_54 : decode cX8_tellSets 54 = .ok (.iconst 1, 1) := by decide +kernel
theorem dX8_tellSets_55 : decode cX8_tellSets 55 = .ok (.goto 4, 3) := by decide +kernel
theorem dX8_tellSets_58 : decode cX8_tellSets 58 = .ok (.iconst 0, 1) := by decide +kernel
theorem dX8_tellSets_59 : decode cX8_tellSets 59 = .ok (.istore_n 2, 1) := by decide +kernel
theorem dX8_tellSets_60 : decode cX8_tellSets 60 = .ok (.iinc 3 1, 3) := by decide +kernel
theorem dX8_tellSets_63 : decode cX8_tellSets 63 = .ok (.goto (-44), 3) := by decide +kernel
theorem dX8_tellSets_66 : decode cX8_tellSets 66 = .ok (.aload_n 0, 1) := by decide +kernel
theorem dX8_tellSets_67 : decode cX8_tellSets 67 = .ok (.getfield 28, 3) := by decide +kernel
theorem dX8_tellSets_70 : decode cX8_tellSets 70 = .ok (.iload_n 1, 1) := by decide +kernel
theorem dX8_tellSets_71 : decode cX8_tellSets 71 = .ok (.iload_n 2, 1) := by decide +kernel
theorem dX8_tellSets_72 : decode cX8_tellSets 72 = .ok (.bastore, 1) := by decide +kernel
theorem dX8_tellSets_73 : decode cX8_tellSets 73 = .ok (.aload_n 0, 1) := by decide +kernel
theorem dX8_tellSets_74 : decode cX8_tellSets 74 = .ok (.iload_n 1, 1) := by decide +kernel
theorem dX8_tellSets_75 : decode cX8_tellSets 75 = .ok (.invokevirtual 220, 3) := by decide +kernel
theorem dX8_tellSets_78 : decode cX8_tellSets 78 = .ok (.istore_n 3, 1) := by decide +kernel
theorem dX8_tellSets_79 : decode cX8_tellSets 79 = .ok (.iconst 1, 1) := by decide +kernel
theorem dX8_tellSets_80 : decode cX8_tellSets 80 = .ok (.istore 4, 2) := by decide +kernel
theorem dX8_tellSets_82 : decode cX8_tellSets 82 = .ok (.iload 4, 2) := by decide +kernel
theorem dX8_tellSets_84 : decode cX8_tellSets 84 = .ok (.iconst 3, 1) := by decide +kernel
theorem dX8_tellSets_85 : decode cX8_tellSets 85 = .ok (.if_icmp .gt 39, 3) := by decide +kernel
theorem dX8_tellSets_88 : decode cX8_tellSets 88 = .ok (.aload_n 0, 1) := by decide +kernel
theorem dX8_tellSets_89 : decode cX8_tellSets 89 = .ok (.getfield 32, 3) := by decide +kernel
theorem dX8_tellSets_92 : decode cX8_tellSets 92 = .ok (.iconst 4, 1) := by decide +kernel
theorem dX8_tellSets_93 : decode cX8_tellSets 93 = .ok (.iload_n 1, 1) := by decide +kernel
theorem dX8_tellSets_94 : decode cX8_tellSets 94 = .ok (.imul, 1) := by decide +kernel
theorem dX8_tellSets_95 : decode cX8_tellSets 95 = .ok (.iload 4, 2) := by decide +kernel
theorem dX8_tellSets_97 : decode cX8_tellSets 97 = .ok (.iadd, 1) := by decide +kernel
theorem dX8_tellSets_98 : decode cX8_tellSets 98 = .ok (.iload_n 3, 1) := by decide +kernel
theorem dX8_tellSets_99 : decode cX8_tellSets 99 = .ok (.ifCond .eq 17, 3) := by decide +kernel
theorem dX8_tellSets_102 : decode cX8_tellSets 102 = .ok (.aload_n 0, 1) := by decide +kernel
theorem dX8_tellSets_103 : decode cX8_tellSets 103 = .ok (.iload_n 1, 1) := by decide +kernel
theorem dX8_tellSets_104 : decode cX8_tellSets 104 = .ok (.iload 4, 2) := by decide +kernel
theorem dX8_tellSets_106 : decode cX8_tellSets 106 = .ok (.invokevirtual 184, 3) := by decide +kernel
theorem dX8_tellSets_109 : decode cX8_tellSets 109 = .ok (.ifCond .eq 7, 3) := by decide +kernel
theorem dX8_tellSets_112 : decode cX8_tellSets 112 = .ok (.iconst 1, 1) := by decide +kernel
theorem dX8_tellSets_113 : decode cX8_tellSets 113 = .ok (.goto 4, 3) := by decide +kernel
theorem dX8_tellSets_116 : decode cX8_tellSets 116 = .ok (.iconst 0, 1) := by decide +kernel
theorem dX8_tellSets_117 : decode cX8_tellSets 117 = .ok (.bastore, 1) := by decide +kernel
theorem dX8_tellSets_118 : decode cX8_tellSets 118 = .ok (.iinc 4 1, 3) := by decide +kernel
theorem dX8_tellSets_121 : decode cX8_tellSets 121 = .ok (.goto (-39), 3) := by decide +kernel
theorem dX8_tellSets_124 : decode cX8_tellSets 124 = .ok (.iinc 1 1, 3) := by decide +kernel
theorem dX8_tellSets_127 : decode cX8_tellSets 127 = .ok (.goto (-125), 3) := by decide +kernel
theorem dX8_tellSets_130 : decode cX8_tellSets 130 = .ok (.return_, 1) := by decide +kernel
theorem dX8_isTold_0 : decode cX8_isTold 0 = .ok (.iconst 1, 1) := by decide +kernel
theorem dX8_isTold_1 : decode cX8_isTold 1 = .ok (.istore_n 3, 1) := by decide +kernel
theorem dX8_isTold_2 : decode cX8_isTold 2 = .ok (.iconst 0, 1) := by decide +kernel
theorem dX8_isTold_3 : decode cX8_isTold 3 = .ok (.istore 4, 2) := by decide +kernel
theorem dX8_isTold_5 : decode cX8_isTold 5 = .ok (.iload 4, 2) := by decide +kernel
theorem dX8_isTold_7 : decode cX8_isTold 7 = .ok (.aload_n 0, 1) := by decide +kernel
theorem dX8_isTold_8 : decode cX8_isTold 8 = .ok (.getfield 7, 3) := by decide +kernel
theorem dX8_isTold_11 : decode cX8_isTold 11 = .ok (.bipush 16, 2) := by decide +kernel
theorem dX8_isTold_13 : decode cX8_isTold 13 = .ok (.iaload, 1) := by decide +kernel
theorem dX8_isTold_14 : decode cX8_isTold 14 = .ok (.if_icmp .ge 55, 3) := by decide +kernel
theorem dX8_isTold_17 : decode cX8_isTold 17 = .ok (.iload_n 3, 1) := by decide +kernel
theorem dX8_isTold_18 : decode cX8_isTold 18 = .ok (.ifCond .eq 43, 3) := by decide +kernel
theorem dX8_isTold_21 : decode cX8_isTold 21 = .ok (.aload_n 0, 1) := by decide +kernel
theorem dX8_isTold_22 : decode cX8_isTold 22 = .ok (.getfield 42, 3) := by decide +kernel
theorem dX8_isTold_25 : decode cX8_isTold 25 = .ok (.iload 4, 2) := by decide +kernel
theorem dX8_isTold_27 : decode cX8_isTold 27 = .ok (.iaload, 1) := by decide +kernel
theorem dX8_isTold_28 : decode cX8_isTold 28 = .ok (.iconst (-1), 1) := by decide +kernel
theorem dX8_isTold_29 : decode cX8_isTold 29 = .ok (.if_icmp .eq 28, 3) := by decide +kernel
theorem dX8_isTold_32 : decode cX8_isTold 32 = .ok (.aload_n 0, 1) := by decide +kernel
theorem dX8_isTold_33 : decode cX8_isTold 33 = .ok (.getfield 42, 3) := by decide +kernel
theorem dX8_isTold_36 : decode cX8_isTold 36 = .ok (.iload 4, 2) := by decide +kernel
theorem dX8_isTold_38 : decode cX8_isTold 38 = .ok (.iaload, 1) := by decide +kernel
theorem dX8_isTold_39 : decode cX8_isTold 39 = .ok (.iload_n 2, 1) := by decide +kernel
theorem dX8_isTold_40 : decode cX8_isTold 40 = .ok (.if_icmp .ne 7, 3) := by decide +kernel
theorem dX8_isTold_43 : decode cX8_isTold 43 = .ok (.iconst 1, 1) := by decide +kernel
theorem dX8_isTold_44 : decode cX8_isTold 44 = .ok (.goto 4, 3) := by decide +kernel
theorem dX8_isTold_47 : decode cX8_isTold 47 = .ok (.iconst 0, 1) := by decide +kernel
theorem dX8_isTold_48 : decode cX8_isTold 48 = .ok (.iload_n 1, 1) := by decide +kernel
theorem dX8_isTold_49 : decode cX8_isTold 49 = .ok (.iload 4, 2) := by decide +kernel
theorem dX8_isTold_51 : decode cX8_isTold 51 = .ok (.invokestatic 127, 3) := by decide +kernel
theorem dX8_isTold_54 : decode cX8_isTold 54 = .ok (.if_icmp .ne 7, 3) := by decide +kernel
theorem dX8_isTold_57 : decode cX8_isTold 57 = .ok (.iconst 1, 1) := by decide +kernel
theorem dX8_isTold_58 : decode cX8_isTold 58 = .ok (.goto 4, 3) := by decide +kernel
theorem dX8_isTold_61 : decode cX8_isTold 61 = .ok (.iconst 0, 1) := by decide +kernel
theorem dX8_isTold_62 : decode cX8_isTold 62 = .ok (.istore_n 3, 1) := by decide +kernel
theorem dX8_isTold_63 : decode cX8_isTold 63 = .ok (.iinc 4 1, 3) := by decide +kernel
theorem dX8_isTold_66 : decode cX8_isTold 66 = .ok (.goto (-61), 3) := by decide +kernel
theorem dX8_isTold_69 : decode cX8_isTold 69 = .ok (.iload_n 3, 1) := by decide +kernel
theorem dX8_isTold_70 : decode cX8_isTold 70 = .ok (.ireturn, 1) := by decide +kernel
theorem dX8_linesOf_0 : decode cX8_linesOf 0 = .ok (.iconst 1, 1) := by decide +kernel
theorem dX8_linesOf_1 : decode cX8_linesOf 1 = .ok (.aload_n 0, 1) := by decide +kernel
theorem dX8_linesOf_2 : decode cX8_linesOf 2 = .ok (.getfield 7, 3) := by decide +kernel
theorem dX8_linesOf_5 : decode cX8_linesOf 5 = .ok (.bipush 16, 2) := by decide +kernel
theorem dX8_linesOf_7 : decode cX8_linesOf 7 = .ok (.iaload, 1) := by decide +kernel
theorem dX8_linesOf_8 : decode cX8_linesOf 8 = .ok (.ishl, 1) := by decide +kernel
theorem dX8_linesOf_9 : decode cX8_linesOf 9 = .ok (.iconst 1, 1) := by decide +kernel
theorem dX8_linesOf_10 : decode cX8_linesOf 10 = .ok (.isub, 1) := by decide +kernel
theorem dX8_linesOf_11 : decode cX8_linesOf 11 = .ok (.istore_n 2, 1) := by decide +kernel
theorem dX8_linesOf_12 : decode cX8_linesOf 12 = .ok (.iconst 0, 1) := by decide +kernel
theorem dX8_linesOf_13 : decode cX8_linesOf 13 = .ok (.istore_n 3, 1) := by decide +kernel
theorem dX8_linesOf_14 : decode cX8_linesOf 14 = .ok (.iload_n 3, 1) := by decide +kernel
theorem dX8_linesOf_15 : decode cX8_linesOf 15 = .ok (.iload_n 2, 1) := by decide +kernel
theorem dX8_linesOf_16 : decode cX8_linesOf 16 = .ok (.if_icmp .gt 24, 3) := by decide +kernel
theorem dX8_linesOf_19 : decode cX8_linesOf 19 = .ok (.aload_n 0, 1) := by decide +kernel
theorem dX8_linesOf_20 : decode cX8_linesOf 20 = .ok (.getfield 35, 3) := by decide +kernel
theorem dX8_linesOf_23 : decode cX8_linesOf 23 = .ok (.iload_n 3, 1) := by decide +kernel
theorem dX8_linesOf_24 : decode cX8_linesOf 24 = .ok (.iload_n 3, 1) := by decide +kernel
theorem dX8_linesOf_25 : decode cX8_linesOf 25 = .ok (.ifCond .ne 7, 3) := by decide +kernel
theorem dX8_linesOf_28 : decode cX8_linesOf 28 = .ok (.lconst 1, 1) := by decide +kernel
theorem dX8_linesOf_29 : decode cX8_linesOf 29 = .ok (.goto 4, 3) := by decide +kernel
theorem dX8_linesOf_32 : decode cX8_linesOf 32 = .ok (.lconst 0, 1) := by decide +kernel
theorem dX8_linesOf_33 : decode cX8_linesOf 33 = .ok (.lastore, 1) := by decide +kernel
theorem dX8_linesOf_34 : decode cX8_linesOf 34 = .ok (.iinc 3 1, 3) := by decide +kernel
theorem dX8_linesOf_37 : decode cX8_linesOf 37 = .ok (.goto (-23), 3) := by decide +kernel
theorem dX8_linesOf_40 : decode cX8_linesOf 40 = .ok (.iconst 0, 1) := by decide +kernel
theorem dX8_linesOf_41 : decode cX8_linesOf 41 = .ok (.istore_n 3, 1) := by decide +kernel
theorem dX8_linesOf_42 : decode cX8_linesOf 42 = .ok (.iload_n 3, 1) := by decide +kernel
theorem dX8_linesOf_43 : decode cX8_linesOf 43 = .ok (.iload_n 1, 1) := by decide +kernel
theorem dX8_linesOf_44 : decode cX8_linesOf 44 = .ok (.if_icmp .ge 188, 3) := by decide +kernel
theorem dX8_linesOf_47 : decode cX8_linesOf 47 = .ok (.iconst 0, 1) := by decide +kernel
theorem dX8_linesOf_48 : decode cX8_linesOf 48 = .ok (.istore 4, 2) := by decide +kernel
theorem dX8_linesOf_50 : decode cX8_linesOf 50 = .ok (.iload 4, 2) := by decide +kernel
theorem dX8_linesOf_52 : decode cX8_linesOf 52 = .ok (.iload_n 2, 1) := by decide +kernel
theorem dX8_linesOf_53 : decode cX8_linesOf 53 = .ok (.if_icmp .gt 17, 3) := by decide +kernel
theorem dX8_linesOf_56 : decode cX8_linesOf 56 = .ok (.aload_n 0, 1) := by decide +kernel
theorem dX8_linesOf_57 : decode cX8_linesOf 57 = .ok (.getfield 39, 3) := by decide +kernel
theorem dX8_linesOf_60 : decode cX8_linesOf 60 = .ok (.iload 4, 2) := by decide +kernel
theorem dX8_linesOf_62 : decode cX8_linesOf 62 = .ok (.lconst 0, 1) := by decide +kernel
theorem dX8_linesOf_63 : decode cX8_linesOf 63 = .ok (.lastore, 1) := by decide +kernel
theorem dX8_linesOf_64 : decode cX8_linesOf 64 = .ok (.iinc 4 1, 3) := by decide +kernel
theorem dX8_linesOf_67 : decode cX8_linesOf 67 = .ok (.goto (-17), 3) := by decide +kernel
theorem dX8_linesOf_70 : decode cX8_linesOf 70 = .ok (.iconst 0, 1) := by decide +kernel
theorem dX8_linesOf_71 : decode cX8_linesOf 71 = .ok (.istore 4, 2) := by decide +kernel
theorem dX8_linesOf_73 : decode cX8_linesOf 73 = .ok (.iload 4, 2) := by decide +kernel
theorem dX8_linesOf_75 : decode cX8_linesOf 75 = .ok (.iload_n 2, 1) := by decide +kernel
theorem dX8_linesOf_76 : decode cX8_linesOf 76 = .ok (.if_icmp .gt 121, 3) := by decide +kernel
theorem dX8_linesOf_79 : decode cX8_linesOf 79 = .ok (.aload_n 0, 1) := by decide +kernel
theorem dX8_linesOf_80 : decode cX8_linesOf 80 = .ok (.getfield 32, 3) := by decide +kernel
theorem dX8_linesOf_83 : decode cX8_linesOf 83 = .ok (.iconst 4, 1) := by decide +kernel
theorem dX8_linesOf_84 : decode cX8_linesOf 84 = .ok (.iload 4, 2) := by decide +kernel
theorem dX8_linesOf_86 : decode cX8_linesOf 86 = .ok (.imul, 1) := by decide +kernel
theorem dX8_linesOf_87 : decode cX8_linesOf 87 = .ok (.aload_n 0, 1) := by decide +kernel
theorem dX8_linesOf_88 : decode cX8_linesOf 88 = .ok (.getfield 7, 3) := by decide +kernel
theorem dX8_linesOf_91 : decode cX8_linesOf 91 = .ok (.bipush 8, 2) := by decide +kernel
theorem dX8_linesOf_93 : decode cX8_linesOf 93 = .ok (.iload_n 3, 1) := by decide +kernel
theorem dX8_linesOf_94 : decode cX8_linesOf 94 = .ok (.iadd, 1) := by decide +kernel
theorem dX8_linesOf_95 : decode cX8_linesOf 95 = .ok (.iaload, 1) := by decide +kernel
theorem dX8_linesOf_96 : decode cX8_linesOf 96 = .ok (.iadd, 1) := by decide +kernel
theorem dX8_linesOf_97 : decode cX8_linesOf 97 = .ok (.baload, 1) := by decide +kernel
theorem dX8_linesOf_98 : decode cX8_linesOf 98 = .ok (.ifCond .eq 17, 3) := by decide +kernel
theorem dX8_linesOf_101 : decode cX8_linesOf 101 = .ok (.aload_n 0, 1) := by decide +kernel
theorem dX8_linesOf_102 : decode cX8_linesOf 102 = .ok (.iload 4, 2) := by decide +kernel
theorem dX8_linesOf_104 : decode cX8_linesOf 104 = .ok (.iload_n 3, 1) := by decide +kernel
theorem dX8_linesOf_105 : decode cX8_linesOf 105 = .ok (.invokevirtual 223, 3) := by decide +kernel
theorem dX8_linesOf_108 : decode cX8_linesOf 108 = .ok (.ifCond .eq 7, 3) := by decide +kernel
theorem dX8_linesOf_111 : decode cX8_linesOf 111 = .ok (.iconst 1, 1) := by decide +kernel
theorem dX8_linesOf_112 : decode cX8_linesOf 112 = .ok (.goto 4, 3) := by decide +kernel
theorem dX8_linesOf_115 : decode cX8_linesOf 115 = .ok (.iconst 0, 1) := by decide +kernel
theorem dX8_linesOf_116 : decode cX8_linesOf 116 = .ok (.istore 5, 2) := by decide +kernel
theorem dX8_linesOf_118 : decode cX8_linesOf 118 = .ok (.iconst 0, 1) := by decide +kernel
theorem dX8_linesOf_119 : decode cX8_linesOf 119 = .ok (.istore 6, 2) := by decide +kernel
theorem dX8_linesOf_121 : decode cX8_linesOf 121 = .ok (.iload 6, 2) := by decide +kernel
theorem dX8_linesOf_123 : decode cX8_linesOf 123 = .ok (.iload_n 2, 1) := by decide +kernel
theorem dX8_linesOf_124 : decode cX8_linesOf 124 = .ok (.if_icmp .gt 67, 3) := by decide +kernel
theorem dX8_linesOf_127 : decode cX8_linesOf 127 = .ok (.iload 5, 2) := by decide +kernel
theorem dX8_linesOf_129 : decode cX8_linesOf 129 = .ok (.ifCond .eq 62, 3) := by decide +kernel
theorem dX8_linesOf_132 : decode cX8_linesOf 132 = .ok (.iload 6, 2) := by decide +kernel
theorem dX8_linesOf_134 : decode cX8_linesOf 134 = .ok (.iload 4, 2) := by decide +kernel
theorem dX8_linesOf_136 : decode cX8_linesOf 136 = .ok (.iand, 1) := by decide +kernel
theorem dX8_linesOf_137 : decode cX8_linesOf 137 = .ok (.ifCond .ne 48, 3) := by decide +kernel
theorem dX8_linesOf_140 : decode cX8_linesOf 140 = .ok (.aload_n 0, 1) := by decide +kernel
theorem dX8_linesOf_141 : decode cX8_linesOf 141 = .ok (.getfield 35, 3) := by decide +kernel
theorem dX8_linesOf_144 : decode cX8_linesOf 144 = .ok (.iload 6, 2) := by decide +kernel
theorem dX8_linesOf_146 : decode cX8_linesOf 146 = .ok (.laload, 1) := by decide +kernel
theorem dX8_linesOf_147 : decode cX8_linesOf 147 = .ok (.lconst 0, 1) := by decide +kernel
theorem dX8_linesOf_148 : decode cX8_linesOf 148 = .ok (.lcmp, 1) := by decide +kernel
theorem dX8_linesOf_149 : decode cX8_linesOf 149 = .ok (.ifCond .le 36, 3) := by decide +kernel
theorem dX8_linesOf_152 : decode cX8_linesOf 152 = .ok (.aload_n 0, 1) := by decide +kernel
theorem dX8_linesOf_153 : decode cX8_linesOf 153 = .ok (.getfield 28, 3) := by decide +kernel
theorem dX8_linesOf_156 : decode cX8_linesOf 156 = .ok (.iload 6, 2) := by decide +kernel
theorem dX8_linesOf_158 : decode cX8_linesOf 158 = .ok (.iload 4, 2) := by decide +kernel
theorem dX8_linesOf_160 : decode cX8_linesOf 160 = .ok (.ior, 1) := by decide +kernel
theorem dX8_linesOf_161 : decode cX8_linesOf 161 = .ok (.baload, 1) := by decide +kernel
theorem dX8_linesOf_162 : decode cX8_linesOf 162 = .ok (.ifCond .eq 23, 3) := by decide +kernel
theorem dX8_linesOf_165 : decode cX8_linesOf 165 = .ok (.aload_n 0, 1) := by decide +kernel
theorem dX8_linesOf_166 : decode cX8_linesOf 166 = .ok (.getfield 39, 3) := by decide +kernel
theorem dX8_linesOf_169 : decode cX8_linesOf 169 = .ok (.iload 6, 2) := by decide +kernel
theorem dX8_linesOf_171 : decode cX8_linesOf 171 = .ok (.iload 4, 2) := by decide +kernel
theorem dX8_linesOf_173 : decode cX8_linesOf 173 = .ok (.ior, 1) := by decide +kernel
theorem dX8_linesOf_174 : decode cX8_linesOf 174 = .ok (.dup2, 1) := by decide +kernel
theorem dX8_linesOf_175 : decode cX8_linesOf 175 = .ok (.laload, 1) := by decide +kernel
theorem dX8_linesOf_176 : decode cX8_linesOf 176 = .ok (.aload_n 0, 1) := by decide +kernel
theorem dX8_linesOf_177 : decode cX8_linesOf 177 = .ok (.getfield 35, 3) := by decide +kernel
theorem dX8_linesOf_180 : decode cX8_linesOf 180 = .ok (.iload 6, 2) := by decide +kernel
theorem dX8_linesOf_182 : decode cX8_linesOf 182 = .ok (.laload, 1) := by decide +kernel
theorem dX8_linesOf_183 : decode cX8_linesOf 183 = .ok (.ladd, 1) := by decide +kernel
theorem dX8_linesOf_184 : decode cX8_linesOf 184 = .ok (.lastore, 1) := by decide +kernel
theorem dX8_linesOf_185 : decode cX8_linesOf 185 = .ok (.iinc 6 1, 3) := by decide +kernel
theorem dX8_linesOf_188 : decode cX8_linesOf 188 = .ok (.goto (-67), 3) := by decide +kernel
theorem dX8_linesOf_191 : decode cX8_linesOf 191 = .ok (.iinc 4 1, 3) := by decide +kernel
theorem dX8_linesOf_194 : decode cX8_linesOf 194 = .ok (.goto (-121), 3) := by decide +kernel
theorem dX8_linesOf_197 : decode cX8_linesOf 197 = .ok (.iconst 0, 1) := by decide +kernel
theorem dX8_linesOf_198 : decode cX8_linesOf 198 = .ok (.istore 4, 2) := by decide +kernel
theorem dX8_linesOf_200 : decode cX8_linesOf 200 = .ok (.iload 4, 2) := by decide +kernel
theorem dX8_linesOf_202 : decode cX8_linesOf 202 = .ok (.iload_n 2, 1) := by decide +kernel
theorem dX8_linesOf_203 : decode cX8_linesOf 203 = .ok (.if_icmp .gt 23, 3) := by decide +kernel
theorem dX8_linesOf_206 : decode cX8_linesOf 206 = .ok (.aload_n 0, 1) := by decide +kernel
theorem dX8_linesOf_207 : decode cX8_linesOf 207 = .ok (.getfield 35, 3) := by decide +kernel
theorem dX8_linesOf_210 : decode cX8_linesOf 210 = .ok (.iload 4, 2) := by decide +kernel
theorem dX8_linesOf_212 : decode cX8_linesOf 212 = .ok (.aload_n 0, 1) := by decide +kernel
theorem dX8_linesOf_213 : decode cX8_linesOf 213 = .ok (.getfield 39, 3) := by decide +kernel
theorem dX8_linesOf_216 : decode cX8_linesOf 216 = .ok (.iload 4, 2) := by decide +kernel
theorem dX8_linesOf_218 : decode cX8_linesOf 218 = .ok (.laload, 1) := by decide +kernel
theorem dX8_linesOf_219 : decode cX8_linesOf 219 = .ok (.lastore, 1) := by decide +kernel
theorem dX8_linesOf_220 : decode cX8_linesOf 220 = .ok (.iinc 4 1, 3) := by decide +kernel
theorem dX8_linesOf_223 : decode cX8_linesOf 223 = .ok (.goto (-23), 3) := by decide +kernel
theorem dX8_linesOf_226 : decode cX8_linesOf 226 = .ok (.iinc 3 1, 3) := by decide +kernel
theorem dX8_linesOf_229 : decode cX8_linesOf 229 = .ok (.goto (-187), 3) := by decide +kernel
theorem dX8_linesOf_232 : decode cX8_linesOf 232 = .ok (.aload_n 0, 1) := by decide +kernel
theorem dX8_linesOf_233 : decode cX8_linesOf 233 = .ok (.getfield 35, 3) := by decide +kernel
theorem dX8_linesOf_236 : decode cX8_linesOf 236 = .ok (.iload_n 2, 1) := by decide +kernel
theorem dX8_linesOf_237 : decode cX8_linesOf 237 = .ok (.laload, 1) := by decide +kernel
theorem dX8_linesOf_238 : decode cX8_linesOf 238 = .ok (.lreturn, 1) := by decide +kernel
theorem dX8_tellsNothing_0 : decode cX8_tellsNothing 0 = .ok (.iconst 0, 1) := by decide +kernel
theorem dX8_tellsNothing_1 : decode cX8_tellsNothing 1 = .ok (.istore_n 1, 1) := by decide +kernel
theorem dX8_tellsNothing_2 : decode cX8_tellsNothing 2 = .ok (.iload_n 1, 1) := by decide +kernel
theorem dX8_tellsNothing_3 : decode cX8_tellsNothing 3 = .ok (.bipush 8, 2) := by decide +kernel
theorem dX8_tellsNothing_5 : decode cX8_tellsNothing 5 = .ok (.if_icmp .ge 16, 3) := by decide +kernel
theorem dX8_tellsNothing_8 : decode cX8_tellsNothing 8 = .ok (.aload_n 0, 1) := by decide +kernel
theorem dX8_tellsNothing_9 : decode cX8_tellsNothing 9 = .ok (.getfield 42, 3) := by decide +kernel
theorem dX8_tellsNothing_12 : decode cX8_tellsNothing 12 = .ok (.iload_n 1, 1) := by decide +kernel
theorem dX8_tellsNothing_13 : decode cX8_tellsNothing 13 = .ok (.iconst (-1), 1) := by decide +kernel
theorem dX8_tellsNothing_14 : decode cX8_tellsNothing 14 = .ok (.iastore, 1) := by decide +kernel
theorem dX8_tellsNothing_15 : decode cX8_tellsNothing 15 = .ok (.iinc 1 1, 3) := by decide +kernel
theorem dX8_tellsNothing_18 : decode cX8_tellsNothing 18 = .ok (.goto (-16), 3) := by decide +kernel
theorem dX8_tellsNothing_21 : decode cX8_tellsNothing 21 = .ok (.return_, 1) := by decide +kernel
theorem dX8_leastOf_0 : decode cX8_leastOf 0 = .ok (.aload_n 0, 1) := by decide +kernel
theorem dX8_leastOf_1 : decode cX8_leastOf 1 = .ok (.invokevirtual 226, 3) := by decide +kernel
theorem dX8_leastOf_4 : decode cX8_leastOf 4 = .ok (.aload_n 0, 1) := by decide +kernel
theorem dX8_leastOf_5 : decode cX8_leastOf 5 = .ok (.invokevirtual 229, 3) := by decide +kernel
theorem dX8_leastOf_8 : decode cX8_leastOf 8 = .ok (.iconst 0, 1) := by decide +kernel
theorem dX8_leastOf_9 : decode cX8_leastOf 9 = .ok (.istore_n 1, 1) := by decide +kernel
theorem dX8_leastOf_10 : decode cX8_leastOf 10 = .ok (.iload_n 1, 1) := by decide +kernel
theorem dX8_leastOf_11 : decode cX8_leastOf 11 = .ok (.bipush 8, 2) := by decide +kernel
theorem dX8_leastOf_13 : decode cX8_leastOf 13 = .ok (.if_icmp .gt 21, 3) := by decide +kernel
theorem dX8_leastOf_16 : decode cX8_leastOf 16 = .ok (.aload_n 0, 1) := by decide +kernel
theorem dX8_leastOf_17 : decode cX8_leastOf 17 = .ok (.iload_n 1, 1) := by decide +kernel
theorem dX8_leastOf_18 : decode cX8_leastOf 18 = .ok (.invokevirtual 232, 3) := by decide +kernel
theorem dX8_leastOf_21 : decode cX8_leastOf 21 = .ok (.lconst 0, 1) := by decide +kernel
theorem dX8_leastOf_22 : decode cX8_leastOf 22 = .ok (.lcmp, 1) := by decide +kernel
theorem dX8_leastOf_23 : decode cX8_leastOf 23 = .ok (.ifCond .le 5, 3) := by decide +kernel
theorem dX8_leastOf_26 : decode cX8_leastOf 26 = .ok (.iload_n 1, 1) := by decide +kernel
theorem dX8_leastOf_27 : decode cX8_leastOf 27 = .ok (.ireturn, 1) := by decide +kernel
theorem dX8_leastOf_28 : decode cX8_leastOf 28 = .ok (.iinc 1 1, 3) := by decide +kernel
theorem dX8_leastOf_31 : decode cX8_leastOf 31 = .ok (.goto (-21), 3) := by decide +kernel
theorem dX8_leastOf_34 : decode cX8_leastOf 34 = .ok (.iconst (-1), 1) := by decide +kernel
theorem dX8_leastOf_35 : decode cX8_leastOf 35 = .ok (.ireturn, 1) := by decide +kernel
theorem dX8_least_0 : decode cX8_least 0 = .ok (.aload_n 0, 1) := by decide +kernel
theorem dX8_least_1 : decode cX8_least 1 = .ok (.getfield 7, 3) := by decide +kernel
theorem dX8_least_4 : decode cX8_least 4 = .ok (.bipush 16, 2) := by decide +kernel
theorem dX8_least_6 : decode cX8_least 6 = .ok (.iaload, 1) := by decide +kernel
theorem dX8_least_7 : decode cX8_least 7 = .ok (.bipush 8, 2) := by decide +kernel
theorem dX8_least_9 : decode cX8_least 9 = .ok (.if_icmp .le 9, 3) := by decide +kernel
theorem dX8_least_12 : decode cX8_least 12 = .ok (.aload_n 0, 1) := by decide +kernel
theorem dX8_least_13 : decode cX8_least 13 = .ok (.iconst 1, 1) := by decide +kernel
theorem dX8_least_14 : decode cX8_least 14 = .ok (.invokevirtual 87, 3) := by decide +kernel
theorem dX8_least_17 : decode cX8_least 17 = .ok (.ireturn, 1) := by decide +kernel
theorem dX8_least_18 : decode cX8_least 18 = .ok (.aload_n 0, 1) := by decide +kernel
theorem dX8_least_19 : decode cX8_least 19 = .ok (.invokevirtual 236, 3) := by decide +kernel
theorem dX8_least_22 : decode cX8_least 22 = .ok (.istore_n 1, 1) := by decide +kernel
theorem dX8_least_23 : decode cX8_least 23 = .ok (.iload_n 1, 1) := by decide +kernel
theorem dX8_least_24 : decode cX8_least 24 = .ok (.iconst (-1), 1) := by decide +kernel
theorem dX8_least_25 : decode cX8_least 25 = .ok (.if_icmp .ne 11, 3) := by decide +kernel
theorem dX8_least_28 : decode cX8_least 28 = .ok (.aload_n 0, 1) := by decide +kernel
theorem dX8_least_29 : decode cX8_least 29 = .ok (.iconst 2, 1) := by decide +kernel
theorem dX8_least_30 : decode cX8_least 30 = .ok (.invokevirtual 87, 3) := by decide +kernel
theorem dX8_least_33 : decode cX8_least 33 = .ok (.goto 8, 3) := by decide +kernel
theorem dX8_least_36 : decode cX8_least 36 = .ok (.aload_n 0, 1) := by decide +kernel
theorem dX8_least_37 : decode cX8_least 37 = .ok (.iload_n 1, 1) := by decide +kernel
theorem dX8_least_38 : decode cX8_least 38 = .ok (.invokevirtual 91, 3) := by decide +kernel
theorem dX8_least_41 : decode cX8_least 41 = .ok (.ireturn, 1) := by decide +kernel
theorem dX8_ways_0 : decode cX8_ways 0 = .ok (.iload_n 1, 1) := by decide +kernel
theorem dX8_ways_1 : decode cX8_ways 1 = .ok (.iconst 0, 1) := by decide +kernel
theorem dX8_ways_2 : decode cX8_ways 2 = .ok (.bipush 8, 2) := by decide +kernel
theorem dX8_ways_4 : decode cX8_ways 4 = .ok (.invokestatic 74, 3) := by decide +kernel
theorem dX8_ways_7 : decode cX8_ways 7 = .ok (.ifCond .eq 15, 3) := by decide +kernel
theorem dX8_ways_10 : decode cX8_ways 10 = .ok (.aload_n 0, 1) := by decide +kernel
theorem dX8_ways_11 : decode cX8_ways 11 = .ok (.getfield 7, 3) := by decide +kernel
theorem dX8_ways_14 : decode cX8_ways 14 = .ok (.bipush 16, 2) := by decide +kernel
theorem dX8_ways_16 : decode cX8_ways 16 = .ok (.iaload, 1) := by decide +kernel
theorem dX8_ways_17 : decode cX8_ways 17 = .ok (.bipush 8, 2) := by decide +kernel
theorem dX8_ways_19 : decode cX8_ways 19 = .ok (.if_icmp .le 24, 3) := by decide +kernel
theorem dX8_ways_22 : decode cX8_ways 22 = .ok (.aload_n 0, 1) := by decide +kernel
theorem dX8_ways_23 : decode cX8_ways 23 = .ok (.iload_n 1, 1) := by decide +kernel
theorem dX8_ways_24 : decode cX8_ways 24 = .ok (.iconst 0, 1) := by decide +kernel
theorem dX8_ways_25 : decode cX8_ways 25 = .ok (.bipush 8, 2) := by decide +kernel
theorem dX8_ways_27 : decode cX8_ways 27 = .ok (.invokestatic 74, 3) := by decide +kernel
theorem dX8_ways_30 : decode cX8_ways 30 = .ok (.ifCond .ne 7, 3) := by decide +kernel
theorem dX8_ways_33 : decode cX8_ways 33 = .ok (.iconst 1, 1) := by decide +kernel
theorem dX8_ways_34 : decode cX8_ways 34 = .ok (.goto 4, 3) := by decide +kernel
theorem dX8_ways_37 : decode cX8_ways 37 = .ok (.iconst 2, 1) := by decide +kernel
theorem dX8_ways_38 : decode cX8_ways 38 = .ok (.invokevirtual 87, 3) := by decide +kernel
theorem dX8_ways_41 : decode cX8_ways 41 = .ok (.i2l, 1) := by decide +kernel
theorem dX8_ways_42 : decode cX8_ways 42 = .ok (.lreturn, 1) := by decide +kernel
theorem dX8_ways_43 : decode cX8_ways 43 = .ok (.aload_n 0, 1) := by decide +kernel
theorem dX8_ways_44 : decode cX8_ways 44 = .ok (.invokevirtual 226, 3) := by decide +kernel
theorem dX8_ways_47 : decode cX8_ways 47 = .ok (.aload_n 0, 1) := by decide +kernel
theorem dX8_ways_48 : decode cX8_ways 48 = .ok (.invokevirtual 229, 3) := by decide +kernel
theorem dX8_ways_51 : decode cX8_ways 51 = .ok (.aload_n 0, 1) := by decide +kernel
theorem dX8_ways_52 : decode cX8_ways 52 = .ok (.iconst 0, 1) := by decide +kernel
theorem dX8_ways_53 : decode cX8_ways 53 = .ok (.putfield 70, 3) := by decide +kernel
theorem dX8_ways_56 : decode cX8_ways 56 = .ok (.aload_n 0, 1) := by decide +kernel
theorem dX8_ways_57 : decode cX8_ways 57 = .ok (.iload_n 1, 1) := by decide +kernel
theorem dX8_ways_58 : decode cX8_ways 58 = .ok (.invokevirtual 232, 3) := by decide +kernel
theorem dX8_ways_61 : decode cX8_ways 61 = .ok (.lreturn, 1) := by decide +kernel
theorem dX8_takeLeast_0 : decode cX8_takeLeast 0 = .ok (.aload_n 0, 1) := by decide +kernel
theorem dX8_takeLeast_1 : decode cX8_takeLeast 1 = .ok (.getfield 7, 3) := by decide +kernel
theorem dX8_takeLeast_4 : decode cX8_takeLeast 4 = .ok (.bipush 16, 2) := by decide +kernel
theorem dX8_takeLeast_6 : decode cX8_takeLeast 6 = .ok (.iaload, 1) := by decide +kernel
theorem dX8_takeLeast_7 : decode cX8_takeLeast 7 = .ok (.bipush 8, 2) := by decide +kernel
theorem dX8_takeLeast_9 : decode cX8_takeLeast 9 = .ok (.if_icmp .le 9, 3) := by decide +kernel
theorem dX8_takeLeast_12 : decode cX8_takeLeast 12 = .ok (.aload_n 0, 1) := by decide +kernel
theorem dX8_takeLeast_13 : decode cX8_takeLeast 13 = .ok (.iconst 1, 1) := by decide +kernel
theorem dX8_takeLeast_14 : decode cX8_takeLeast 14 = .ok (.invokevirtual 87, 3) := by decide +kernel
theorem dX8_takeLeast_17 : decode cX8_takeLeast 17 = .ok (.ireturn, 1) := by decide +kernel
theorem dX8_takeLeast_18 : decode cX8_takeLeast 18 = .ok (.aload_n 0, 1) := by decide +kernel
theorem dX8_takeLeast_19 : decode cX8_takeLeast 19 = .ok (.invokevirtual 236, 3) := by decide +kernel
theorem dX8_takeLeast_22 : decode cX8_takeLeast 22 = .ok (.istore_n 1, 1) := by decide +kernel
theorem dX8_takeLeast_23 : decode cX8_takeLeast 23 = .ok (.iload_n 1, 1) := by decide +kernel
theorem dX8_takeLeast_24 : decode cX8_takeLeast 24 = .ok (.iconst (-1), 1) := by decide +kernel
theorem dX8_takeLeast_25 : decode cX8_takeLeast 25 = .ok (.if_icmp .ne 9, 3) := by decide +kernel
theorem dX8_takeLeast_28 : decode cX8_takeLeast 28 = .ok (.aload_n 0, 1) := by decide +kernel
theorem dX8_takeLeast_29 : decode cX8_takeLeast 29 = .ok (.iconst 2, 1) := by decide +kernel
theorem dX8_takeLeast_30 : decode cX8_takeLeast 30 = .ok (.invokevirtual 87, 3) := by decide +kernel
theorem dX8_takeLeast_33 : decode cX8_takeLeast 33 = .ok (.ireturn, 1) := by decide +kernel
theorem dX8_takeLeast_34 : decode cX8_takeLeast 34 = .ok (.aload_n 0, 1) := by decide +kernel
theorem dX8_takeLeast_35 : decode cX8_takeLeast 35 = .ok (.invokevirtual 84, 3) := by decide +kernel
theorem dX8_takeLeast_38 : decode cX8_takeLeast 38 = .ok (.iconst 0, 1) := by decide +kernel
theorem dX8_takeLeast_39 : decode cX8_takeLeast 39 = .ok (.istore_n 2, 1) := by decide +kernel
theorem dX8_takeLeast_40 : decode cX8_takeLeast 40 = .ok (.iconst 0, 1) := by decide +kernel
theorem dX8_takeLeast_41 : decode cX8_takeLeast 41 = .ok (.istore_n 3, 1) := by decide +kernel
theorem dX8_takeLeast_42 : decode cX8_takeLeast 42 = .ok (.iload_n 3, 1) := by decide +kernel
theorem dX8_takeLeast_43 : decode cX8_takeLeast 43 = .ok (.aload_n 0, 1) := by decide +kernel
theorem dX8_takeLeast_44 : decode cX8_takeLeast 44 = .ok (.getfield 7, 3) := by decide +kernel
theorem dX8_takeLeast_47 : decode cX8_takeLeast 47 = .ok (.bipush 16, 2) := by decide +kernel
theorem dX8_takeLeast_49 : decode cX8_takeLeast 49 = .ok (.iaload, 1) := by decide +kernel
theorem dX8_takeLeast_50 : decode cX8_takeLeast 50 = .ok (.if_icmp .ge 62, 3) := by decide +kernel
theorem dX8_takeLeast_53 : decode cX8_takeLeast 53 = .ok (.aload_n 0, 1) := by decide +kernel
theorem dX8_takeLeast_54 : decode cX8_takeLeast 54 = .ok (.getfield 42, 3) := by decide +kernel
theorem dX8_takeLeast_57 : decode cX8_takeLeast 57 = .ok (.iload_n 3, 1) := by decide +kernel
theorem dX8_takeLeast_58 : decode cX8_takeLeast 58 = .ok (.iconst 0, 1) := by decide +kernel
theorem dX8_takeLeast_59 : decode cX8_takeLeast 59 = .ok (.iastore, 1) := by decide +kernel
theorem dX8_takeLeast_60 : decode cX8_takeLeast 60 = .ok (.aload_n 0, 1) := by decide +kernel
theorem dX8_takeLeast_61 : decode cX8_takeLeast 61 = .ok (.iload_n 1, 1) := by decide +kernel
theorem dX8_takeLeast_62 : decode cX8_takeLeast 62 = .ok (.invokevirtual 232, 3) := by decide +kernel
theorem dX8_takeLeast_65 : decode cX8_takeLeast 65 = .ok (.lconst 0, 1) := by decide +kernel
theorem dX8_takeLeast_66 : decode cX8_takeLeast 66 = .ok (.lcmp, 1) := by decide +kernel
theorem dX8_takeLeast_67 : decode cX8_takeLeast 67 = .ok (.ifCond .ne 16, 3) := by decide +kernel
theorem dX8_takeLeast_70 : decode cX8_takeLeast 70 = .ok (.aload_n 0, 1) := by decide +kernel
theorem dX8_takeLeast_71 : decode cX8_takeLeast 71 = .ok (.getfield 42, 3) := by decide +kernel
theorem dX8_takeLeast_74 : decode cX8_takeLeast 74 = .ok (.iload_n 3, 1) := by decide +kernel
theorem dX8_takeLeast_75 : decode cX8_takeLeast 75 = .ok (.dup2, 1) := by decide +kernel
theorem dX8_takeLeast_76 : decode cX8_takeLeast 76 = .ok (.iaload, 1) := by decide +kernel
theorem dX8_takeLeast_77 : decode cX8_takeLeast 77 = .ok (.iconst 1, 1) := by decide +kernel
theorem dX8_takeLeast_78 : decode cX8_takeLeast 78 = .ok (.iadd, 1) := by decide +kernel
theorem dX8_takeLeast_79 : decode cX8_takeLeast 79 = .ok (.iastore, 1) := by decide +kernel
theorem dX8_takeLeast_80 : decode cX8_takeLeast 80 = .ok (.goto (-20), 3) := by decide +kernel
theorem dX8_takeLeast_83 : decode cX8_takeLeast 83 = .ok (.iload_n 2, 1) := by decide +kernel
theorem dX8_takeLeast_84 : decode cX8_takeLeast 84 = .ok (.aload_n 0, 1) := by decide +kernel
theorem dX8_takeLeast_85 : decode cX8_takeLeast 85 = .ok (.iload_n 3, 1) := by decide +kernel
theorem dX8_takeLeast_86 : decode cX8_takeLeast 86 = .ok (.iconst 4, 1) := by decide +kernel
theorem dX8_takeLeast_87 : decode cX8_takeLeast 87 = .ok (.invokevirtual 124, 3) := by decide +kernel
theorem dX8_takeLeast_90 : decode cX8_takeLeast 90 = .ok (.aload_n 0, 1) := by decide +kernel
theorem dX8_takeLeast_91 : decode cX8_takeLeast 91 = .ok (.getfield 42, 3) := by decide +kernel
theorem dX8_takeLeast_94 : decode cX8_takeLeast 94 = .ok (.iload_n 3, 1) := by decide +kernel
theorem dX8_takeLeast_95 : decode cX8_takeLeast 95 = .ok (.iaload, 1) := by decide +kernel
theorem dX8_takeLeast_96 : decode cX8_takeLeast 96 = .ok (.if_icmp .eq 7, 3) := by decide +kernel
theorem dX8_takeLeast_99 : decode cX8_takeLeast 99 = .ok (.iconst 1, 1) := by decide +kernel
theorem dX8_takeLeast_100 : decode cX8_takeLeast 100 = .ok (.goto 4, 3) := by decide +kernel
theorem dX8_takeLeast_103 : decode cX8_takeLeast 103 = .ok (.iconst 0, 1) := by decide +kernel
theorem dX8_takeLeast_104 : decode cX8_takeLeast 104 = .ok (.iadd, 1) := by decide +kernel
theorem dX8_takeLeast_105 : decode cX8_takeLeast 105 = .ok (.istore_n 2, 1) := by decide +kernel
theorem dX8_takeLeast_106 : decode cX8_takeLeast 106 = .ok (.iinc 3 1, 3) := by decide +kernel
theorem dX8_takeLeast_109 : decode cX8_takeLeast 109 = .ok (.goto (-67), 3) := by decide +kernel
theorem dX8_takeLeast_112 : decode cX8_takeLeast 112 = .ok (.iconst 0, 1) := by decide +kernel
theorem dX8_takeLeast_113 : decode cX8_takeLeast 113 = .ok (.istore_n 3, 1) := by decide +kernel
theorem dX8_takeLeast_114 : decode cX8_takeLeast 114 = .ok (.iload_n 3, 1) := by decide +kernel
theorem dX8_takeLeast_115 : decode cX8_takeLeast 115 = .ok (.aload_n 0, 1) := by decide +kernel
theorem dX8_takeLeast_116 : decode cX8_takeLeast 116 = .ok (.getfield 7, 3) := by decide +kernel
theorem dX8_takeLeast_119 : decode cX8_takeLeast 119 = .ok (.bipush 16, 2) := by decide +kernel
theorem dX8_takeLeast_121 : decode cX8_takeLeast 121 = .ok (.iaload, 1) := by decide +kernel
theorem dX8_takeLeast_122 : decode cX8_takeLeast 122 = .ok (.if_icmp .ge 21, 3) := by decide +kernel
theorem dX8_takeLeast_125 : decode cX8_takeLeast 125 = .ok (.aload_n 0, 1) := by decide +kernel
theorem dX8_takeLeast_126 : decode cX8_takeLeast 126 = .ok (.iload_n 3, 1) := by decide +kernel
theorem dX8_takeLeast_127 : decode cX8_takeLeast 127 = .ok (.iconst 4, 1) := by decide +kernel
theorem dX8_takeLeast_128 : decode cX8_takeLeast 128 = .ok (.aload_n 0, 1) := by decide +kernel
theorem dX8_takeLeast_129 : decode cX8_takeLeast 129 = .ok (.getfield 42, 3) := by decide +kernel
theorem dX8_takeLeast_132 : decode cX8_takeLeast 132 = .ok (.iload_n 3, 1) := by decide +kernel
theorem dX8_takeLeast_133 : decode cX8_takeLeast 133 = .ok (.iaload, 1) := by decide +kernel
theorem dX8_takeLeast_134 : decode cX8_takeLeast 134 = .ok (.invokevirtual 113, 3) := by decide +kernel
theorem dX8_takeLeast_137 : decode cX8_takeLeast 137 = .ok (.iinc 3 1, 3) := by decide +kernel
theorem dX8_takeLeast_140 : decode cX8_takeLeast 140 = .ok (.goto (-26), 3) := by decide +kernel
theorem dX8_takeLeast_143 : decode cX8_takeLeast 143 = .ok (.aload_n 0, 1) := by decide +kernel
theorem dX8_takeLeast_144 : decode cX8_takeLeast 144 = .ok (.aload_n 0, 1) := by decide +kernel
theorem dX8_takeLeast_145 : decode cX8_takeLeast 145 = .ok (.iload_n 2, 1) := by decide +kernel
theorem dX8_takeLeast_146 : decode cX8_takeLeast 146 = .ok (.invokevirtual 91, 3) := by decide +kernel
theorem dX8_takeLeast_149 : decode cX8_takeLeast 149 = .ok (.invokevirtual 94, 3) := by decide +kernel
theorem dX8_takeLeast_152 : decode cX8_takeLeast 152 = .ok (.ireturn, 1) := by decide +kernel
theorem dX8_feed_0 : decode cX8_feed 0 = .ok (.aload_n 0, 1) := by decide +kernel
theorem dX8_feed_1 : decode cX8_feed 1 = .ok (.getfield 239, 3) := by decide +kernel
theorem dX8_feed_4 : decode cX8_feed 4 = .ok (.bipush 80, 2) := by decide +kernel
theorem dX8_feed_6 : decode cX8_feed 6 = .ok (.if_icmp .ne 9, 3) := by decide +kernel
theorem dX8_feed_9 : decode cX8_feed 9 = .ok (.aload_n 0, 1) := by decide +kernel
theorem dX8_feed_10 : decode cX8_feed 10 = .ok (.iconst 1, 1) := by decide +kernel
theorem dX8_feed_11 : decode cX8_feed 11 = .ok (.invokevirtual 87, 3) := by decide +kernel
theorem dX8_feed_14 : decode cX8_feed 14 = .ok (.ireturn, 1) := by decide +kernel
theorem dX8_feed_15 : decode cX8_feed 15 = .ok (.aload_n 0, 1) := by decide +kernel
theorem dX8_feed_16 : decode cX8_feed 16 = .ok (.getfield 45, 3) := by decide +kernel
theorem dX8_feed_19 : decode cX8_feed 19 = .ok (.aload_n 0, 1) := by decide +kernel
theorem dX8_feed_20 : decode cX8_feed 20 = .ok (.getfield 239, 3) := by decide +kernel
theorem dX8_feed_23 : decode cX8_feed 23 = .ok (.iload_n 1, 1) := by decide +kernel
theorem dX8_feed_24 : decode cX8_feed 24 = .ok (.castore, 1) := by decide +kernel
theorem dX8_feed_25 : decode cX8_feed 25 = .ok (.aload_n 0, 1) := by decide +kernel
theorem dX8_feed_26 : decode cX8_feed 26 = .ok (.dup, 1) := by decide +kernel
theorem dX8_feed_27 : decode cX8_feed 27 = .ok (.getfield 239, 3) := by decide +kernel
theorem dX8_feed_30 : decode cX8_feed 30 = .ok (.iconst 1, 1) := by decide +kernel
theorem dX8_feed_31 : decode cX8_feed 31 = .ok (.iadd, 1) := by decide +kernel
theorem dX8_feed_32 : decode cX8_feed 32 = .ok (.putfield 239, 3) := by decide +kernel
theorem dX8_feed_35 : decode cX8_feed 35 = .ok (.aload_n 0, 1) := by decide +kernel
theorem dX8_feed_36 : decode cX8_feed 36 = .ok (.aload_n 0, 1) := by decide +kernel
theorem dX8_feed_37 : decode cX8_feed 37 = .ok (.getfield 239, 3) := by decide +kernel
theorem dX8_feed_40 : decode cX8_feed 40 = .ok (.invokevirtual 91, 3) := by decide +kernel
theorem dX8_feed_43 : decode cX8_feed 43 = .ok (.ireturn, 1) := by decide +kernel
theorem dX8_here_0 : decode cX8_here 0 = .ok (.aload_n 0, 1) := by decide +kernel
theorem dX8_here_1 : decode cX8_here 1 = .ok (.getfield 242, 3) := by decide +kernel
theorem dX8_here_4 : decode cX8_here 4 = .ok (.aload_n 0, 1) := by decide +kernel
theorem dX8_here_5 : decode cX8_here 5 = .ok (.getfield 239, 3) := by decide +kernel
theorem dX8_here_8 : decode cX8_here 8 = .ok (.if_icmp .ge 15, 3) := by decide +kernel
theorem dX8_here_11 : decode cX8_here 11 = .ok (.aload_n 0, 1) := by decide +kernel
theorem dX8_here_12 : decode cX8_here 12 = .ok (.getfield 45, 3) := by decide +kernel
theorem dX8_here_15 : decode cX8_here 15 = .ok (.aload_n 0, 1) := by decide +kernel
theorem dX8_here_16 : decode cX8_here 16 = .ok (.getfield 242, 3) := by decide +kernel
theorem dX8_here_19 : decode cX8_here 19 = .ok (.caload, 1) := by decide +kernel
theorem dX8_here_20 : decode cX8_here 20 = .ok (.goto 4, 3) := by decide +kernel
theorem dX8_here_23 : decode cX8_here 23 = .ok (.iconst 0, 1) := by decide +kernel
theorem dX8_here_24 : decode cX8_here 24 = .ok (.ireturn, 1) := by decide +kernel
theorem dX8_readsWord_0 : decode cX8_readsWord 0 = .ok (.aload_n 0, 1) := by decide +kernel
theorem dX8_readsWord_1 : decode cX8_readsWord 1 = .ok (.getfield 242, 3) := by decide +kernel
theorem dX8_readsWord_4 : decode cX8_readsWord 4 = .ok (.istore_n 1, 1) := by decide +kernel
theorem dX8_readsWord_5 : decode cX8_readsWord 5 = .ok (.iload_n 1, 1) := by decide +kernel
theorem dX8_readsWord_6 : decode cX8_readsWord 6 = .ok (.aload_n 0, 1) := by decide +kernel
theorem dX8_readsWord_7 : decode cX8_readsWord 7 = .ok (.getfield 239, 3) := by decide +kernel
theorem dX8_readsWord_10 : decode cX8_readsWord 10 = .ok (.if_icmp .ge 25, 3) := by decide +kernel
theorem dX8_readsWord_13 : decode cX8_readsWord 13 = .ok (.aload_n 0, 1) := by decide +kernel
theorem dX8_readsWord_14 : decode cX8_readsWord 14 = .ok (.getfield 45, 3) := by decide +kernel
theorem dX8_readsWord_17 : decode cX8_readsWord 17 = .ok (.iload_n 1, 1) := by decide +kernel
theorem dX8_readsWord_18 : decode cX8_readsWord 18 = .ok (.caload, 1) := by decide +kernel
theorem dX8_readsWord_19 : decode cX8_readsWord 19 = .ok (.bipush 97, 2) := by decide +kernel
theorem dX8_readsWord_21 : decode cX8_readsWord 21 = .ok (.bipush 122, 2) := by decide +kernel
theorem dX8_readsWord_23 : decode cX8_readsWord 23 = .ok (.invokestatic 74, 3) := by decide +kernel
theorem dX8_readsWord_26 : decode cX8_readsWord 26 = .ok (.ifCond .eq 9, 3) := by decide +kernel
theorem dX8_readsWord_29 : decode cX8_readsWord 29 = .ok (.iinc 1 1, 3) := by decide +kernel
theorem dX8_readsWord_32 : decode cX8_readsWord 32 = .ok (.goto (-27), 3) := by decide +kernel
theorem dX8_readsWord_35 : decode cX8_readsWord 35 = .ok (.iconst 0, 1) := by decide +kernel
theorem dX8_readsWord_36 : decode cX8_readsWord 36 = .ok (.istore_n 2, 1) := by decide +kernel
theorem dX8_readsWord_37 : decode cX8_readsWord 37 = .ok (.iload_n 2, 1) := by decide +kernel
theorem dX8_readsWord_38 : decode cX8_readsWord 38 = .ok (.bipush 6, 2) := by decide +kernel
theorem dX8_readsWord_40 : decode cX8_readsWord 40 = .ok (.if_icmp .ge 100, 3) := by decide +kernel
theorem dX8_readsWord_43 : decode cX8_readsWord 43 = .ok (.aload_n 0, 1) := by decide +kernel
theorem dX8_readsWord_44 : decode cX8_readsWord 44 = .ok (.getfield 66, 3) := by decide +kernel
theorem dX8_readsWord_47 : decode cX8_readsWord 47 = .ok (.iload_n 2, 1) := by decide +kernel
theorem dX8_readsWord_48 : decode cX8_readsWord 48 = .ok (.aaload, 1) := by decide +kernel
theorem dX8_readsWord_49 : decode cX8_readsWord 49 = .ok (.invokevirtual 245, 3) := by decide +kernel
theorem dX8_readsWord_52 : decode cX8_readsWord 52 = .ok (.iload_n 1, 1) := by decide +kernel
theorem dX8_readsWord_53 : decode cX8_readsWord 53 = .ok (.aload_n 0, 1) := by decide +kernel
theorem dX8_readsWord_54 : decode cX8_readsWord 54 = .ok (.getfield 242, 3) := by decide +kernel
theorem dX8_readsWord_57 : decode cX8_readsWord 57 = .ok (.isub, 1) := by decide +kernel
theorem dX8_readsWord_58 : decode cX8_readsWord 58 = .ok (.if_icmp .ne 7, 3) := by decide +kernel
theorem dX8_readsWord_61 : decode cX8_readsWord 61 = .ok (.iconst 1, 1) := by decide +kernel
theorem dX8_readsWord_62 : decode cX8_readsWord 62 = .ok (.goto 4, 3) := by decide +kernel
theorem dX8_readsWord_65 : decode cX8_readsWord 65 = .ok (.iconst 0, 1) := by decide +kernel
theorem dX8_readsWord_66 : decode cX8_readsWord 66 = .ok (.istore_n 3, 1) := by decide +kernel
theorem dX8_readsWord_67 : decode cX8_readsWord 67 = .ok (.iconst 0, 1) := by decide +kernel
theorem dX8_readsWord_68 : decode cX8_readsWord 68 = .ok (.istore 4, 2) := by decide +kernel
theorem dX8_readsWord_70 : decode cX8_readsWord 70 = .ok (.iload_n 3, 1) := by decide +kernel
theorem dX8_readsWord_71 : decode cX8_readsWord 71 = .ok (.ifCond .eq 52, 3) := by decide +kernel
theorem dX8_readsWord_74 : decode cX8_readsWord 74 = .ok (.iload 4, 2) := by decide +kernel
theorem dX8_readsWord_76 : decode cX8_readsWord 76 = .ok (.iload_n 1, 1) := by decide +kernel
theorem dX8_readsWord_77 : decode cX8_readsWord 77 = .ok (.aload_n 0, 1) := by decide +kernel
theorem dX8_readsWord_78 : decode cX8_readsWord 78 = .ok (.getfield 242, 3) := by decide +kernel
theorem dX8_readsWord_81 : decode cX8_readsWord 81 = .ok (.isub, 1) := by decide +kernel
theorem dX8_readsWord_82 : decode cX8_readsWord 82 = .ok (.if_icmp .ge 41, 3) := by decide +kernel
theorem dX8_readsWord_85 : decode cX8_readsWord 85 = .ok (.aload_n 0, 1) := by decide +kernel
theorem dX8_readsWord_86 : decode cX8_readsWord 86 = .ok (.getfield 66, 3) := by decide +kernel
theorem dX8_readsWord_89 : decode cX8_readsWord 89 = .ok (.iload_n 2, 1) := by decide +kernel
theorem dX8_readsWord_90 : decode cX8_readsWord 90 = .ok (.aaload, 1) := by decide +kernel
theorem dX8_readsWord_91 : decode cX8_readsWord 91 = .ok (.iload 4, 2) := by decide +kernel
theorem dX8_readsWord_93 : decode cX8_readsWord 93 = .ok (.invokevirtual 248, 3) := by decide +kernel
theorem dX8_readsWord_96 : decode cX8_readsWord 96 = .ok (.aload_n 0, 1) := by decide +kernel
theorem dX8_readsWord_97 : decode cX8_readsWord 97 = .ok (.getfield 45, 3) := by decide +kernel
theorem dX8_readsWord_100 : decode cX8_readsWord 100 = .ok (.aload_n 0, 1) := by decide +kernel
theorem dX8_readsWord_101 : decode cX8_readsWord 101 = .ok (.getfield 242, 3) := by decide +kernel
theorem dX8_readsWord_104 : decode cX8_readsWord 104 = .ok (.iload 4, 2) := by decide +kernel
theorem dX8_readsWord_106 : decode cX8_readsWord 106 = .ok (.iadd, 1) := by decide +kernel
theorem dX8_readsWord_107 : decode cX8_readsWord 107 = .ok (.caload, 1) := by decide +kernel
theorem dX8_readsWord_108 : decode cX8_readsWord 108 = .ok (.if_icmp .ne 7, 3) := by decide +kernel
theorem dX8_readsWord_111 : decode cX8_readsWord 111 = .ok (.iconst 1, 1) := by decide +kernel
theorem dX8_readsWord_112 : decode cX8_readsWord 112 = .ok (.goto 4, 3) := by decide +kernel
theorem dX8_readsWord_115 : decode cX8_readsWord 115 = .ok (.iconst 0, 1) := by decide +kernel
theorem dX8_readsWord_116 : decode cX8_readsWord 116 = .ok (.istore_n 3, 1) := by decide +kernel
theorem dX8_readsWord_117 : decode cX8_readsWord 117 = .ok (.iinc 4 1, 3) := by decide +kernel
theorem dX8_readsWord_120 : decode cX8_readsWord 120 = .ok (.goto (-50), 3) := by decide +kernel
theorem dX8_readsWord_123 : decode cX8_readsWord 123 = .ok (.iload_n 3, 1) := by decide +kernel
theorem dX8_readsWord_124 : decode cX8_readsWord 124 = .ok (.ifCond .eq 10, 3) := by decide +kernel
theorem dX8_readsWord_127 : decode cX8_readsWord 127 = .ok (.aload_n 0, 1) := by decide +kernel
theorem dX8_readsWord_128 : decode cX8_readsWord 128 = .ok (.iload_n 1, 1) := by decide +kernel
theorem dX8_readsWord_129 : decode cX8_readsWord 129 = .ok (.putfield 242, 3) := by decide +kernel
theorem dX8_readsWord_132 : decode cX8_readsWord 132 = .ok (.iload_n 2, 1) := by decide +kernel
theorem dX8_readsWord_133 : decode cX8_readsWord 133 = .ok (.ireturn, 1) := by decide +kernel
theorem dX8_readsWord_134 : decode cX8_readsWord 134 = .ok (.iinc 2 1, 3) := by decide +kernel
theorem dX8_readsWord_137 : decode cX8_readsWord 137 = .ok (.goto (-100), 3) := by decide +kernel
theorem dX8_readsWord_140 : decode cX8_readsWord 140 = .ok (.iconst (-1), 1) := by decide +kernel
theorem dX8_readsWord_141 : decode cX8_readsWord 141 = .ok (.ireturn, 1) := by decide +kernel
theorem dX8_readsNumber_0 : decode cX8_readsNumber 0 = .ok (.aload_n 0, 1) := by decide +kernel
theorem dX8_readsNumber_1 : decode cX8_readsNumber 1 = .ok (.invokevirtual 252, 3) := by decide +kernel
theorem dX8_readsNumber_4 : decode cX8_readsNumber 4 = .ok (.bipush 32, 2) := by decide +kernel
theorem dX8_readsNumber_6 : decode cX8_readsNumber 6 = .ok (.if_icmp .eq 5, 3) := by decide +kernel
theorem dX8_readsNumber_9 : decode cX8_readsNumber 9 = .ok (.iconst 0, 1) := by decide +kernel
theorem dX8_readsNumber_10 : decode cX8_readsNumber 10 = .ok (.ireturn, 1) := by decide +kernel
theorem dX8_readsNumber_11 : decode cX8_readsNumber 11 = .ok (.aload_n 0, 1) := by decide +kernel
theorem dX8_readsNumber_12 : decode cX8_readsNumber 12 = .ok (.dup, 1) := by decide +kernel
theorem dX8_readsNumber_13 : decode cX8_readsNumber 13 = .ok (.getfield 242, 3) := by decide +kernel
theorem dX8_readsNumber_16 : decode cX8_readsNumber 16 = .ok (.iconst 1, 1) := by decide +kernel
theorem dX8_readsNumber_17 : decode cX8_readsNumber 17 = .ok (.iadd, 1) := by decide +kernel
theorem dX8_readsNumber_18 : decode cX8_readsNumber 18 = .ok (.putfield 242, 3) := by decide +kernel
theorem dX8_readsNumber_21 : decode cX8_readsNumber 21 = .ok (.aload_n 0, 1) := by decide +kernel
theorem dX8_readsNumber_22 : decode cX8_readsNumber 22 = .ok (.getfield 242, 3) := by decide +kernel
theorem dX8_readsNumber_25 : decode cX8_readsNumber 25 = .ok (.istore_n 2, 1) := by decide +kernel
theorem dX8_readsNumber_26 : decode cX8_readsNumber 26 = .ok (.aload_n 0, 1) := by decide +kernel
theorem dX8_readsNumber_27 : decode cX8_readsNumber 27 = .ok (.getfield 49, 3) := by decide +kernel
theorem dX8_readsNumber_30 : decode cX8_readsNumber 30 = .ok (.iload_n 1, 1) := by decide +kernel
theorem dX8_readsNumber_31 : decode cX8_readsNumber 31 = .ok (.iconst 0, 1) := by decide +kernel
theorem dX8_readsNumber_32 : decode cX8_readsNumber 32 = .ok (.iastore, 1) := by decide +kernel
theorem dX8_readsNumber_33 : decode cX8_readsNumber 33 = .ok (.aload_n 0, 1) := by decide +kernel
theorem dX8_readsNumber_34 : decode cX8_readsNumber 34 = .ok (.getfield 242, 3) := by decide +kernel
theorem dX8_readsNumber_37 : decode cX8_readsNumber 37 = .ok (.iload_n 2, 1) := by decide +kernel
theorem dX8_readsNumber_38 : decode cX8_readsNumber 38 = .ok (.isub, 1) := by decide +kernel
theorem dX8_readsNumber_39 : decode cX8_readsNumber 39 = .ok (.iconst 3, 1) := by decide +kernel
theorem dX8_readsNumber_40 : decode cX8_readsNumber 40 = .ok (.if_icmp .ge 53, 3) := by decide +kernel
theorem dX8_readsNumber_43 : decode cX8_readsNumber 43 = .ok (.aload_n 0, 1) := by decide +kernel
theorem dX8_readsNumber_44 : decode cX8_readsNumber 44 = .ok (.invokevirtual 252, 3) := by decide +kernel
theorem dX8_readsNumber_47 : decode cX8_readsNumber 47 = .ok (.bipush 48, 2) := by decide +kernel
theorem dX8_readsNumber_49 : decode cX8_readsNumber 49 = .ok (.bipush 57, 2) := by decide +kernel
theorem dX8_readsNumber_51 : decode cX8_readsNumber 51 = .ok (.invokestatic 74, 3) := by decide +kernel
theorem dX8_readsNumber_54 : decode cX8_readsNumber 54 = .ok (.ifCond .eq 39, 3) := by decide +kernel
theorem dX8_readsNumber_57 : decode cX8_readsNumber 57 = .ok (.aload_n 0, 1) := by decide +kernel
theorem dX8_readsNumber_58 : decode cX8_readsNumber 58 = .ok (.getfield 49, 3) := by decide +kernel
theorem dX8_readsNumber_61 : decode cX8_readsNumber 61 = .ok (.iload_n 1, 1) := by decide +kernel
theorem dX8_readsNumber_62 : decode cX8_readsNumber 62 = .ok (.bipush 10, 2) := by decide +kernel
theorem dX8_readsNumber_64 : decode cX8_readsNumber 64 = .ok (.aload_n 0, 1) := by decide +kernel
theorem dX8_readsNumber_65 : decode cX8_readsNumber 65 = .ok (.getfield 49, 3) := by decide +kernel
theorem dX8_readsNumber_68 : decode cX8_readsNumber 68 = .ok (.iload_n 1, 1) := by decide +kernel
theorem dX8_readsNumber_69 : decode cX8_readsNumber 69 = .ok (.iaload, 1) := by decide +kernel
theorem dX8_readsNumber_70 : decode cX8_readsNumber 70 = .ok (.imul, 1) := by decide +kernel
theorem dX8_readsNumber_71 : decode cX8_readsNumber 71 = .ok (.aload_n 0, 1) := by decide +kernel
theorem dX8_readsNumber_72 : decode cX8_readsNumber 72 = .ok (.invokevirtual 252, 3) := by decide +kernel
theorem dX8_readsNumber_75 : decode cX8_readsNumber 75 = .ok (.iadd, 1) := by decide +kernel
theorem dX8_readsNumber_76 : decode cX8_readsNumber 76 = .ok (.bipush 48, 2) := by decide +kernel
theorem dX8_readsNumber_78 : decode cX8_readsNumber 78 = .ok (.isub, 1) := by decide +kernel
theorem dX8_readsNumber_79 : decode cX8_readsNumber 79 = .ok (.iastore, 1) := by decide +kernel
theorem dX8_readsNumber_80 : decode cX8_readsNumber 80 = .ok (.aload_n 0, 1) := by decide +kernel
theorem dX8_readsNumber_81 : decode cX8_readsNumber 81 = .ok (.dup, 1) := by decide +kernel
theorem dX8_readsNumber_82 : decode cX8_readsNumber 82 = .ok (.getfield 242, 3) := by decide +kernel
theorem dX8_readsNumber_85 : decode cX8_readsNumber 85 = .ok (.iconst 1, 1) := by decide +kernel
theorem dX8_readsNumber_86 : decode cX8_readsNumber 86 = .ok (.iadd, 1) := by decide +kernel
theorem dX8_readsNumber_87 : decode cX8_readsNumber 87 = .ok (.putfield 242, 3) := by decide +kernel
theorem dX8_readsNumber_90 : decode cX8_readsNumber 90 = .ok (.goto (-57), 3) := by decide +kernel
theorem dX8_readsNumber_93 : decode cX8_readsNumber 93 = .ok (.aload_n 0, 1) := by decide +kernel
theorem dX8_readsNumber_94 : decode cX8_readsNumber 94 = .ok (.getfield 242, 3) := by decide +kernel
theorem dX8_readsNumber_97 : decode cX8_readsNumber 97 = .ok (.iload_n 2, 1) := by decide +kernel
theorem dX8_readsNumber_98 : decode cX8_readsNumber 98 = .ok (.if_icmp .le 7, 3) := by decide +kernel
theorem dX8_readsNumber_101 : decode cX8_readsNumber 101 = .ok (.iconst 1, 1) := by decide +kernel
theorem dX8_readsNumber_102 : decode cX8_readsNumber 102 = .ok (.goto 4, 3) := by decide +kernel
theorem dX8_readsNumber_105 : decode cX8_readsNumber 105 = .ok (.iconst 0, 1) := by decide +kernel
theorem dX8_readsNumber_106 : decode cX8_readsNumber 106 = .ok (.ireturn, 1) := by decide +kernel
theorem dX8_readsCommand_0 : decode cX8_readsCommand 0 = .ok (.aload_n 0, 1) := by decide +kernel
theorem dX8_readsCommand_1 : decode cX8_readsCommand 1 = .ok (.aload_n 0, 1) := by decide +kernel
theorem dX8_readsCommand_2 : decode cX8_readsCommand 2 = .ok (.invokevirtual 255, 3) := by decide +kernel
theorem dX8_readsCommand_5 : decode cX8_readsCommand 5 = .ok (.putfield 258, 3) := by decide +kernel
theorem dX8_readsCommand_8 : decode cX8_readsCommand 8 = .ok (.aload_n 0, 1) := by decide +kernel
theorem dX8_readsCommand_9 : decode cX8_readsCommand 9 = .ok (.getfield 258, 3) := by decide +kernel
theorem dX8_readsCommand_12 : decode cX8_readsCommand 12 = .ok (.iconst (-1), 1) := by decide +kernel
theorem dX8_readsCommand_13 : decode cX8_readsCommand 13 = .ok (.if_icmp .ne 5, 3) := by decide +kernel
theorem dX8_readsCommand_16 : decode cX8_readsCommand 16 = .ok (.iconst 0, 1) := by decide +kernel
theorem dX8_readsCommand_17 : decode cX8_readsCommand 17 = .ok (.ireturn, 1) := by decide +kernel
theorem dX8_readsCommand_18 : decode cX8_readsCommand 18 = .ok (.aload_n 0, 1) := by decide +kernel
theorem dX8_readsCommand_19 : decode cX8_readsCommand 19 = .ok (.getfield 258, 3) := by decide +kernel
theorem dX8_readsCommand_22 : decode cX8_readsCommand 22 = .ok (.ifCond .ne 7, 3) := by decide +kernel
theorem dX8_readsCommand_25 : decode cX8_readsCommand 25 = .ok (.iconst 4, 1) := by decide +kernel
theorem dX8_readsCommand_26 : decode cX8_readsCommand 26 = .ok (.goto 16, 3) := by decide +kernel
theorem dX8_readsCommand_29 : decode cX8_readsCommand 29 = .ok (.aload_n 0, 1) := by decide +kernel
theorem dX8_readsCommand_30 : decode cX8_readsCommand 30 = .ok (.getfield 258, 3) := by decide +kernel
theorem dX8_readsCommand_33 : decode cX8_readsCommand 33 = .ok (.iconst 5, 1) := by decide +kernel
theorem dX8_readsCommand_34 : decode cX8_readsCommand 34 = .ok (.if_icmp .ne 7, 3) := by decide +kernel
theorem dX8_readsCommand_37 : decode cX8_readsCommand 37 = .ok (.iconst 1, 1) := by decide +kernel
theorem dX8_readsCommand_38 : decode cX8_readsCommand 38 = .ok (.goto 4, 3) := by decide +kernel
theorem dX8_readsCommand_41 : decode cX8_readsCommand 41 = .ok (.iconst 2, 1) := by decide +kernel
theorem dX8_readsCommand_42 : decode cX8_readsCommand 42 = .ok (.istore_n 1, 1) := by decide +kernel
theorem dX8_readsCommand_43 : decode cX8_readsCommand 43 = .ok (.iconst 1, 1) := by decide +kernel
theorem dX8_readsCommand_44 : decode cX8_readsCommand 44 = .ok (.istore_n 2, 1) := by decide +kernel
theorem dX8_readsCommand_45 : decode cX8_readsCommand 45 = .ok (.iconst 0, 1) := by decide +kernel
theorem dX8_readsCommand_46 : decode cX8_readsCommand 46 = .ok (.istore_n 3, 1) := by decide +kernel
theorem dX8_readsCommand_47 : decode cX8_readsCommand 47 = .ok (.iload_n 3, 1) := by decide +kernel
theorem dX8_readsCommand_48 : decode cX8_readsCommand 48 = .ok (.iload_n 1, 1) := by decide +kernel
theorem dX8_readsCommand_49 : decode cX8_readsCommand 49 = .ok (.if_icmp .ge 19, 3) := by decide +kernel
theorem dX8_readsCommand_52 : decode cX8_readsCommand 52 = .ok (.iload_n 2, 1) := by decide +kernel
theorem dX8_readsCommand_53 : decode cX8_readsCommand 53 = .ok (.ifCond .eq 15, 3) := by decide +kernel
theorem dX8_readsCommand_56 : decode cX8_readsCommand 56 = .ok (.aload_n 0, 1) := by decide +kernel
theorem dX8_readsCommand_57 : decode cX8_readsCommand 57 = .ok (.iload_n 3, 1) := by decide +kernel
theorem dX8_readsCommand_58 : decode cX8_readsCommand 58 = .ok (.invokevirtual 261, 3) := by decide +kernel
theorem dX8_readsCommand_61 : decode cX8_readsCommand 61 = .ok (.istore_n 2, 1) := by decide +kernel
theorem dX8_readsCommand_62 : decode cX8_readsCommand 62 = .ok (.iinc 3 1, 3) := by decide +kernel
theorem dX8_readsCommand_65 : decode cX8_readsCommand 65 = .ok (.goto (-18), 3) := by decide +kernel
theorem dX8_readsCommand_68 : decode cX8_readsCommand 68 = .ok (.iload_n 2, 1) := by decide +kernel
theorem dX8_readsCommand_69 : decode cX8_readsCommand 69 = .ok (.ireturn, 1) := by decide +kernel
theorem dX8_does_0 : decode cX8_does 0 = .ok (.aload_n 0, 1) := by decide +kernel
theorem dX8_does_1 : decode cX8_does 1 = .ok (.getfield 258, 3) := by decide +kernel
theorem dX8_does_4 : decode cX8_does 4 = .ok (.tableswitch 129 0 4 #[36, 65, 82, 82, 112], 36) := by decide +kernel
theorem dX8_does_40 : decode cX8_does 40 = .ok (.aload_n 0, 1) := by decide +kernel
theorem dX8_does_41 : decode cX8_does 41 = .ok (.aload_n 0, 1) := by decide +kernel
theorem dX8_does_42 : decode cX8_does 42 = .ok (.getfield 49, 3) := by decide +kernel
theorem dX8_does_45 : decode cX8_does 45 = .ok (.iconst 0, 1) := by decide +kernel
theorem dX8_does_46 : decode cX8_does 46 = .ok (.iaload, 1) := by decide +kernel
theorem dX8_does_47 : decode cX8_does 47 = .ok (.aload_n 0, 1) := by decide +kernel
theorem dX8_does_48 : decode cX8_does 48 = .ok (.getfield 49, 3) := by decide +kernel
theorem dX8_does_51 : decode cX8_does 51 = .ok (.iconst 1, 1) := by decide +kernel
theorem dX8_does_52 : decode cX8_does 52 = .ok (.iaload, 1) := by decide +kernel
theorem dX8_does_53 : decode cX8_does 53 = .ok (.aload_n 0, 1) := by decide +kernel
theorem dX8_does_54 : decode cX8_does 54 = .ok (.getfield 49, 3) := by decide +kernel
theorem dX8_does_57 : decode cX8_does 57 = .ok (.iconst 2, 1) := by decide +kernel
theorem dX8_does_58 : decode cX8_does 58 = .ok (.iaload, 1) := by decide +kernel
theorem dX8_does_59 : decode cX8_does 59 = .ok (.aload_n 0, 1) := by decide +kernel
theorem dX8_does_60 : decode cX8_does 60 = .ok (.getfield 49, 3) := by decide +kernel
theorem dX8_does_63 : decode cX8_does 63 = .ok (.iconst 3, 1) := by decide +kernel
theorem dX8_does_64 : decode cX8_does 64 = .ok (.iaload, 1) := by decide +kernel
theorem dX8_does_65 : decode cX8_does 65 = .ok (.invokevirtual 117, 3) := by decide +kernel
theorem dX8_does_68 : decode cX8_does 68 = .ok (.ireturn, 1) := by decide +kernel
theorem dX8_does_69 : decode cX8_does 69 = .ok (.aload_n 0, 1) := by decide +kernel
theorem dX8_does_70 : decode cX8_does 70 = .ok (.aload_n 0, 1) := by decide +kernel
theorem dX8_does_71 : decode cX8_does 71 = .ok (.getfield 49, 3) := by decide +kernel
theorem dX8_does_74 : decode cX8_does 74 = .ok (.iconst 0, 1) := by decide +kernel
theorem dX8_does_75 : decode cX8_does 75 = .ok (.iaload, 1) := by decide +kernel
theorem dX8_does_76 : decode cX8_does 76 = .ok (.aload_n 0, 1) := by decide +kernel
theorem dX8_does_77 : decode cX8_does 77 = .ok (.getfield 49, 3) := by decide +kernel
theorem dX8_does_80 : decode cX8_does 80 = .ok (.iconst 1, 1) := by decide +kernel
theorem dX8_does_81 : decode cX8_does 81 = .ok (.iaload, 1) := by decide +kernel
theorem dX8_does_82 : decode cX8_does 82 = .ok (.invokevirtual 136, 3) := by decide +kernel
theorem dX8_does_85 : decode cX8_does 85 = .ok (.ireturn, 1) := by decide +kernel
theorem dX8_does_86 : decode cX8_does 86 = .ok (.aload_n 0, 1) := by decide +kernel
theorem dX8_does_87 : decode cX8_does 87 = .ok (.aload_n 0, 1) := by decide +kernel
theorem dX8_does_88 : decode cX8_does 88 = .ok (.getfield 49, 3) := by decide +kernel
theorem dX8_does_91 : decode cX8_does 91 = .ok (.iconst 0, 1) := by decide +kernel
theorem dX8_does_92 : decode cX8_does 92 = .ok (.iaload, 1) := by decide +kernel
theorem dX8_does_93 : decode cX8_does 93 = .ok (.aload_n 0, 1) := by decide +kernel
theorem dX8_does_94 : decode cX8_does 94 = .ok (.getfield 49, 3) := by decide +kernel
theorem dX8_does_97 : decode cX8_does 97 = .ok (.iconst 1, 1) := by decide +kernel
theorem dX8_does_98 : decode cX8_does 98 = .ok (.iaload, 1) := by decide +kernel
theorem dX8_does_99 : decode cX8_does 99 = .ok (.aload_n 0, 1) := by decide +kernel
theorem dX8_does_100 : decode cX8_does 100 = .ok (.getfield 258, 3) := by decide +kernel
theorem dX8_does_103 : decode cX8_does 103 = .ok (.iconst 2, 1) := by decide +kernel
theorem dX8_does_104 : decode cX8_does 104 = .ok (.if_icmp .ne 7, 3) := by decide +kernel
theorem dX8_does_107 : decode cX8_does 107 = .ok (.iconst 1, 1) := by decide +kernel
theorem dX8_does_108 : decode cX8_does 108 = .ok (.goto 4, 3) := by decide +kernel
theorem dX8_does_111 : decode cX8_does 111 = .ok (.iconst 0, 1) := by decide +kernel
theorem dX8_does_112 : decode cX8_does 112 = .ok (.invokevirtual 146, 3) := by decide +kernel
theorem dX8_does_115 : decode cX8_does 115 = .ok (.ireturn, 1) := by decide +kernel
theorem dX8_does_116 : decode cX8_does 116 = .ok (.aload_n 0, 1) := by decide +kernel
theorem dX8_does_117 : decode cX8_does 117 = .ok (.aload_n 0, 1) := by decide +kernel
theorem dX8_does_118 : decode cX8_does 118 = .ok (.getfield 49, 3) := by decide +kernel
theorem dX8_does_121 : decode cX8_does 121 = .ok (.iconst 0, 1) := by decide +kernel
theorem dX8_does_122 : decode cX8_does 122 = .ok (.iaload, 1) := by decide +kernel
theorem dX8_does_123 : decode cX8_does 123 = .ok (.aload_n 0, 1) := by decide +kernel
theorem dX8_does_124 : decode cX8_does 124 = .ok (.getfield 49, 3) := by decide +kernel
theorem dX8_does_127 : decode cX8_does 127 = .ok (.iconst 1, 1) := by decide +kernel
theorem dX8_does_128 : decode cX8_does 128 = .ok (.iaload, 1) := by decide +kernel
theorem dX8_does_129 : decode cX8_does 129 = .ok (.invokevirtual 193, 3) := by decide +kernel
theorem dX8_does_132 : decode cX8_does 132 = .ok (.ireturn, 1) := by decide +kernel
theorem dX8_does_133 : decode cX8_does 133 = .ok (.aload_n 0, 1) := by decide +kernel
theorem dX8_does_134 : decode cX8_does 134 = .ok (.iconst 0, 1) := by decide +kernel
theorem dX8_does_135 : decode cX8_does 135 = .ok (.aload_n 0, 1) := by decide +kernel
theorem dX8_does_136 : decode cX8_does 136 = .ok (.getfield 49, 3) := by decide +kernel
theorem dX8_does_139 : decode cX8_does 139 = .ok (.iconst 0, 1) := by decide +kernel
theorem dX8_does_140 : decode cX8_does 140 = .ok (.iaload, 1) := by decide +kernel
theorem dX8_does_141 : decode cX8_does 141 = .ok (.invokevirtual 101, 3) := by decide +kernel
theorem dX8_does_144 : decode cX8_does 144 = .ok (.ireturn, 1) := by decide +kernel
theorem dX8_eatsEnd_0 : decode cX8_eatsEnd 0 = .ok (.aload_n 0, 1) := by decide +kernel
theorem dX8_eatsEnd_1 : decode cX8_eatsEnd 1 = .ok (.invokevirtual 252, 3) := by decide +kernel
theorem dX8_eatsEnd_4 : decode cX8_eatsEnd 4 = .ok (.bipush 59, 2) := by decide +kernel
theorem dX8_eatsEnd_6 : decode cX8_eatsEnd 6 = .ok (.if_icmp .ne 18, 3) := by decide +kernel
theorem dX8_eatsEnd_9 : decode cX8_eatsEnd 9 = .ok (.aload_n 0, 1) := by decide +kernel
theorem dX8_eatsEnd_10 : decode cX8_eatsEnd 10 = .ok (.getfield 242, 3) := by decide +kernel
theorem dX8_eatsEnd_13 : decode cX8_eatsEnd 13 = .ok (.aload_n 0, 1) := by decide +kernel
theorem dX8_eatsEnd_14 : decode cX8_eatsEnd 14 = .ok (.getfield 239, 3) := by decide +kernel
theorem dX8_eatsEnd_17 : decode cX8_eatsEnd 17 = .ok (.if_icmp .ge 7, 3) := by decide +kernel
theorem dX8_eatsEnd_20 : decode cX8_eatsEnd 20 = .ok (.iconst 1, 1) := by decide +kernel
theorem dX8_eatsEnd_21 : decode cX8_eatsEnd 21 = .ok (.goto 4, 3) := by decide +kernel
theorem dX8_eatsEnd_24 : decode cX8_eatsEnd 24 = .ok (.iconst 0, 1) := by decide +kernel
theorem dX8_eatsEnd_25 : decode cX8_eatsEnd 25 = .ok (.istore_n 1, 1) := by decide +kernel
theorem dX8_eatsEnd_26 : decode cX8_eatsEnd 26 = .ok (.aload_n 0, 1) := by decide +kernel
theorem dX8_eatsEnd_27 : decode cX8_eatsEnd 27 = .ok (.dup, 1) := by decide +kernel
theorem dX8_eatsEnd_28 : decode cX8_eatsEnd 28 = .ok (.getfield 242, 3) := by decide +kernel
theorem dX8_eatsEnd_31 : decode cX8_eatsEnd 31 = .ok (.iload_n 1, 1) := by decide +kernel
theorem dX8_eatsEnd_32 : decode cX8_eatsEnd 32 = .ok (.ifCond .eq 7, 3) := by decide +kernel
theorem dX8_eatsEnd_35 : decode cX8_eatsEnd 35 = .ok (.iconst 1, 1) := by decide +kernel
theorem dX8_eatsEnd_36 : decode cX8_eatsEnd 36 = .ok (.goto 4, 3) := by decide +kernel
theorem dX8_eatsEnd_39 : decode cX8_eatsEnd 39 = .ok (.iconst 0, 1) := by decide +kernel
theorem dX8_eatsEnd_40 : decode cX8_eatsEnd 40 = .ok (.iadd, 1) := by decide +kernel
theorem dX8_eatsEnd_41 : decode cX8_eatsEnd 41 = .ok (.putfield 242, 3) := by decide +kernel
theorem dX8_eatsEnd_44 : decode cX8_eatsEnd 44 = .ok (.iload_n 1, 1) := by decide +kernel
theorem dX8_eatsEnd_45 : decode cX8_eatsEnd 45 = .ok (.ireturn, 1) := by decide +kernel
theorem dX8_read_0 : decode cX8_read 0 = .ok (.aload_n 0, 1) := by decide +kernel
theorem dX8_read_1 : decode cX8_read 1 = .ok (.iconst 0, 1) := by decide +kernel
theorem dX8_read_2 : decode cX8_read 2 = .ok (.putfield 242, 3) := by decide +kernel
theorem dX8_read_5 : decode cX8_read 5 = .ok (.aload_n 0, 1) := by decide +kernel
theorem dX8_read_6 : decode cX8_read 6 = .ok (.invokevirtual 264, 3) := by decide +kernel
theorem dX8_read_9 : decode cX8_read 9 = .ok (.istore_n 1, 1) := by decide +kernel
theorem dX8_read_10 : decode cX8_read 10 = .ok (.iload_n 1, 1) := by decide +kernel
theorem dX8_read_11 : decode cX8_read 11 = .ok (.ifCond .eq 18, 3) := by decide +kernel
theorem dX8_read_14 : decode cX8_read 14 = .ok (.aload_n 0, 1) := by decide +kernel
theorem dX8_read_15 : decode cX8_read 15 = .ok (.invokevirtual 268, 3) := by decide +kernel
theorem dX8_read_18 : decode cX8_read 18 = .ok (.ifCond .eq 11, 3) := by decide +kernel
theorem dX8_read_21 : decode cX8_read 21 = .ok (.aload_n 0, 1) := by decide +kernel
theorem dX8_read_22 : decode cX8_read 22 = .ok (.invokevirtual 264, 3) := by decide +kernel
theorem dX8_read_25 : decode cX8_read 25 = .ok (.istore_n 1, 1) := by decide +kernel
theorem dX8_read_26 : decode cX8_read 26 = .ok (.goto (-16), 3) := by decide +kernel
theorem dX8_read_29 : decode cX8_read 29 = .ok (.aload_n 0, 1) := by decide +kernel
theorem dX8_read_30 : decode cX8_read 30 = .ok (.getfield 242, 3) := by decide +kernel
theorem dX8_read_33 : decode cX8_read 33 = .ok (.istore_n 2, 1) := by decide +kernel
theorem dX8_read_34 : decode cX8_read 34 = .ok (.iload_n 1, 1) := by decide +kernel
theorem dX8_read_35 : decode cX8_read 35 = .ok (.ifCond .eq 14, 3) := by decide +kernel
theorem dX8_read_38 : decode cX8_read 38 = .ok (.aload_n 0, 1) := by decide +kernel
theorem dX8_read_39 : decode cX8_read 39 = .ok (.getfield 242, 3) := by decide +kernel
theorem dX8_read_42 : decode cX8_read 42 = .ok (.aload_n 0, 1) := by decide +kernel
theorem dX8_read_43 : decode cX8_read 43 = .ok (.getfield 239, 3) := by decide +kernel
theorem dX8_read_46 : decode cX8_read 46 = .ok (.if_icmp .ge 17, 3) := by decide +kernel
theorem dX8_read_49 : decode cX8_read 49 = .ok (.aload_n 0, 1) := by decide +kernel
theorem dX8_read_50 : decode cX8_read 50 = .ok (.iconst 0, 1) := by decide +kernel
theorem dX8_read_51 : decode cX8_read 51 = .ok (.putfield 239, 3) := by decide +kernel
theorem dX8_read_54 : decode cX8_read 54 = .ok (.aload_n 0, 1) := by decide +kernel
theorem dX8_read_55 : decode cX8_read 55 = .ok (.bipush (-100), 2) := by decide +kernel
theorem dX8_read_57 : decode cX8_read 57 = .ok (.iload_n 2, 1) := by decide +kernel
theorem dX8_read_58 : decode cX8_read 58 = .ok (.isub, 1) := by decide +kernel
theorem dX8_read_59 : decode cX8_read 59 = .ok (.invokevirtual 91, 3) := by decide +kernel
theorem dX8_read_62 : decode cX8_read 62 = .ok (.ireturn, 1) := by decide +kernel
theorem dX8_read_63 : decode cX8_read 63 = .ok (.aload_n 0, 1) := by decide +kernel
theorem dX8_read_64 : decode cX8_read 64 = .ok (.invokevirtual 84, 3) := by decide +kernel
theorem dX8_read_67 : decode cX8_read 67 = .ok (.aload_n 0, 1) := by decide +kernel
theorem dX8_read_68 : decode cX8_read 68 = .ok (.iconst 0, 1) := by decide +kernel
theorem dX8_read_69 : decode cX8_read 69 = .ok (.putfield 242, 3) := by decide +kernel
theorem dX8_read_72 : decode cX8_read 72 = .ok (.iconst 0, 1) := by decide +kernel
theorem dX8_read_73 : decode cX8_read 73 = .ok (.istore_n 3, 1) := by decide +kernel
theorem dX8_read_74 : decode cX8_read 74 = .ok (.iconst 1, 1) := by decide +kernel
theorem dX8_read_75 : decode cX8_read 75 = .ok (.istore 4, 2) := by decide +kernel
theorem dX8_read_77 : decode cX8_read 77 = .ok (.iload 4, 2) := by decide +kernel
theorem dX8_read_79 : decode cX8_read 79 = .ok (.ifCond .eq 48, 3) := by decide +kernel
theorem dX8_read_82 : decode cX8_read 82 = .ok (.aload_n 0, 1) := by decide +kernel
theorem dX8_read_83 : decode cX8_read 83 = .ok (.invokevirtual 264, 3) := by decide +kernel
theorem dX8_read_86 : decode cX8_read 86 = .ok (.istore_n 1, 1) := by decide +kernel
theorem dX8_read_87 : decode cX8_read 87 = .ok (.aload_n 0, 1) := by decide +kernel
theorem dX8_read_88 : decode cX8_read 88 = .ok (.invokevirtual 271, 3) := by decide +kernel
theorem dX8_read_91 : decode cX8_read 91 = .ok (.istore 5, 2) := by decide +kernel
theorem dX8_read_93 : decode cX8_read 93 = .ok (.aload_n 0, 1) := by decide +kernel
theorem dX8_read_94 : decode cX8_read 94 = .ok (.getfield 70, 3) := by decide +kernel
theorem dX8_read_97 : decode cX8_read 97 = .ok (.ifCond .eq 18, 3) := by decide +kernel
theorem dX8_read_100 : decode cX8_read 100 = .ok (.aload_n 0, 1) := by decide +kernel
theorem dX8_read_101 : decode cX8_read 101 = .ok (.invokevirtual 217, 3) := by decide +kernel
theorem dX8_read_104 : decode cX8_read 104 = .ok (.aload_n 0, 1) := by decide +kernel
theorem dX8_read_105 : decode cX8_read 105 = .ok (.iconst 0, 1) := by decide +kernel
theorem dX8_read_106 : decode cX8_read 106 = .ok (.putfield 239, 3) := by decide +kernel
theorem dX8_read_109 : decode cX8_read 109 = .ok (.aload_n 0, 1) := by decide +kernel
theorem dX8_read_110 : decode cX8_read 110 = .ok (.iconst 1, 1) := by decide +kernel
theorem dX8_read_111 : decode cX8_read 111 = .ok (.invokevirtual 87, 3) := by decide +kernel
theorem dX8_read_114 : decode cX8_read 114 = .ok (.ireturn, 1) := by decide +kernel
theorem dX8_read_115 : decode cX8_read 115 = .ok (.iinc 3 1, 3) := by decide +kernel
theorem dX8_read_118 : decode cX8_read 118 = .ok (.aload_n 0, 1) := by decide +kernel
theorem dX8_read_119 : decode cX8_read 119 = .ok (.invokevirtual 268, 3) := by decide +kernel
theorem dX8_read_122 : decode cX8_read 122 = .ok (.istore 4, 2) := by decide +kernel
theorem dX8_read_124 : decode cX8_read 124 = .ok (.goto (-47), 3) := by decide +kernel
theorem dX8_read_127 : decode cX8_read 127 = .ok (.aload_n 0, 1) := by decide +kernel
theorem dX8_read_128 : decode cX8_read 128 = .ok (.iconst 0, 1) := by decide +kernel
theorem dX8_read_129 : decode cX8_read 129 = .ok (.putfield 239, 3) := by decide +kernel
theorem dX8_read_132 : decode cX8_read 132 = .ok (.aload_n 0, 1) := by decide +kernel
theorem dX8_read_133 : decode cX8_read 133 = .ok (.aload_n 0, 1) := by decide +kernel
theorem dX8_read_134 : decode cX8_read 134 = .ok (.iload_n 3, 1) := by decide +kernel
theorem dX8_read_135 : decode cX8_read 135 = .ok (.invokevirtual 91, 3) := by decide +kernel
theorem dX8_read_138 : decode cX8_read 138 = .ok (.invokevirtual 94, 3) := by decide +kernel
theorem dX8_read_141 : decode cX8_read 141 = .ok (.ireturn, 1) := by decide +kernel
theorem dX8_undo_0 : decode cX8_undo 0 = .ok (.aload_n 0, 1) := by decide +kernel
theorem dX8_undo_1 : decode cX8_undo 1 = .ok (.getfield 78, 3) := by decide +kernel
theorem dX8_undo_4 : decode cX8_undo 4 = .ok (.ifCond .ne 9, 3) := by decide +kernel
theorem dX8_undo_7 : decode cX8_undo 7 = .ok (.aload_n 0, 1) := by decide +kernel
theorem dX8_undo_8 : decode cX8_undo 8 = .ok (.iconst 1, 1) := by decide +kernel
theorem dX8_undo_9 : decode cX8_undo 9 = .ok (.invokevirtual 87, 3) := by decide +kernel
theorem dX8_undo_12 : decode cX8_undo 12 = .ok (.ireturn, 1) := by decide +kernel
theorem dX8_undo_13 : decode cX8_undo 13 = .ok (.aload_n 0, 1) := by decide +kernel
theorem dX8_undo_14 : decode cX8_undo 14 = .ok (.dup, 1) := by decide +kernel
theorem dX8_undo_15 : decode cX8_undo 15 = .ok (.getfield 78, 3) := by decide +kernel
theorem dX8_undo_18 : decode cX8_undo 18 = .ok (.iconst 1, 1) := by decide +kernel
theorem dX8_undo_19 : decode cX8_undo 19 = .ok (.isub, 1) := by decide +kernel
theorem dX8_undo_20 : decode cX8_undo 20 = .ok (.putfield 78, 3) := by decide +kernel
theorem dX8_undo_23 : decode cX8_undo 23 = .ok (.iconst 0, 1) := by decide +kernel
theorem dX8_undo_24 : decode cX8_undo 24 = .ok (.istore_n 1, 1) := by decide +kernel
theorem dX8_undo_25 : decode cX8_undo 25 = .ok (.iload_n 1, 1) := by decide +kernel
theorem dX8_undo_26 : decode cX8_undo 26 = .ok (.bipush 113, 2) := by decide +kernel
theorem dX8_undo_28 : decode cX8_undo 28 = .ok (.if_icmp .ge 29, 3) := by decide +kernel
theorem dX8_undo_31 : decode cX8_undo 31 = .ok (.aload_n 0, 1) := by decide +kernel
theorem dX8_undo_32 : decode cX8_undo 32 = .ok (.getfield 7, 3) := by decide +kernel
theorem dX8_undo_35 : decode cX8_undo 35 = .ok (.iload_n 1, 1) := by decide +kernel
theorem dX8_undo_36 : decode cX8_undo 36 = .ok (.aload_n 0, 1) := by decide +kernel
theorem dX8_undo_37 : decode cX8_undo 37 = .ok (.getfield 16, 3) := by decide +kernel
theorem dX8_undo_40 : decode cX8_undo 40 = .ok (.bipush 113, 2) := by decide +kernel
theorem dX8_undo_42 : decode cX8_undo 42 = .ok (.aload_n 0, 1) := by decide +kernel
theorem dX8_undo_43 : decode cX8_undo 43 = .ok (.getfield 78, 3) := by decide +kernel
theorem dX8_undo_46 : decode cX8_undo 46 = .ok (.imul, 1) := by decide +kernel
theorem dX8_undo_47 : decode cX8_undo 47 = .ok (.iload_n 1, 1) := by decide +kernel
theorem dX8_undo_48 : decode cX8_undo 48 = .ok (.iadd, 1) := by decide +kernel
theorem dX8_undo_49 : decode cX8_undo 49 = .ok (.iaload, 1) := by decide +kernel
theorem dX8_undo_50 : decode cX8_undo 50 = .ok (.iastore, 1) := by decide +kernel
theorem dX8_undo_51 : decode cX8_undo 51 = .ok (.iinc 1 1, 3) := by decide +kernel
theorem dX8_undo_54 : decode cX8_undo 54 = .ok (.goto (-29), 3) := by decide +kernel
theorem dX8_undo_57 : decode cX8_undo 57 = .ok (.aload_n 0, 1) := by decide +kernel
theorem dX8_undo_58 : decode cX8_undo 58 = .ok (.aload_n 0, 1) := by decide +kernel
theorem dX8_undo_59 : decode cX8_undo 59 = .ok (.getfield 78, 3) := by decide +kernel
theorem dX8_undo_62 : decode cX8_undo 62 = .ok (.invokevirtual 91, 3) := by decide +kernel
theorem dX8_undo_65 : decode cX8_undo 65 = .ok (.ireturn, 1) := by decide +kernel
theorem dX8_save_0 : decode cX8_save 0 = .ok (.aload_n 0, 1) := by decide +kernel
theorem dX8_save_1 : decode cX8_save 1 = .ok (.iconst 1, 1) := by decide +kernel
theorem dX8_save_2 : decode cX8_save 2 = .ok (.putfield 274, 3) := by decide +kernel
theorem dX8_save_5 : decode cX8_save 5 = .ok (.iconst 0, 1) := by decide +kernel
theorem dX8_save_6 : decode cX8_save 6 = .ok (.istore_n 1, 1) := by decide +kernel
theorem dX8_save_7 : decode cX8_save 7 = .ok (.iload_n 1, 1) := by decide +kernel
theorem dX8_save_8 : decode cX8_save 8 = .ok (.bipush 113, 2) := by decide +kernel
theorem dX8_save_10 : decode cX8_save 10 = .ok (.if_icmp .ge 21, 3) := by decide +kernel
theorem dX8_save_13 : decode cX8_save 13 = .ok (.aload_n 0, 1) := by decide +kernel
theorem dX8_save_14 : decode cX8_save 14 = .ok (.getfield 19, 3) := by decide +kernel
theorem dX8_save_17 : decode cX8_save 17 = .ok (.iload_n 1, 1) := by decide +kernel
theorem dX8_save_18 : decode cX8_save 18 = .ok (.aload_n 0, 1) := by decide +kernel
theorem dX8_save_19 : decode cX8_save 19 = .ok (.getfield 7, 3) := by decide +kernel
theorem dX8_save_22 : decode cX8_save 22 = .ok (.iload_n 1, 1) := by decide +kernel
theorem dX8_save_23 : decode cX8_save 23 = .ok (.iaload, 1) := by decide +kernel
theorem dX8_save_24 : decode cX8_save 24 = .ok (.iastore, 1) := by decide +kernel
theorem dX8_save_25 : decode cX8_save 25 = .ok (.iinc 1 1, 3) := by decide +kernel
theorem dX8_save_28 : decode cX8_save 28 = .ok (.goto (-21), 3) := by decide +kernel
theorem dX8_save_31 : decode cX8_save 31 = .ok (.aload_n 0, 1) := by decide +kernel
theorem dX8_save_32 : decode cX8_save 32 = .ok (.aload_n 0, 1) := by decide +kernel
theorem dX8_save_33 : decode cX8_save 33 = .ok (.getfield 7, 3) := by decide +kernel
theorem dX8_save_36 : decode cX8_save 36 = .ok (.bipush 16, 2) := by decide +kernel
theorem dX8_save_38 : decode cX8_save 38 = .ok (.iaload, 1) := by decide +kernel
theorem dX8_save_39 : decode cX8_save 39 = .ok (.invokevirtual 91, 3) := by decide +kernel
theorem dX8_save_42 : decode cX8_save 42 = .ok (.ireturn, 1) := by decide +kernel
theorem dX8_restore_0 : decode cX8_restore 0 = .ok (.aload_n 0, 1) := by decide +kernel
theorem dX8_restore_1 : decode cX8_restore 1 = .ok (.getfield 274, 3) := by decide +kernel
theorem dX8_restore_4 : decode cX8_restore 4 = .ok (.ifCond .ne 9, 3) := by decide +kernel
theorem dX8_restore_7 : decode cX8_restore 7 = .ok (.aload_n 0, 1) := by decide +kernel
theorem dX8_restore_8 : decode cX8_restore 8 = .ok (.iconst 1, 1) := by decide +kernel
theorem dX8_restore_9 : decode cX8_restore 9 = .ok (.invokevirtual 87, 3) := by decide +kernel
theorem dX8_restore_12 : decode cX8_restore 12 = .ok (.ireturn, 1) := by decide +kernel
theorem dX8_restore_13 : decode cX8_restore 13 = .ok (.iconst 0, 1) := by decide +kernel
theorem dX8_restore_14 : decode cX8_restore 14 = .ok (.istore_n 1, 1) := by decide +kernel
theorem dX8_restore_15 : decode cX8_restore 15 = .ok (.iload_n 1, 1) := by decide +kernel
theorem dX8_restore_16 : decode cX8_restore 16 = .ok (.bipush 113, 2) := by decide +kernel
theorem dX8_restore_18 : decode cX8_restore 18 = .ok (.if_icmp .ge 21, 3) := by decide +kernel
theorem dX8_restore_21 : decode cX8_restore 21 = .ok (.aload_n 0, 1) := by decide +kernel
theorem dX8_restore_22 : decode cX8_restore 22 = .ok (.getfield 7, 3) := by decide +kernel
theorem dX8_restore_25 : decode cX8_restore 25 = .ok (.iload_n 1, 1) := by decide +kernel
theorem dX8_restore_26 : decode cX8_restore 26 = .ok (.aload_n 0, 1) := by decide +kernel
theorem dX8_restore_27 : decode cX8_restore 27 = .ok (.getfield 19, 3) := by decide +kernel
theorem dX8_restore_30 : decode cX8_restore 30 = .ok (.iload_n 1, 1) := by decide +kernel
theorem dX8_restore_31 : decode cX8_restore 31 = .ok (.iaload, 1) := by decide +kernel
theorem dX8_restore_32 : decode cX8_restore 32 = .ok (.iastore, 1) := by decide +kernel
theorem dX8_restore_33 : decode cX8_restore 33 = .ok (.iinc 1 1, 3) := by decide +kernel
theorem dX8_restore_36 : decode cX8_restore 36 = .ok (.goto (-21), 3) := by decide +kernel
theorem dX8_restore_39 : decode cX8_restore 39 = .ok (.aload_n 0, 1) := by decide +kernel
theorem dX8_restore_40 : decode cX8_restore 40 = .ok (.iconst 0, 1) := by decide +kernel
theorem dX8_restore_41 : decode cX8_restore 41 = .ok (.putfield 78, 3) := by decide +kernel
theorem dX8_restore_44 : decode cX8_restore 44 = .ok (.aload_n 0, 1) := by decide +kernel
theorem dX8_restore_45 : decode cX8_restore 45 = .ok (.aload_n 0, 1) := by decide +kernel
theorem dX8_restore_46 : decode cX8_restore 46 = .ok (.getfield 7, 3) := by decide +kernel
theorem dX8_restore_49 : decode cX8_restore 49 = .ok (.bipush 16, 2) := by decide +kernel
theorem dX8_restore_51 : decode cX8_restore 51 = .ok (.iaload, 1) := by decide +kernel
theorem dX8_restore_52 : decode cX8_restore 52 = .ok (.invokevirtual 91, 3) := by decide +kernel
theorem dX8_restore_55 : decode cX8_restore 55 = .ok (.ireturn, 1) := by decide +kernel
end
section
/-! THE FRAME: abstract heap with places in place of addresses; AW: from here the method comes to an end with Φ -/
abbrev ae : Type := (Nat × vp_A) ⊕ (Nat × List Value)
abbrev ah : Type := Nat → Option ae
def cv (ad : Nat → Nat) (v : Value) : Value := match v with
  | .ref i => .ref (ad i)
  | w => w
def cvs (ad : Nat → Nat) (l : List Value) : List Value := l.map (cv ad)
def cvl (ad : Nat → Nat) (l : List (Nat × Value)) : List (Nat × Value) := l.map (fun q => (q.1, cv ad q.2))
def cA (ad : Nat → Nat) (x : vp_A) : vp_A := match x with
  | (n, .inr (.inr (.inr (.inr f)))) => (n, .inr (.inr (.inr (.inr (fun j => (f j).map ad)))))
  | y => y
def ce (ty : Nat → ClassId) (ad : Nat → Nat) (x : ae) : va_E := match x with
  | .inl (t, a) => .inl (ty t, cA ad a)
  | .inr (c, vs) => .inr (c, vs.map (cv ad))
theorem cv_cat (ad : Nat → Nat) (v : Value) : (cv ad v).category = v.category := by cases v <;> rfl
theorem cvs_cat (ad : Nat → Nat) (l : List Value) : ((cvs ad l).map fun v => v.category) = l.map fun v => v.category := by
  induction l with
  | nil => rfl
  | cons a l ih => simp only [cvs, List.map_cons, List.map_map] at ih ⊢; rw [cv_cat]; simp [cv_cat]
def kcl : List vw_C := [(RX0, TX0, 0), (RX1, TX1, 3), (RX2, TX2, 5), (RX3, TX3, 8), (RX4, TX4, 13), (RX5, TX5, 2), (RX6, TX6, 8), (RX7, TX7, 8), (RX8, TX8, 22)]
def ktl : List FieldType := [.int, .long, .boolean, .char, .double, .object RX4, .object "java/lang/String"]
def ktys (ty : Nat → ClassId) : List (ClassId × FieldType) := [(ty 0, .int), (ty 1, .long), (ty 2, .boolean), (ty 3, .char), (ty 4, .double), (ty 5, .object RX4), (ty 6, .object "java/lang/String")]
theorem ktys_get {ty : Nat → ClassId} {t : Nat} {f : FieldType} (h : ktl[t]? = some f) : (ktys ty)[t]? = some (ty t, f) := by
  match t, h with
  | 0, h => cases h; rfl
  | 1, h => cases h; rfl
  | 2, h => cases h; rfl
  | 3, h => cases h; rfl
  | 4, h => cases h; rfl
  | 5, h => cases h; rfl
  | 6, h => cases h; rfl
  | n + 7, h => simp [ktl] at h
abbrev KK (D : va_G) (ty : Nat → ClassId) (U : State) : Prop := va_K D kcl (ktys ty) U
/-- the constants that are known by place 200 and on -/
def kct : List Term := [.static RX0 "TASK" "LLineBalancer$Command;", .static RX0 "BEFORE" "LLineBalancer$Command;", .static RX0 "APART" "LLineBalancer$Command;", .static RX0 "TOGETHER" "LLineBalancer$Command;", .static RX0 "PUT" "LLineBalancer$Command;", .static RX0 "CYCLE" "LLineBalancer$Command;", .static RX7 "COMMANDS" "[LLineBalancer$Command;", .static RX7 "LOWEST_RULES" "[I", .static RX7 "HIGHEST_RULES" "[I", .string RX8 54, .string RX8 56, .string RX8 58, .string RX8 60, .string RX8 62, .string RX8 64, .string RX0 50, .string RX0 56, .string RX0 59, .string RX0 62, .string RX0 65, .string RX0 68]
def CF (D : va_G) (U : State) (H0 : Heap) : Prop := ∃ (s0 : State) (b : Addr), s0.heap = H0 ∧ s0.WarmedH U.vm ∧ (∀ w ∈ lw_tbl, w.before #[Value.ref b] s0 = true) ∧ (Jvm.Cond.and given_1 narrow_1).before #[Value.ref b] s0 = true ∧ ∀ (k : Nat) (t : Term), kct[k]? = some t → t.eval #[Value.ref b] s0 none [] s0 = some (.ref (D.1 (200 + k)))
theorem CF.word {D : va_G} {U : State} {H0 : Heap} (h : CF D U H0) {w : Cond} (hw : w ∈ lw_tbl) (hg : goodWord w = true) (a : Array Value) : w.before a U = true := by
  obtain ⟨s0, b, -, hW, hts, -⟩ := h
  exact word_at hW (good_of_word hg) (hts w hw)
theorem CF.warm {D : va_G} {U V : State} {H0 : Heap} (h : CF D U H0) (hW : U.WarmedH V.vm) : CF D V H0 := by
  obtain ⟨s0, b, h0, hW0, hts, hn⟩ := h
  exact ⟨s0, b, h0, State.WarmedH.trans hW0 hW, hts, hn⟩
def Rep (H0 : Heap) (D : va_G) (ty : Nat → ClassId) (ad : Nat → Nat) (h : ah) (H : Heap) : Prop :=
  (∀ i x, h i = some x → va_at D kcl (ad i, ce ty ad x) H ∧ H0.size ≤ ad i) ∧ (∀ i j x y, h i = some x → h j = some y → ad i = ad j → i = j) ∧ H0.size ≤ H.size ∧ (∀ q : Nat, q < H0.size → H[q]? = H0[q]?) ∧ ∀ k : Nat, 200 ≤ k → ad k = D.1 k
/-- one place is written: the others stay -/
def uph (h : ah) (i : Nat) (x : ae) : ah := fun j => if j = i then some x else h j
theorem uph_same (h : ah) (i : Nat) (x : ae) : uph h i x i = some x := by simp [uph]
theorem uph_ne (h : ah) {i j : Nat} (x : ae) (hj : j ≠ i) : uph h i x j = h j := by simp [uph, hj]
theorem Rep.set {H0 : Heap} {D : va_G} {ty : Nat → ClassId} {ad : Nat → Nat} {h : ah} {H H1 : Heap} (hR : Rep H0 D ty ad h H) {i : Nat} {x0 x : ae} (hi : h i = some x0) (hx : va_at D kcl (ad i, ce ty ad x) H1) (hz : H1.size = H.size) (oq : ∀ q : Nat, q ≠ ad i → H1[q]? = H[q]?) : Rep H0 D ty ad (uph h i x) H1 := by
  obtain ⟨h1, h2, h3, h4, h5⟩ := hR
  have key : ∀ j y, uph h i x j = some y → ∃ y0, h j = some y0 := by
    intro j y hj
    by_cases e : j = i
    · exact ⟨x0, by rw [e]; exact hi⟩
    · exact ⟨y, by rw [uph_ne h x e] at hj; exact hj⟩
  refine ⟨fun j y hj => ?_, fun j k y z hj hk e => ?_, by omega, fun q hq => ?_, h5⟩
  · by_cases e : j = i
    · subst e
      rw [uph_same] at hj
      cases hj
      exact ⟨hx, (h1 j x0 hi).2⟩
    · rw [uph_ne h x e] at hj
      exact ⟨(h1 j y hj).1.kept (oq _ (fun z => e (h2 j i y x0 hj hi z))), (h1 j y hj).2⟩
  · obtain ⟨y0, hy0⟩ := key j y hj
    obtain ⟨z0, hz0⟩ := key k z hk
    exact h2 j k y0 z0 hy0 hz0 e
  · rw [oq q (fun e => by have := (h1 i x0 hi).2; omega)]
    exact h4 q hq
/-- the addresses may move where nothing lies yet -/
def agr (h : ah) (ad ad' : Nat → Nat) : Prop := ∀ i x, h i = some x → ad' i = ad i
abbrev Rs : Type := Option Value ⊕ String
abbrev MI : Type := MethodName × ByteArray × Nat × Option FieldType × List (Nat × Nat × Nat × Nat)
abbrev fre (H0 : Heap) : Addr → Prop := fun q => H0.size ≤ q
def Gd (M : MI) (dep : Nat) (p : Program) (l : Launch) (R : Room) (s : State) (m : MethodId) (meth : Method) (c : Code) (H0 : Heap) (D : va_G) (ty : Nat → ClassId) (mc ms : Nat) : Prop :=
  p.tables.exec = Jvm.exec ∧ c.code = M.2.1 ∧ l.stackTraces = false ∧ c.maxLocals = M.2.2.1 ∧ meth.sig.returnType = M.2.2.2.1 ∧ meth.locks = false ∧ meth.name = M.1.name ∧ s.vm.findClass M.1.cls = some m.cls ∧ KK D ty s ∧ CF D s H0 ∧
  dep ≤ R.frames ∧ 60 * dep ≤ R.locals ∧ mc ≤ R.cells ∧ ms ≤ R.slots ∧ H0.size ≤ s.heap.size ∧ c.exceptionTable.toList = tableOf M.2.2.2.2
/-- what the end must give: Qc, XC of the method's own contract follow from Φ -/
def Qok (fx : Bool) (Φ : Rs → ah → Prop) (h : ah) (args : Array Value) (s : State) (H0 : Heap) (D : va_G) (ty : Nat → ClassId) (ad : Nat → Nat) (Qc : Array Value → State → Outcome → State → Prop) (XC : String → State → State → Prop) : Prop :=
  (∀ (v : Option Value) (h' : ah) (ad' : Nat → Nat) (t : State), (fx = true → ad' = ad) → agr h ad ad' → Φ (.inl v) h' → Rep H0 D ty ad' h' t.heap → s.heap.size ≤ t.heap.size → s.vm.Alike t.vm → Qc args s (.returned (v.map (cv ad'))) t) ∧
  (∀ (E : String) (h' : ah) (ad' : Nat → Nat) (t : State), (fx = true → ad' = ad) → agr h ad ad' → Φ (.inr E) h' → Rep H0 D ty ad' h' t.heap → s.heap.size ≤ t.heap.size → s.vm.Alike t.vm → XC E s t)
def AK (M : MI) (dep : Nat) (fx : Bool) (Φ : Rs → ah → Prop) (k n : Nat) (h : ah) (p : Program) (l : Launch) (R : Room) (s : State) (m : MethodId) (args : Array Value) (meth : Method) (c : Code) (H0 : Heap) (D : va_G) (ty : Nat → ClassId) (ad : Nat → Nat) (mc ms : Nat) (H : Heap) (locs : List Loc) (cells slots : Nat) (Qc : Array Value → State → Outcome → State → Prop) (XC : String → State → State → Prop) : Prop :=
  Gd M dep p l R s m meth c H0 D ty mc ms ∧ cells + k ≤ mc ∧ slots + n ≤ ms ∧ Rep H0 D ty ad h H ∧ va_S (fre H0) s.heap H locs ∧ Qok fx Φ h args s H0 D ty ad Qc XC
def AW (M : MI) (dep : Nat) (fx : Bool) (Φ : Rs → ah → Prop) (k n pc : Nat) (lv : List (Nat × Value)) (st : List Value) (h : ah) : Prop :=
  ∀ (p : Program) (l : Launch) (e : Env) (R : Room) (s : State) (m : MethodId) (args : Array Value) (below : List Frame) (meth : Method) (c : Code) (H0 : Heap) (D : va_G) (ty : Nat → ClassId) (ad : Nat → Nat) (mc ms : Nat) (H : Heap) (locs : List Loc) (cells slots : Nat) (Qc : Array Value → State → Outcome → State → Prop) (XC : String → State → State → Prop) (ls : Array Slot),
    AK M dep fx Φ k n h p l R s m args meth c H0 D ty ad mc ms H locs cells slots Qc XC → lv_has ls M.2.2.1 (cvl ad lv) →
    W p l e R s m args below meth c H locs cells slots (vx_MQ below Qc XC args s mc ms (fre H0)) (F0 m pc ls (cvs ad st))
section AWR
variable {M : MI} {dep : Nat} {fx : Bool} {Φ : Rs → ah → Prop} {k n pc : Nat} {lv : List (Nat × Value)} {st : List Value} {h : ah}
/-- a row that leaves the heap and the locals alone -/
theorem AW.pure {pc' : Nat} {st st' : List Value} (f : ∀ (p : Program) (l : Launch) (e : Env) (R : Room) (s : State) (m : MethodId) (args : Array Value) (below : List Frame) (meth : Method) (c : Code) (H : Heap) (locs : List Loc) (cells slots : Nat) (Q : State → Prop) (ls : Array Slot) (ad : Nat → Nat), p.tables.exec = Jvm.exec → c.code = M.2.1 → lv_has ls M.2.2.1 (cvl ad lv) → W p l e R s m args below meth c H locs cells slots Q (F0 m pc' ls (cvs ad st')) → W p l e R s m args below meth c H locs cells slots Q (F0 m pc ls (cvs ad st)))
    (kk : AW M dep fx Φ k n pc' lv st' h) : AW M dep fx Φ k n pc lv st h := by
  intro p l e R s m args below meth c H0 D ty ad mc ms H locs cells slots Qc XC ls G hl
  exact f p l e R s m args below meth c H locs cells slots _ ls ad G.1.1 G.1.2.1 hl (kk p l e R s m args below meth c H0 D ty ad mc ms H locs cells slots Qc XC ls G hl)
def lget : List (Nat × Value) → Nat → Option Value
  | [], _ => none
  | q :: l, i => bif Nat.beq q.1 i then some q.2 else lget l i
theorem lget_has {ls : Array Slot} {nL : Nat} {ad : Nat → Nat} {i : Nat} {v : Value} {lv : List (Nat × Value)} (hl : lv_has ls nL (cvl ad lv)) (hg : lget lv i = some v) : ls[i]? = some (.val (cv ad v)) := by
  have key : ∀ (l : List (Nat × Value)), lget l i = some v → (i, v) ∈ l := by
    intro l
    induction l with
    | nil => intro h; cases h
    | cons q l ih =>
      intro h
      unfold lget at h
      cases hb : Nat.beq q.1 i with
      | true =>
        rw [hb] at h
        have e : q.1 = i := Nat.eq_of_beq_eq_true hb
        cases h
        rw [← e]
        exact List.mem_cons_self
      | false =>
        rw [hb] at h
        exact List.mem_cons_of_mem _ (ih h)
  exact hl.2.2 (i, cv ad v) (List.mem_map.mpr ⟨(i, v), key lv hg, rfl⟩)
def su (i : Nat) (v : Value) : List (Nat × Value) → List (Nat × Value)
  | [] => [(i, v)]
  | q :: l => bif Nat.beq q.1 i then (i, v) :: l else bif Nat.ble i q.1 then (i, v) :: q :: l else q :: su i v l
/-- sorted, and no wide value lies just below i -/
def sok (i : Nat) : List (Nat × Value) → Bool
  | [] => true
  | q :: l => (l.all (fun r => Nat.blt q.1 r.1)) && !(Nat.beq (q.1 + 1) i && Nat.beq q.2.category 2) && sok i l
/-- .. and for a wide value nothing lies just above -/
def sok2 (i : Nat) : List (Nat × Value) → Bool
  | [] => true
  | q :: l => !(Nat.beq q.1 (i + 1)) && sok2 i l
theorem su_mem {i : Nat} {v : Value} : ∀ {lv : List (Nat × Value)}, sok i lv = true → ∀ q ∈ su i v lv, q = (i, v) ∨ (q ∈ lv ∧ q.1 ≠ i ∧ ¬ (q.1 + 1 = i ∧ q.2.category = 2)) := by
  intro lv
  induction lv with
  | nil => intro _ q hq; simp [su] at hq; exact Or.inl hq
  | cons a l ih =>
    intro hs q hq
    simp only [sok, Bool.and_eq_true, Bool.not_eq_true', Bool.and_eq_false_imp] at hs
    obtain ⟨⟨h1, h2⟩, h3⟩ := hs
    have hlt : ∀ r ∈ l, a.1 < r.1 := by
      intro r hr
      have := List.all_eq_true.mp h1 r hr
      simpa [Nat.blt_eq] using this
    have hcat : ∀ r : Nat × Value, r ∈ a :: l → ¬ (r.1 + 1 = i ∧ r.2.category = 2) := by
      have : ∀ (l : List (Nat × Value)), sok i l = true → ∀ r ∈ l, ¬ (r.1 + 1 = i ∧ r.2.category = 2) := by
        intro l
        induction l with
        | nil => intro _ r hr; cases hr
        | cons b l ih2 =>
          intro hs r hr
          simp only [sok, Bool.and_eq_true, Bool.not_eq_true', Bool.and_eq_false_imp] at hs
          rcases List.mem_cons.mp hr with e | e
          · rintro ⟨g1, g2⟩
            have := hs.1.2 (by rw [← e, g1]; exact Nat.beq_refl _)
            rw [← e, g2] at this
            exact absurd this (by decide)
          · exact ih2 hs.2 r e
      intro r hr
      rcases List.mem_cons.mp hr with e | e
      · rintro ⟨g1, g2⟩
        have := h2 (by rw [← e, g1]; exact Nat.beq_refl _)
        rw [← e, g2] at this
        exact absurd this (by decide)
      · exact this l h3 r e
    unfold su at hq
    cases hb : Nat.beq a.1 i with
    | true =>
      rw [hb] at hq
      have e : a.1 = i := Nat.eq_of_beq_eq_true hb
      rcases List.mem_cons.mp hq with g | g
      · exact Or.inl g
      · exact Or.inr ⟨List.mem_cons_of_mem _ g, by have := hlt q g; omega, hcat q (List.mem_cons_of_mem _ g)⟩
    | false =>
      rw [hb] at hq
      have e : a.1 ≠ i := Nat.ne_of_beq_eq_false hb
      cases hb2 : Nat.ble i a.1 with
      | true =>
        rw [hb2] at hq
        have e2 : i ≤ a.1 := Nat.le_of_ble_eq_true hb2
        rcases List.mem_cons.mp hq with g | g
        · exact Or.inl g
        · refine Or.inr ⟨g, ?_, hcat q g⟩
          rcases List.mem_cons.mp g with g2 | g2
          · rw [g2]; exact e
          · have := hlt q g2; omega
      | false =>
        rw [hb2] at hq
        rcases List.mem_cons.mp hq with g | g
        · exact Or.inr ⟨by rw [g]; exact List.mem_cons_self, by rw [g]; exact e, hcat q (by rw [g]; exact List.mem_cons_self)⟩
        · rcases ih h3 q g with g2 | ⟨g2, g3⟩
          · exact Or.inl g2
          · exact Or.inr ⟨List.mem_cons_of_mem _ g2, g3⟩
theorem su_has1 {ls' : Array Slot} {nL i : Nat} {ad : Nat → Nat} {v : Value} {lv : List (Nat × Value)} (hs : sok i lv = true) (h : lv_has ls' nL ((i, cv ad v) :: (cvl ad lv).filter (fun q => !(q.1 == i) && !(q.1 + 1 == i && q.2.category == 2)))) : lv_has ls' nL (cvl ad (su i v lv)) := by
  obtain ⟨h1, h2, h3⟩ := h
  refine ⟨h1, h2, fun q hq => ?_⟩
  obtain ⟨r, hr, rfl⟩ := List.mem_map.mp hq
  rcases su_mem hs r hr with e | ⟨g1, g2, g3⟩
  · rw [e]
    exact h3 _ List.mem_cons_self
  · refine h3 _ (List.mem_cons_of_mem _ (List.mem_filter.mpr ⟨List.mem_map.mpr ⟨r, g1, rfl⟩, ?_⟩))
    simp only [cv_cat, Bool.and_eq_true, Bool.not_eq_true', Bool.and_eq_false_imp, beq_iff_eq, beq_eq_false_iff_ne]
    exact ⟨g2, fun a b => g3 ⟨a, b⟩⟩
theorem sok2_mem {i : Nat} : ∀ {lv : List (Nat × Value)}, sok2 i lv = true → ∀ q ∈ lv, q.1 ≠ i + 1 := by
  intro lv
  induction lv with
  | nil => intro _ q hq; cases hq
  | cons a l ih =>
    intro hs q hq
    simp only [sok2, Bool.and_eq_true, Bool.not_eq_true'] at hs
    rcases List.mem_cons.mp hq with g | g
    · rw [g]; exact Nat.ne_of_beq_eq_false hs.1
    · exact ih hs.2 q g
theorem su_has2 {ls' : Array Slot} {nL i : Nat} {ad : Nat → Nat} {v : Value} {lv : List (Nat × Value)} (hs : sok i lv = true) (hs2 : sok2 i lv = true) (h : lv_has ls' nL ((i, cv ad v) :: (cvl ad lv).filter (fun q => !(q.1 == i) && (!(q.1 == i + 1) && !(q.1 + 1 == i && q.2.category == 2))))) : lv_has ls' nL (cvl ad (su i v lv)) := by
  obtain ⟨h1, h2, h3⟩ := h
  refine ⟨h1, h2, fun q hq => ?_⟩
  obtain ⟨r, hr, rfl⟩ := List.mem_map.mp hq
  rcases su_mem hs r hr with e | ⟨g1, g2, g3⟩
  · rw [e]
    exact h3 _ List.mem_cons_self
  · refine h3 _ (List.mem_cons_of_mem _ (List.mem_filter.mpr ⟨List.mem_map.mpr ⟨r, g1, rfl⟩, ?_⟩))
    simp only [cv_cat, Bool.and_eq_true, Bool.not_eq_true', Bool.and_eq_false_imp, beq_iff_eq, beq_eq_false_iff_ne]
    exact ⟨g2, sok2_mem hs2 r g1, fun a b => g3 ⟨a, b⟩⟩
/-- a row that writes a local -/
theorem AW.stor {pc' : Nat} {st st' : List Value} {lv' : List (Nat × Value)} (f : ∀ (p : Program) (l : Launch) (e : Env) (R : Room) (s : State) (m : MethodId) (args : Array Value) (below : List Frame) (meth : Method) (c : Code) (H : Heap) (locs : List Loc) (cells slots : Nat) (Q : State → Prop) (ls : Array Slot) (ad : Nat → Nat), p.tables.exec = Jvm.exec → c.code = M.2.1 → lv_has ls M.2.2.1 (cvl ad lv) → (∀ ls' : Array Slot, lv_has ls' M.2.2.1 (cvl ad lv') → W p l e R s m args below meth c H locs cells slots Q (F0 m pc' ls' (cvs ad st'))) → W p l e R s m args below meth c H locs cells slots Q (F0 m pc ls (cvs ad st)))
    (kk : AW M dep fx Φ k n pc' lv' st' h) : AW M dep fx Φ k n pc lv st h := by
  intro p l e R s m args below meth c H0 D ty ad mc ms H locs cells slots Qc XC ls G hl
  exact f p l e R s m args below meth c H locs cells slots _ ls ad G.1.1 G.1.2.1 hl (fun ls' hl' => kk p l e R s m args below meth c H0 D ty ad mc ms H locs cells slots Qc XC ls' G hl')
theorem aw_pick (ks : List Nat) (kk : AW M dep fx Φ k n pc (lv_pick lv ks) st h) : AW M dep fx Φ k n pc lv st h := by
  refine AW.stor (fun p l e R s m args below meth c H locs cells slots Q ls ad hx hb hl g => g ls ?_) kk
  refine ⟨hl.1, hl.2.1, fun q hq => ?_⟩
  obtain ⟨r, hr, rfl⟩ := List.mem_map.mp hq
  obtain ⟨i, -, hi⟩ := List.mem_filterMap.mp hr
  exact hl.2.2 _ (List.mem_map.mpr ⟨r, List.mem_of_getElem? hi, rfl⟩)
theorem aw_more {k' n' : Nat} (hk : k' ≤ k) (hn : n' ≤ n) (kk : AW M dep fx Φ k' n' pc lv st h) : AW M dep fx Φ k n pc lv st h := by
  intro p l e R s m args below meth c H0 D ty ad mc ms H locs cells slots Qc XC ls G hl
  obtain ⟨g1, g2, g3, g4⟩ := G
  exact kk p l e R s m args below meth c H0 D ty ad mc ms H locs cells slots Qc XC ls ⟨g1, by omega, by omega, g4⟩ hl
theorem aw_dep {dep' : Nat} (hd : dep' ≤ dep) (kk : AW M dep' fx Φ k n pc lv st h) : AW M dep fx Φ k n pc lv st h := by
  intro p l e R s m args below meth c H0 D ty ad mc ms H locs cells slots Qc XC ls G hl
  obtain ⟨⟨a1, a2, a3, a4, a5, a6, a7, a8, a9, a10, a11, a12, a13⟩, g2⟩ := G
  exact kk p l e R s m args below meth c H0 D ty ad mc ms H locs cells slots Qc XC ls ⟨⟨a1, a2, a3, a4, a5, a6, a7, a8, a9, a10, by omega, by omega, a13⟩, g2⟩ hl
theorem aw_post {Φ' : Rs → ah → Prop} (hi : ∀ r h', Φ' r h' → Φ r h') (kk : AW M dep fx Φ' k n pc lv st h) : AW M dep fx Φ k n pc lv st h := by
  intro p l e R s m args below meth c H0 D ty ad mc ms H locs cells slots Qc XC ls G hl
  obtain ⟨g1, g2, g3, g4, g5, g6, g7⟩ := G
  exact kk p l e R s m args below meth c H0 D ty ad mc ms H locs cells slots Qc XC ls ⟨g1, g2, g3, g4, g5, fun v h' ad' t a b c' => g6 v h' ad' t a b (hi _ _ c'), fun E h' ad' t a b c' => g7 E h' ad' t a b (hi _ _ c')⟩ hl
theorem aw_join {P : Int32 → Prop} (pcJ : Nat) (kl : ∀ v, P v → AW M dep fx Φ k n pcJ lv (.int v :: st) h) (kk : (∀ v, P v → AW M dep fx Φ k n pcJ lv (.int v :: st) h) → AW M dep fx Φ k n pc lv st h) : AW M dep fx Φ k n pc lv st h := kk kl
theorem lget_mem {i : Nat} {v : Value} {lv : List (Nat × Value)} (h : lget lv i = some v) : (i, v) ∈ lv := by
  induction lv with
  | nil => cases h
  | cons q l ih =>
    unfold lget at h
    cases hb : Nat.beq q.1 i with
    | true =>
      rw [hb] at h
      have e : q.1 = i := Nat.eq_of_beq_eq_true hb
      cases h
      rw [← e]
      exact List.mem_cons_self
    | false =>
      rw [hb] at h
      exact List.mem_cons_of_mem _ (ih h)
theorem aw_iconst {z : Int} {v : Int32} (d : decode M.2.1 pc = .ok (.iconst z, 1)) (hv : Int32.ofInt z = v) (kk : AW M dep fx Φ k n (pc + 1) lv (.int v :: st) h) : AW M dep fx Φ k n pc lv (st) h := AW.pure (fun p l e R s m args below meth c H locs cells slots Q ls ad hx hb hl g => lv_iconst hx hb d hv g) kk
theorem aw_bipush {z : Int} {v : Int32} (d : decode M.2.1 pc = .ok (.bipush z, 2)) (hv : (Int8.ofInt z).toInt32 = v) (kk : AW M dep fx Φ k n (pc + 2) lv (.int v :: st) h) : AW M dep fx Φ k n pc lv (st) h := AW.pure (fun p l e R s m args below meth c H locs cells slots Q ls ad hx hb hl g => lv_bipush hx hb d hv g) kk
theorem aw_sipush {z : Int} {v : Int32} (d : decode M.2.1 pc = .ok (.sipush z, 3)) (hv : (Int16.ofInt z).toInt32 = v) (kk : AW M dep fx Φ k n (pc + 3) lv (.int v :: st) h) : AW M dep fx Φ k n pc lv (st) h := AW.pure (fun p l e R s m args below meth c H locs cells slots Q ls ad hx hb hl g => lv_sipush hx hb d hv g) kk
theorem aw_lconst {z : Fin 2} {v : Int64} (d : decode M.2.1 pc = .ok (.lconst z, 1)) (hv : Int64.ofNat (z : Nat) = v) (kk : AW M dep fx Φ k n (pc + 1) lv (.long v :: st) h) : AW M dep fx Φ k n pc lv (st) h := AW.pure (fun p l e R s m args below meth c H locs cells slots Q ls ad hx hb hl g => lv_lconst hx hb d hv g) kk
theorem aw_iload_n {j : Fin 4} {x : Int32} (d : decode M.2.1 pc = .ok (.iload_n j, 1)) (hg : lget lv (j : Nat) = some (.int x)) (kk : AW M dep fx Φ k n (pc + 1) lv (.int x :: st) h) : AW M dep fx Φ k n pc lv st h := AW.pure (fun p l e R s m args below meth c H locs cells slots Q ls ad hx hb hl g => lv_iload_n hx hb d rfl (lget_has hl hg) g) kk
theorem aw_iload {i : Nat} {x : Int32} (d : decode M.2.1 pc = .ok (.iload i, 2)) (hg : lget lv i = some (.int x)) (kk : AW M dep fx Φ k n (pc + 2) lv (.int x :: st) h) : AW M dep fx Φ k n pc lv st h := AW.pure (fun p l e R s m args below meth c H locs cells slots Q ls ad hx hb hl g => lv_iload hx hb d  (lget_has hl hg) g) kk
theorem aw_istore_n {j : Fin 4} {x : Int32} (d : decode M.2.1 pc = .ok (.istore_n j, 1)) (hn : (j : Nat) < M.2.2.1) (hs : sok (j : Nat) lv = true) (kk : AW M dep fx Φ k n (pc + 1) (su (j : Nat) (.int x) lv) st h) : AW M dep fx Φ k n pc lv (.int x :: st) h := AW.stor (fun p l e R s m args below meth c H locs cells slots Q ls ad hx hb hl g => lv_istore_n hx hb d rfl hl hn rfl (fun ls' h' => g ls' (su_has1 (v := .int x) hs h'))) kk
theorem aw_istore {i : Nat} {x : Int32} (d : decode M.2.1 pc = .ok (.istore i, 2)) (hn : i < M.2.2.1) (hs : sok i lv = true) (kk : AW M dep fx Φ k n (pc + 2) (su i (.int x) lv) st h) : AW M dep fx Φ k n pc lv (.int x :: st) h := AW.stor (fun p l e R s m args below meth c H locs cells slots Q ls ad hx hb hl g => lv_istore hx hb d  hl hn rfl (fun ls' h' => g ls' (su_has1 (v := .int x) hs h'))) kk
theorem aw_lload_n {j : Fin 4} {x : Int64} (d : decode M.2.1 pc = .ok (.lload_n j, 1)) (hg : lget lv (j : Nat) = some (.long x)) (kk : AW M dep fx Φ k n (pc + 1) lv (.long x :: st) h) : AW M dep fx Φ k n pc lv st h := AW.pure (fun p l e R s m args below meth c H locs cells slots Q ls ad hx hb hl g => lv_lload_n hx hb d rfl (lget_has hl hg) g) kk
theorem aw_lload {i : Nat} {x : Int64} (d : decode M.2.1 pc = .ok (.lload i, 2)) (hg : lget lv i = some (.long x)) (kk : AW M dep fx Φ k n (pc + 2) lv (.long x :: st) h) : AW M dep fx Φ k n pc lv st h := AW.pure (fun p l e R s m args below meth c H locs cells slots Q ls ad hx hb hl g => lv_lload hx hb d  (lget_has hl hg) g) kk
theorem aw_lstore_n {j : Fin 4} {x : Int64} (d : decode M.2.1 pc = .ok (.lstore_n j, 1)) (hn : (j : Nat) + 1 < M.2.2.1) (hs : sok (j : Nat) lv = true) (hs2 : sok2 (j : Nat) lv = true) (kk : AW M dep fx Φ k n (pc + 1) (su (j : Nat) (.long x) lv) st h) : AW M dep fx Φ k n pc lv (.long x :: st) h := AW.stor (fun p l e R s m args below meth c H locs cells slots Q ls ad hx hb hl g => lv_lstore_n hx hb d rfl hl hn rfl (fun ls' h' => g ls' (su_has2 (v := .long x) hs hs2 h'))) kk
theorem aw_lstore {i : Nat} {x : Int64} (d : decode M.2.1 pc = .ok (.lstore i, 2)) (hn : i + 1 < M.2.2.1) (hs : sok i lv = true) (hs2 : sok2 i lv = true) (kk : AW M dep fx Φ k n (pc + 2) (su i (.long x) lv) st h) : AW M dep fx Φ k n pc lv (.long x :: st) h := AW.stor (fun p l e R s m args below meth c H locs cells slots Q ls ad hx hb hl g => lv_lstore hx hb d  hl hn rfl (fun ls' h' => g ls' (su_has2 (v := .long x) hs hs2 h'))) kk
theorem aw_fload_n {j : Fin 4} {x : UInt32} (d : decode M.2.1 pc = .ok (.fload_n j, 1)) (hg : lget lv (j : Nat) = some (.float x)) (kk : AW M dep fx Φ k n (pc + 1) lv (.float x :: st) h) : AW M dep fx Φ k n pc lv st h := AW.pure (fun p l e R s m args below meth c H locs cells slots Q ls ad hx hb hl g => lv_fload_n hx hb d rfl (lget_has hl hg) g) kk
theorem aw_fload {i : Nat} {x : UInt32} (d : decode M.2.1 pc = .ok (.fload i, 2)) (hg : lget lv i = some (.float x)) (kk : AW M dep fx Φ k n (pc + 2) lv (.float x :: st) h) : AW M dep fx Φ k n pc lv st h := AW.pure (fun p l e R s m args below meth c H locs cells slots Q ls ad hx hb hl g => lv_fload hx hb d  (lget_has hl hg) g) kk
theorem aw_fstore_n {j : Fin 4} {x : UInt32} (d : decode M.2.1 pc = .ok (.fstore_n j, 1)) (hn : (j : Nat) < M.2.2.1) (hs : sok (j : Nat) lv = true) (kk : AW M dep fx Φ k n (pc + 1) (su (j : Nat) (.float x) lv) st h) : AW M dep fx Φ k n pc lv (.float x :: st) h := AW.stor (fun p l e R s m args below meth c H locs cells slots Q ls ad hx hb hl g => lv_fstore_n hx hb d rfl hl hn rfl (fun ls' h' => g ls' (su_has1 (v := .float x) hs h'))) kk
theorem aw_fstore {i : Nat} {x : UInt32} (d : decode M.2.1 pc = .ok (.fstore i, 2)) (hn : i < M.2.2.1) (hs : sok i lv = true) (kk : AW M dep fx Φ k n (pc + 2) (su i (.float x) lv) st h) : AW M dep fx Φ k n pc lv (.float x :: st) h := AW.stor (fun p l e R s m args below meth c H locs cells slots Q ls ad hx hb hl g => lv_fstore hx hb d  hl hn rfl (fun ls' h' => g ls' (su_has1 (v := .float x) hs h'))) kk
theorem aw_aload_n {j : Fin 4} {x : Nat} (d : decode M.2.1 pc = .ok (.aload_n j, 1)) (hg : lget lv (j : Nat) = some (.ref x)) (kk : AW M dep fx Φ k n (pc + 1) lv (.ref x :: st) h) : AW M dep fx Φ k n pc lv st h := AW.pure (fun p l e R s m args below meth c H locs cells slots Q ls ad hx hb hl g => lv_aload_n hx hb d rfl (lget_has hl hg) g) kk
theorem aw_aload {i : Nat} {x : Nat} (d : decode M.2.1 pc = .ok (.aload i, 2)) (hg : lget lv i = some (.ref x)) (kk : AW M dep fx Φ k n (pc + 2) lv (.ref x :: st) h) : AW M dep fx Φ k n pc lv st h := AW.pure (fun p l e R s m args below meth c H locs cells slots Q ls ad hx hb hl g => lv_aload hx hb d  (lget_has hl hg) g) kk
theorem aw_astore_n {j : Fin 4} {x : Nat} (d : decode M.2.1 pc = .ok (.astore_n j, 1)) (hn : (j : Nat) < M.2.2.1) (hs : sok (j : Nat) lv = true) (kk : AW M dep fx Φ k n (pc + 1) (su (j : Nat) (.ref x) lv) st h) : AW M dep fx Φ k n pc lv (.ref x :: st) h := AW.stor (fun p l e R s m args below meth c H locs cells slots Q ls ad hx hb hl g => lv_astore_n hx hb d rfl hl hn rfl (fun ls' h' => g ls' (su_has1 (v := .ref x) hs h'))) kk
theorem aw_astore {i : Nat} {x : Nat} (d : decode M.2.1 pc = .ok (.astore i, 2)) (hn : i < M.2.2.1) (hs : sok i lv = true) (kk : AW M dep fx Φ k n (pc + 2) (su i (.ref x) lv) st h) : AW M dep fx Φ k n pc lv (.ref x :: st) h := AW.stor (fun p l e R s m args below meth c H locs cells slots Q ls ad hx hb hl g => lv_astore hx hb d  hl hn rfl (fun ls' h' => g ls' (su_has1 (v := .ref x) hs h'))) kk
theorem aw_iinc {i : Nat} {z : Int} {x v : Int32} (d : decode M.2.1 pc = .ok (.iinc i z, 3)) (hg : lget lv i = some (.int x)) (hv : x + Int32.ofInt z = v) (hn : i < M.2.2.1) (hs : sok i lv = true) (kk : AW M dep fx Φ k n (pc + 3) (su i (.int v) lv) st h) : AW M dep fx Φ k n pc lv st h := AW.stor (fun p l e R s m args below meth c H locs cells slots Q ls ad hx hb hl g => by
  obtain ⟨j, hj⟩ : ∃ j : Nat, (cvl ad lv)[j]? = some (i, .int x) := List.mem_iff_getElem?.mp (List.mem_map.mpr ⟨(i, .int x), lget_mem hg, rfl⟩)
  exact lv_iinc hx hb d hl hj hv hn rfl (fun ls' h' => g ls' (su_has1 (v := .int v) hs h'))) kk
theorem aw_iadd {x y : Int32} (d : decode M.2.1 pc = .ok (.iadd, 1))  (kk : AW M dep fx Φ k n (pc + 1) lv (.int (x + y) :: st) h) : AW M dep fx Φ k n pc lv (.int y :: .int x :: st) h := AW.pure (fun p l e R s m args below meth c H locs cells slots Q ls ad hx hb hl g => lv_iadd hx hb d  g) kk
theorem aw_isub {x y : Int32} (d : decode M.2.1 pc = .ok (.isub, 1))  (kk : AW M dep fx Φ k n (pc + 1) lv (.int (x - y) :: st) h) : AW M dep fx Φ k n pc lv (.int y :: .int x :: st) h := AW.pure (fun p l e R s m args below meth c H locs cells slots Q ls ad hx hb hl g => lv_isub hx hb d  g) kk
theorem aw_imul {x y : Int32} (d : decode M.2.1 pc = .ok (.imul, 1))  (kk : AW M dep fx Φ k n (pc + 1) lv (.int (x * y) :: st) h) : AW M dep fx Φ k n pc lv (.int y :: .int x :: st) h := AW.pure (fun p l e R s m args below meth c H locs cells slots Q ls ad hx hb hl g => lv_imul hx hb d  g) kk
theorem aw_iand {x y : Int32} (d : decode M.2.1 pc = .ok (.iand, 1))  (kk : AW M dep fx Φ k n (pc + 1) lv (.int (x &&& y) :: st) h) : AW M dep fx Φ k n pc lv (.int y :: .int x :: st) h := AW.pure (fun p l e R s m args below meth c H locs cells slots Q ls ad hx hb hl g => lv_iand hx hb d  g) kk
theorem aw_ior {x y : Int32} (d : decode M.2.1 pc = .ok (.ior, 1))  (kk : AW M dep fx Φ k n (pc + 1) lv (.int (x ||| y) :: st) h) : AW M dep fx Φ k n pc lv (.int y :: .int x :: st) h := AW.pure (fun p l e R s m args below meth c H locs cells slots Q ls ad hx hb hl g => lv_ior hx hb d  g) kk
theorem aw_ixor {x y : Int32} (d : decode M.2.1 pc = .ok (.ixor, 1))  (kk : AW M dep fx Φ k n (pc + 1) lv (.int (x ^^^ y) :: st) h) : AW M dep fx Φ k n pc lv (.int y :: .int x :: st) h := AW.pure (fun p l e R s m args below meth c H locs cells slots Q ls ad hx hb hl g => lv_ixor hx hb d  g) kk
theorem aw_ishl {x y : Int32} (d : decode M.2.1 pc = .ok (.ishl, 1))  (kk : AW M dep fx Φ k n (pc + 1) lv (.int (x <<< (y &&& 31)) :: st) h) : AW M dep fx Φ k n pc lv (.int y :: .int x :: st) h := AW.pure (fun p l e R s m args below meth c H locs cells slots Q ls ad hx hb hl g => lv_ishl hx hb d  g) kk
theorem aw_ishr {x y : Int32} (d : decode M.2.1 pc = .ok (.ishr, 1))  (kk : AW M dep fx Φ k n (pc + 1) lv (.int (x >>> (y &&& 31)) :: st) h) : AW M dep fx Φ k n pc lv (.int y :: .int x :: st) h := AW.pure (fun p l e R s m args below meth c H locs cells slots Q ls ad hx hb hl g => lv_ishr hx hb d  g) kk
theorem aw_idiv {x y : Int32} (d : decode M.2.1 pc = .ok (.idiv, 1)) (hne : ¬ y = 0) (kk : AW M dep fx Φ k n (pc + 1) lv (.int (x / y) :: st) h) : AW M dep fx Φ k n pc lv (.int y :: .int x :: st) h := AW.pure (fun p l e R s m args below meth c H locs cells slots Q ls ad hx hb hl g => lv_idiv hx hb d hne g) kk
theorem aw_ladd {x y : Int64} (d : decode M.2.1 pc = .ok (.ladd, 1))  (kk : AW M dep fx Φ k n (pc + 1) lv (.long (x + y) :: st) h) : AW M dep fx Φ k n pc lv (.long y :: .long x :: st) h := AW.pure (fun p l e R s m args below meth c H locs cells slots Q ls ad hx hb hl g => lv_ladd hx hb d  g) kk
theorem aw_lmul {x y : Int64} (d : decode M.2.1 pc = .ok (.lmul, 1))  (kk : AW M dep fx Φ k n (pc + 1) lv (.long (x * y) :: st) h) : AW M dep fx Φ k n pc lv (.long y :: .long x :: st) h := AW.pure (fun p l e R s m args below meth c H locs cells slots Q ls ad hx hb hl g => lv_lmul hx hb d  g) kk
theorem aw_i2l {x : Int32} (d : decode M.2.1 pc = .ok (.i2l, 1))  (kk : AW M dep fx Φ k n (pc + 1) lv (.long x.toInt64 :: st) h) : AW M dep fx Φ k n pc lv (.int x :: st) h := AW.pure (fun p l e R s m args below meth c H locs cells slots Q ls ad hx hb hl g => lv_i2l hx hb d rfl g) kk
theorem aw_i2c {x : Int32} (d : decode M.2.1 pc = .ok (.i2c, 1))  (kk : AW M dep fx Φ k n (pc + 1) lv (.int (x.toUInt32 % 65536).toInt32 :: st) h) : AW M dep fx Φ k n pc lv (.int x :: st) h := AW.pure (fun p l e R s m args below meth c H locs cells slots Q ls ad hx hb hl g => lv_i2c hx hb d rfl g) kk
theorem aw_i2f {x : Int32} (d : decode M.2.1 pc = .ok (.i2f, 1))  (kk : AW M dep fx Φ k n (pc + 1) lv (.float (FP.i2f x) :: st) h) : AW M dep fx Φ k n pc lv (.int x :: st) h := AW.pure (fun p l e R s m args below meth c H locs cells slots Q ls ad hx hb hl g => lv_i2f hx hb d  g) kk
theorem aw_fdiv {x y : UInt32} (d : decode M.2.1 pc = .ok (.fdiv, 1)) (hne : vf_n32 (FP.fdiv x y)) (kk : AW M dep fx Φ k n (pc + 1) lv (.float (FP.fdiv x y) :: st) h) : AW M dep fx Φ k n pc lv (.float y :: .float x :: st) h := AW.pure (fun p l e R s m args below meth c H locs cells slots Q ls ad hx hb hl g => lv_fdiv hx hb d hne g) kk
theorem aw_f2d {x : UInt32} (d : decode M.2.1 pc = .ok (.f2d, 1)) (hne : vf_n64 (FP.f2d x)) (kk : AW M dep fx Φ k n (pc + 1) lv (.double (FP.f2d x) :: st) h) : AW M dep fx Φ k n pc lv (.float x :: st) h := AW.pure (fun p l e R s m args below meth c H locs cells slots Q ls ad hx hb hl g => lv_f2d hx hb d hne g) kk
theorem aw_fcmp {x y : UInt32} {op : CmpOp} (d : decode M.2.1 pc = .ok (.fcmp op, 1))  (kk : AW M dep fx Φ k n (pc + 1) lv (.int (Op.cmpValue (FP.fcmp x y) op) :: st) h) : AW M dep fx Φ k n pc lv (.float y :: .float x :: st) h := AW.pure (fun p l e R s m args below meth c H locs cells slots Q ls ad hx hb hl g => lv_fcmp hx hb d  g) kk
theorem aw_dcmp {x y : UInt64} {op : CmpOp} (d : decode M.2.1 pc = .ok (.dcmp op, 1))  (kk : AW M dep fx Φ k n (pc + 1) lv (.int (Op.cmpValue (FP.dcmp x y) op) :: st) h) : AW M dep fx Φ k n pc lv (.double y :: .double x :: st) h := AW.pure (fun p l e R s m args below meth c H locs cells slots Q ls ad hx hb hl g => lv_dcmp hx hb d  g) kk
theorem aw_lcmp {x y : Int64} (d : decode M.2.1 pc = .ok (.lcmp, 1))  (kk : AW M dep fx Φ k n (pc + 1) lv (.int (lg_cmp x y) :: st) h) : AW M dep fx Φ k n pc lv (.long y :: .long x :: st) h := AW.pure (fun p l e R s m args below meth c H locs cells slots Q ls ad hx hb hl g => W.lcmp hx hb d  g) kk
theorem aw_fconst0  (d : decode M.2.1 pc = .ok (.fconst 0, 1))  (kk : AW M dep fx Φ k n (pc + 1) lv (.float 0 :: st) h) : AW M dep fx Φ k n pc lv (st) h := AW.pure (fun p l e R s m args below meth c H locs cells slots Q ls ad hx hb hl g => lv_fconst0 hx hb d  g) kk
theorem aw_dup {v : Value} (d : decode M.2.1 pc = .ok (.dup, 1)) (hc : v.category = 1) (kk : AW M dep fx Φ k n (pc + 1) lv (v :: v :: st) h) : AW M dep fx Φ k n pc lv (v :: st) h := AW.pure (fun p l e R s m args below meth c H locs cells slots Q ls ad hx hb hl g => lv_dup hx hb d (by rw [cv_cat]; exact hc) g) kk
theorem aw_dup2 {v w : Value} (d : decode M.2.1 pc = .ok (.dup2, 1)) (hc : v.category = 1) (hc2 : w.category = 1) (kk : AW M dep fx Φ k n (pc + 1) lv (v :: w :: v :: w :: st) h) : AW M dep fx Φ k n pc lv (v :: w :: st) h := AW.pure (fun p l e R s m args below meth c H locs cells slots Q ls ad hx hb hl g => lv_dup2_11 hx hb d (by rw [cv_cat]; exact hc) (by rw [cv_cat]; exact hc2) g) kk
theorem aw_pop {v : Value} (d : decode M.2.1 pc = .ok (.pop, 1)) (hc : v.category = 1) (kk : AW M dep fx Φ k n (pc + 1) lv (st) h) : AW M dep fx Φ k n pc lv (v :: st) h := AW.pure (fun p l e R s m args below meth c H locs cells slots Q ls ad hx hb hl g => lv_pop hx hb d (by rw [cv_cat]; exact hc) g) kk
theorem aw_goto {off : Int} {tgt : Nat} (d : decode M.2.1 pc = .ok (.goto off, 3)) (ht : (pc : Int) + off = (tgt : Int)) (kk : AW M dep fx Φ k n tgt lv st h) : AW M dep fx Φ k n pc lv st h := AW.pure (fun p l e R s m args below meth c H locs cells slots Q ls ad hx hb hl g => lv_goto hx hb d ht g) kk
theorem aw_tabIn {dflt lo hi : Int} {offs : Array Int} {len : Nat} {x : Int32} {off : Int} {tgt : Nat} (d : decode M.2.1 pc = .ok (.tableswitch dflt lo hi offs, len)) (h1 : ¬ x.toInt < lo) (h2 : ¬ hi < x.toInt) (ho : offs[(x.toInt - lo).toNat]? = some off) (ht : (pc : Int) + off = (tgt : Int)) (kk : AW M dep fx Φ k n tgt lv st h) : AW M dep fx Φ k n pc lv (.int x :: st) h := AW.pure (fun p l e R s m args below meth c H locs cells slots Q ls ad hx hb hl g => lv_tableIn hx hb d h1 h2 ho ht g) kk
theorem aw_tabOut {dflt lo hi : Int} {offs : Array Int} {len : Nat} {x : Int32} {tgt : Nat} (d : decode M.2.1 pc = .ok (.tableswitch dflt lo hi offs, len)) (h1 : x.toInt < lo ∨ hi < x.toInt) (ht : (pc : Int) + dflt = (tgt : Int)) (kk : AW M dep fx Φ k n tgt lv st h) : AW M dep fx Φ k n pc lv (.int x :: st) h := AW.pure (fun p l e R s m args below meth c H locs cells slots Q ls ad hx hb hl g => lv_tableOut hx hb d h1 ht g) kk
theorem aw_if_eq {x : Int32} {off : Int} (tgt : Nat) (d : decode M.2.1 pc = .ok (.ifCond .eq off, 3)) (ht : (pc : Int) + off = (tgt : Int)) (kt : x = 0 → AW M dep fx Φ k n tgt lv st h) (kf : ¬ x = 0 → AW M dep fx Φ k n (pc + 3) lv st h) : AW M dep fx Φ k n pc lv (.int x :: st) h := by
  intro p l e R s m args below meth c H0 D ty ad mc ms H locs cells slots Qc XC ls G hl
  exact lv_if_eq G.1.1 G.1.2.1 d ht (fun q => kt q p l e R s m args below meth c H0 D ty ad mc ms H locs cells slots Qc XC ls G hl) (fun q => kf q p l e R s m args below meth c H0 D ty ad mc ms H locs cells slots Qc XC ls G hl)
theorem aw_if_ne {x : Int32} {off : Int} (tgt : Nat) (d : decode M.2.1 pc = .ok (.ifCond .ne off, 3)) (ht : (pc : Int) + off = (tgt : Int)) (kt : ¬ x = 0 → AW M dep fx Φ k n tgt lv st h) (kf : x = 0 → AW M dep fx Φ k n (pc + 3) lv st h) : AW M dep fx Φ k n pc lv (.int x :: st) h := by
  intro p l e R s m args below meth c H0 D ty ad mc ms H locs cells slots Qc XC ls G hl
  exact lv_if_ne G.1.1 G.1.2.1 d ht (fun q => kt q p l e R s m args below meth c H0 D ty ad mc ms H locs cells slots Qc XC ls G hl) (fun q => kf q p l e R s m args below meth c H0 D ty ad mc ms H locs cells slots Qc XC ls G hl)
theorem aw_if_lt {x : Int32} {off : Int} (tgt : Nat) (d : decode M.2.1 pc = .ok (.ifCond .lt off, 3)) (ht : (pc : Int) + off = (tgt : Int)) (kt : x < 0 → AW M dep fx Φ k n tgt lv st h) (kf : ¬ x < 0 → AW M dep fx Φ k n (pc + 3) lv st h) : AW M dep fx Φ k n pc lv (.int x :: st) h := by
  intro p l e R s m args below meth c H0 D ty ad mc ms H locs cells slots Qc XC ls G hl
  exact lv_if_lt G.1.1 G.1.2.1 d ht (fun q => kt q p l e R s m args below meth c H0 D ty ad mc ms H locs cells slots Qc XC ls G hl) (fun q => kf q p l e R s m args below meth c H0 D ty ad mc ms H locs cells slots Qc XC ls G hl)
theorem aw_if_ge {x : Int32} {off : Int} (tgt : Nat) (d : decode M.2.1 pc = .ok (.ifCond .ge off, 3)) (ht : (pc : Int) + off = (tgt : Int)) (kt : 0 ≤ x → AW M dep fx Φ k n tgt lv st h) (kf : ¬ 0 ≤ x → AW M dep fx Φ k n (pc + 3) lv st h) : AW M dep fx Φ k n pc lv (.int x :: st) h := by
  intro p l e R s m args below meth c H0 D ty ad mc ms H locs cells slots Qc XC ls G hl
  exact lv_if_ge G.1.1 G.1.2.1 d ht (fun q => kt q p l e R s m args below meth c H0 D ty ad mc ms H locs cells slots Qc XC ls G hl) (fun q => kf q p l e R s m args below meth c H0 D ty ad mc ms H locs cells slots Qc XC ls G hl)
theorem aw_if_gt {x : Int32} {off : Int} (tgt : Nat) (d : decode M.2.1 pc = .ok (.ifCond .gt off, 3)) (ht : (pc : Int) + off = (tgt : Int)) (kt : 0 < x → AW M dep fx Φ k n tgt lv st h) (kf : ¬ 0 < x → AW M dep fx Φ k n (pc + 3) lv st h) : AW M dep fx Φ k n pc lv (.int x :: st) h := by
  intro p l e R s m args below meth c H0 D ty ad mc ms H locs cells slots Qc XC ls G hl
  exact lv_if_gt G.1.1 G.1.2.1 d ht (fun q => kt q p l e R s m args below meth c H0 D ty ad mc ms H locs cells slots Qc XC ls G hl) (fun q => kf q p l e R s m args below meth c H0 D ty ad mc ms H locs cells slots Qc XC ls G hl)
theorem aw_if_le {x : Int32} {off : Int} (tgt : Nat) (d : decode M.2.1 pc = .ok (.ifCond .le off, 3)) (ht : (pc : Int) + off = (tgt : Int)) (kt : x ≤ 0 → AW M dep fx Φ k n tgt lv st h) (kf : ¬ x ≤ 0 → AW M dep fx Φ k n (pc + 3) lv st h) : AW M dep fx Φ k n pc lv (.int x :: st) h := by
  intro p l e R s m args below meth c H0 D ty ad mc ms H locs cells slots Qc XC ls G hl
  exact lv_if_le G.1.1 G.1.2.1 d ht (fun q => kt q p l e R s m args below meth c H0 D ty ad mc ms H locs cells slots Qc XC ls G hl) (fun q => kf q p l e R s m args below meth c H0 D ty ad mc ms H locs cells slots Qc XC ls G hl)
theorem aw_icmp_eq {x y : Int32} {off : Int} (tgt : Nat) (d : decode M.2.1 pc = .ok (.if_icmp .eq off, 3)) (ht : (pc : Int) + off = (tgt : Int)) (kt : x = y → AW M dep fx Φ k n tgt lv st h) (kf : ¬ x = y → AW M dep fx Φ k n (pc + 3) lv st h) : AW M dep fx Φ k n pc lv (.int y :: .int x :: st) h := by
  intro p l e R s m args below meth c H0 D ty ad mc ms H locs cells slots Qc XC ls G hl
  exact lv_icmp_eq G.1.1 G.1.2.1 d ht (fun q => kt q p l e R s m args below meth c H0 D ty ad mc ms H locs cells slots Qc XC ls G hl) (fun q => kf q p l e R s m args below meth c H0 D ty ad mc ms H locs cells slots Qc XC ls G hl)
theorem aw_icmp_ne {x y : Int32} {off : Int} (tgt : Nat) (d : decode M.2.1 pc = .ok (.if_icmp .ne off, 3)) (ht : (pc : Int) + off = (tgt : Int)) (kt : ¬ x = y → AW M dep fx Φ k n tgt lv st h) (kf : x = y → AW M dep fx Φ k n (pc + 3) lv st h) : AW M dep fx Φ k n pc lv (.int y :: .int x :: st) h := by
  intro p l e R s m args below meth c H0 D ty ad mc ms H locs cells slots Qc XC ls G hl
  exact lv_icmp_ne G.1.1 G.1.2.1 d ht (fun q => kt q p l e R s m args below meth c H0 D ty ad mc ms H locs cells slots Qc XC ls G hl) (fun q => kf q p l e R s m args below meth c H0 D ty ad mc ms H locs cells slots Qc XC ls G hl)
theorem aw_icmp_lt {x y : Int32} {off : Int} (tgt : Nat) (d : decode M.2.1 pc = .ok (.if_icmp .lt off, 3)) (ht : (pc : Int) + off = (tgt : Int)) (kt : x < y → AW M dep fx Φ k n tgt lv st h) (kf : ¬ x < y → AW M dep fx Φ k n (pc + 3) lv st h) : AW M dep fx Φ k n pc lv (.int y :: .int x :: st) h := by
  intro p l e R s m args below meth c H0 D ty ad mc ms H locs cells slots Qc XC ls G hl
  exact lv_icmp_lt G.1.1 G.1.2.1 d ht (fun q => kt q p l e R s m args below meth c H0 D ty ad mc ms H locs cells slots Qc XC ls G hl) (fun q => kf q p l e R s m args below meth c H0 D ty ad mc ms H locs cells slots Qc XC ls G hl)
theorem aw_icmp_ge {x y : Int32} {off : Int} (tgt : Nat) (d : decode M.2.1 pc = .ok (.if_icmp .ge off, 3)) (ht : (pc : Int) + off = (tgt : Int)) (kt : y ≤ x → AW M dep fx Φ k n tgt lv st h) (kf : ¬ y ≤ x → AW M dep fx Φ k n (pc + 3) lv st h) : AW M dep fx Φ k n pc lv (.int y :: .int x :: st) h := by
  intro p l e R s m args below meth c H0 D ty ad mc ms H locs cells slots Qc XC ls G hl
  exact lv_icmp_ge G.1.1 G.1.2.1 d ht (fun q => kt q p l e R s m args below meth c H0 D ty ad mc ms H locs cells slots Qc XC ls G hl) (fun q => kf q p l e R s m args below meth c H0 D ty ad mc ms H locs cells slots Qc XC ls G hl)
theorem aw_icmp_gt {x y : Int32} {off : Int} (tgt : Nat) (d : decode M.2.1 pc = .ok (.if_icmp .gt off, 3)) (ht : (pc : Int) + off = (tgt : Int)) (kt : y < x → AW M dep fx Φ k n tgt lv st h) (kf : ¬ y < x → AW M dep fx Φ k n (pc + 3) lv st h) : AW M dep fx Φ k n pc lv (.int y :: .int x :: st) h := by
  intro p l e R s m args below meth c H0 D ty ad mc ms H locs cells slots Qc XC ls G hl
  exact lv_icmp_gt G.1.1 G.1.2.1 d ht (fun q => kt q p l e R s m args below meth c H0 D ty ad mc ms H locs cells slots Qc XC ls G hl) (fun q => kf q p l e R s m args below meth c H0 D ty ad mc ms H locs cells slots Qc XC ls G hl)
theorem aw_icmp_le {x y : Int32} {off : Int} (tgt : Nat) (d : decode M.2.1 pc = .ok (.if_icmp .le off, 3)) (ht : (pc : Int) + off = (tgt : Int)) (kt : x ≤ y → AW M dep fx Φ k n tgt lv st h) (kf : ¬ x ≤ y → AW M dep fx Φ k n (pc + 3) lv st h) : AW M dep fx Φ k n pc lv (.int y :: .int x :: st) h := by
  intro p l e R s m args below meth c H0 D ty ad mc ms H locs cells slots Qc XC ls G hl
  exact lv_icmp_le G.1.1 G.1.2.1 d ht (fun q => kt q p l e R s m args below meth c H0 D ty ad mc ms H locs cells slots Qc XC ls G hl) (fun q => kf q p l e R s m args below meth c H0 D ty ad mc ms H locs cells slots Qc XC ls G hl)
end AWR
end
section
theorem kcl_ws : ∀ (ci : Nat) (q : vw_C), kcl[ci]? = some q → ∀ w ∈ u_ws q.1 q.2.1 q.2.2, w ∈ lw_tbl ∧ goodWord w = true := by
  have h : kcl.all (fun q => (u_ws q.1 q.2.1 q.2.2).all (fun w => decide (w ∈ lw_tbl) && goodWord w)) = true := by decide +kernel
  intro ci q hq w hw
  have h1 := List.all_eq_true.mp (List.all_eq_true.mp h q (List.mem_of_getElem? hq)) w hw
  simpa using h1
theorem va_P1 {D : va_G} {cl : List vw_C} {q : Nat × va_E} {H : Heap} (h : va_at D cl q H) : va_P D cl [q] H := by
  intro k x hk
  have hz : k < 1 := (List.getElem?_eq_some_iff.mp hk).1
  rw [show k = 0 by omega] at hk
  cases hk
  exact h
theorem cvs_get {ad : Nat → Nat} {fs : List Value} {j : Nat} {v : Value} (h : fs[j]? = some v) : (fs.map (cv ad))[j]? = some (cv ad v) := by
  rw [List.getElem?_map, h]; rfl
section AWH
variable {M : MI} {dep : Nat} {fx : Bool} {Φ : Rs → ah → Prop} {k n pc : Nat} {lv : List (Nat × Value)} {st : List Value} {h : ah}
theorem CF.uws {D : va_G} {s : State} {H0 : Heap} (hC : CF D s H0) {ci : Nat} {q : vw_C} (hq : kcl[ci]? = some q) (a : Array Value) : ∀ w ∈ u_ws q.1 q.2.1 q.2.2, w.before a s = true := fun w hw => hC.word (kcl_ws ci q hq w hw).1 (kcl_ws ci q hq w hw).2 a
theorem aw_getf {i ci j idx N : Nat} {C : String} {T : u_T} {fs : List Value} {v : Value} (d : decode M.2.1 pc = .ok (.getfield idx, 3)) (hc : kcl[ci]? = some (C, T, N)) (hw : Cond.fieldLink M.1.cls idx (T j).1 (T j).2.1 (T j).2.2.1 ∈ lw_tbl) (hk : j < N) (hh : h i = some (.inr (ci, fs))) (hv : fs[j]? = some v)
    (kk : AW M dep fx Φ k n (pc + 3) lv (v :: st) h) : AW M dep fx Φ k n pc lv (.ref i :: st) h := by
  intro p l e R s m args below meth c H0 D ty ad mc ms H locs cells slots Qc XC ls G hl
  obtain ⟨⟨a1, a2, a3, a4, a5, a6, a7, a8, a9, a10, a11⟩, g2, g3, hR, g5⟩ := id G
  exact va_get (Ts := u_ws C T N) a1 a2 (a10.uws hc args) (fun w hw => hw) a8 a9 (va_P1 (hR.1 i _ hh).1) 0 rfl hc j hk (a10.word hw rfl args) (fun _ h9 => h9) (cvs_get hv) d (kk p l e R s m args below meth c H0 D ty ad mc ms H locs cells slots Qc XC ls G hl)
/-- behind a write at place i the rest goes on -/
theorem AK.put {p : Program} {l : Launch} {R : Room} {s : State} {m : MethodId} {args : Array Value} {meth : Method} {c : Code} {H0 : Heap} {D : va_G} {ty : Nat → ClassId} {ad : Nat → Nat} {mc ms : Nat} {H H1 : Heap} {locs : List Loc} {cells slots z : Nat} {Qc : Array Value → State → Outcome → State → Prop} {XC : String → State → State → Prop} {i : Nat} {x0 x : ae}
    (G : AK M dep fx Φ k n h p l R s m args meth c H0 D ty ad mc ms H locs cells slots Qc XC) (hi : h i = some x0) (hx : va_at D kcl (ad i, ce ty ad x) H1) (hz : H1.size = H.size) (oq : ∀ q : Nat, q ≠ ad i → H1[q]? = H[q]?) :
    AK M dep fx Φ k n (uph h i x) p l R s m args meth c H0 D ty ad mc ms H1 (locs ++ [⟨ad i, z⟩]) cells slots Qc XC := by
  obtain ⟨g1, g2, g3, hR, hS, hQ, hX⟩ := G
  have ha : ∀ ad', agr (uph h i x) ad ad' → agr h ad ad' := by
    intro ad' q j y hj
    by_cases e : j = i
    · subst e
      exact q j x (uph_same h j x)
    · exact q j y (by rw [uph_ne h x e]; exact hj)
  exact ⟨g1, g2, g3, hR.set hi hx hz oq, hS.put hz oq (hR.1 i x0 hi).2, fun v h' ad' t a b => hQ v h' ad' t a (ha ad' b), fun E h' ad' t a b => hX E h' ad' t a (ha ad' b)⟩
theorem aw_putf {i ci j idx N : Nat} {C : String} {T : u_T} {fs : List Value} {v : Value} (ty0 : FieldType) (d : decode M.2.1 pc = .ok (.putfield idx, 3)) (hc : kcl[ci]? = some (C, T, N)) (hw : Cond.fieldLink M.1.cls idx (T j).1 (T j).2.1 (T j).2.2.1 ∈ lw_tbl) (hk : j < N) (hfin : (T j).2.2.2 = false) (tys : Nat → FieldType) (htys : ∀ k, k < N → parseFieldDescriptor (T k).2.2.1 = some (tys k)) (hnm : ∀ a, a < N → ∀ b, b < N → a ≠ b → (T a).2.1 ≠ (T b).2.1) (hty : tys j = ty0) (hn : ∀ ad, narrow ty0 (cv ad v) = cv ad v) (hfit : ∀ ad, fits ty0 (cv ad v) = true) (hh : h i = some (.inr (ci, fs))) (hlen : j < fs.length)
    (kk : AW M dep fx Φ k n (pc + 3) lv st (uph h i (.inr (ci, fs.set j v)))) : AW M dep fx Φ k n pc lv (v :: .ref i :: st) h := by
  intro p l e R s m args below meth c H0 D ty ad mc ms H locs cells slots Qc XC ls G hl
  obtain ⟨⟨hx, hb, a3, a4, a5, a6, a7, hown, hK, hC, a11⟩, g2, g3, hR, g5⟩ := id G
  have hts := hC.uws hc args
  have hd : parseFieldDescriptor (T j).2.2.1 = some ty0 := by rw [htys j hk, hty]
  have hap := va_apart (own := M.1.cls) hts (fun w hw => hw) tys htys hnm hK hc
  obtain ⟨r, h1, cell, q1, q2, q3, q4⟩ := (hR.1 i _ hh).1
  have hr : r = (C, T, N) := Option.some.inj (h1.symm.trans hc)
  subst hr
  obtain ⟨hS, hfc, kC, hkC, hkind⟩ := hK.1 ci _ hc
  obtain ⟨cf, kf, fi, f, hi, hsl⟩ := hS j hk
  have hlay := hts _ (u_in_lay hk)
  unfold u_lay at hlay
  rw [if_neg (by rw [hfin]; decide)] at hlay
  have hst := (u_facts hfc hkC (u_lays hts (fun w hw => hw) hk) hi).1
  have h6 := u_store hfc hkC hkind hlay hi hd (hn ad) (hfit ad)
  refine W.putK hx hb (f := f) ⟨hown, hC.word hw rfl args, ⟨_, _, _, hi⟩, hst⟩ (by rw [q2]; exact h6) q1 q3 (by rw [hsl]; exact k2_hasslot (q4 j hk)) rfl rfl d fun H' e1 e2 e3 => ?_
  have hat : va_at D kcl (ad i, ce ty ad (.inr (ci, fs.set j v))) H' := by
    rw [hsl] at e1
    refine ⟨(C, T, N), hc, t_OB.to (V := updV (vp_V (fs.map (cv ad))) j (cv ad v)) ⟨cell.setSlot (D.2 ci j) (cv ad v), e1, q2, q3, t_set q4 hap hk (cv ad v)⟩ (fun x _ => ?_)⟩
    show _ = vp_V ((fs.set j v).map (cv ad)) x
    rw [List.map_set]
    exact vp_updV_set (by simpa using hlen) (cv ad v) x
  exact kk p l e R s m args below meth c H0 D ty ad mc ms H' _ cells slots Qc XC ls (G.put hh hat e2 e3) hl
theorem aw_iald {i t N : Nat} {f : Nat → Int32} {x : Int32} (d : decode M.2.1 pc = .ok (.iaload, 1)) (hh : h i = some (.inl (t, N, .inl f))) (ht : ktl[t]? = some .int) (hin : vp_in x N)
    (kk : AW M dep fx Φ k n (pc + 1) lv (.int (f x.toNatClampNeg) :: st) h) : AW M dep fx Φ k n pc lv (.int x :: .ref i :: st) h := by
  intro p l e R s m args below meth c H0 D ty ad mc ms H locs cells slots Qc XC ls G hl
  obtain ⟨⟨hx, hb, a3, a4, a5, a6, a7, hown, hK, hC, a11⟩, g2, g3, hR, g5⟩ := id G
  exact va_iald hx hb hK (va_P1 (hR.1 i _ hh).1) 0 t rfl (ktys_get ht) hin d (kk p l e R s m args below meth c H0 D ty ad mc ms H locs cells slots Qc XC ls G hl)
theorem aw_zald {i t N : Nat} {f : Nat → Int32} {x : Int32} (d : decode M.2.1 pc = .ok (.baload, 1)) (hh : h i = some (.inl (t, N, .inl f))) (ht : ktl[t]? = some .boolean) (hin : vp_in x N)
    (kk : AW M dep fx Φ k n (pc + 1) lv (.int (f x.toNatClampNeg) :: st) h) : AW M dep fx Φ k n pc lv (.int x :: .ref i :: st) h := by
  intro p l e R s m args below meth c H0 D ty ad mc ms H locs cells slots Qc XC ls G hl
  obtain ⟨⟨hx, hb, a3, a4, a5, a6, a7, hown, hK, hC, a11⟩, g2, g3, hR, g5⟩ := id G
  exact va_zald hx hb hK (va_P1 (hR.1 i _ hh).1) 0 t rfl (ktys_get ht) hin d (kk p l e R s m args below meth c H0 D ty ad mc ms H locs cells slots Qc XC ls G hl)
theorem aw_cald {i t N : Nat} {f : Nat → Int32} {x : Int32} (d : decode M.2.1 pc = .ok (.caload, 1)) (hh : h i = some (.inl (t, N, .inl f))) (ht : ktl[t]? = some .char) (hin : vp_in x N)
    (kk : AW M dep fx Φ k n (pc + 1) lv (.int (f x.toNatClampNeg) :: st) h) : AW M dep fx Φ k n pc lv (.int x :: .ref i :: st) h := by
  intro p l e R s m args below meth c H0 D ty ad mc ms H locs cells slots Qc XC ls G hl
  obtain ⟨⟨hx, hb, a3, a4, a5, a6, a7, hown, hK, hC, a11⟩, g2, g3, hR, g5⟩ := id G
  exact va_cald hx hb hK (va_P1 (hR.1 i _ hh).1) 0 t rfl (ktys_get ht) hin d (kk p l e R s m args below meth c H0 D ty ad mc ms H locs cells slots Qc XC ls G hl)
theorem aw_lald {i t N : Nat} {f : Nat → Int64} {x : Int32} (d : decode M.2.1 pc = .ok (.laload, 1)) (hh : h i = some (.inl (t, N, .inr (.inl f)))) (ht : ktl[t]? = some .long) (hin : vp_in x N)
    (kk : AW M dep fx Φ k n (pc + 1) lv (.long (f x.toNatClampNeg) :: st) h) : AW M dep fx Φ k n pc lv (.int x :: .ref i :: st) h := by
  intro p l e R s m args below meth c H0 D ty ad mc ms H locs cells slots Qc XC ls G hl
  obtain ⟨⟨hx, hb, a3, a4, a5, a6, a7, hown, hK, hC, a11⟩, g2, g3, hR, g5⟩ := id G
  exact va_lald hx hb hK (va_P1 (hR.1 i _ hh).1) 0 t rfl (ktys_get ht) hin d (kk p l e R s m args below meth c H0 D ty ad mc ms H locs cells slots Qc XC ls G hl)
theorem aw_dald {i t N : Nat} {f : Nat → UInt64} {x : Int32} (d : decode M.2.1 pc = .ok (.daload, 1)) (hh : h i = some (.inl (t, N, .inr (.inr (.inr (.inl f)))))) (ht : ktl[t]? = some .double) (hin : vp_in x N)
    (kk : AW M dep fx Φ k n (pc + 1) lv (.double (f x.toNatClampNeg) :: st) h) : AW M dep fx Φ k n pc lv (.int x :: .ref i :: st) h := by
  intro p l e R s m args below meth c H0 D ty ad mc ms H locs cells slots Qc XC ls G hl
  obtain ⟨⟨hx, hb, a3, a4, a5, a6, a7, hown, hK, hC, a11⟩, g2, g3, hR, g5⟩ := id G
  exact va_dald hx hb hK (va_P1 (hR.1 i _ hh).1) 0 t rfl (ktys_get ht) hin d (kk p l e R s m args below meth c H0 D ty ad mc ms H locs cells slots Qc XC ls G hl)
theorem aw_aald {i t N r : Nat} {C : String} {f : Nat → Option Nat} {x : Int32} (d : decode M.2.1 pc = .ok (.aaload, 1)) (hh : h i = some (.inl (t, N, .inr (.inr (.inr (.inr f)))))) (ht : ktl[t]? = some (.object C)) (hin : vp_in x N) (hr : f x.toNatClampNeg = some r)
    (kk : AW M dep fx Φ k n (pc + 1) lv (.ref r :: st) h) : AW M dep fx Φ k n pc lv (.int x :: .ref i :: st) h := by
  intro p l e R s m args below meth c H0 D ty ad mc ms H locs cells slots Qc XC ls G hl
  obtain ⟨⟨hx, hb, a3, a4, a5, a6, a7, hown, hK, hC, a11⟩, g2, g3, hR, g5⟩ := id G
  refine va_aldq hx hb hK (va_P1 (hR.1 i _ hh).1) 0 t rfl (ktys_get ht) hin d ?_
  show W _ _ _ _ _ _ _ _ _ _ _ _ _ _ _ (F0 m (pc + 1) ls (va_rf ((f x.toNatClampNeg).map ad) :: cvs ad st))
  rw [hr]
  exact kk p l e R s m args below meth c H0 D ty ad mc ms H locs cells slots Qc XC ls G hl
theorem aw_alen {i t N : Nat} {ft : FieldType} {a : vp_A} {v : Int32} (d : decode M.2.1 pc = .ok (.arraylength, 1)) (hh : h i = some (.inl (t, a))) (ht : ktl[t]? = some ft) (hN : a.1 = N) (hv : Int32.ofNat N = v)
    (kk : AW M dep fx Φ k n (pc + 1) lv (.int v :: st) h) : AW M dep fx Φ k n pc lv (.ref i :: st) h := by
  intro p l e R s m args below meth c H0 D ty ad mc ms H locs cells slots Qc XC ls G hl
  obtain ⟨⟨hx, hb, a3, a4, a5, a6, a7, hown, hK, hC, a11⟩, g2, g3, hR, g5⟩ := id G
  refine va_alen hx hb hK (va_P1 (hR.1 i _ hh).1) 0 t rfl (ktys_get ht) (v := v) ?_ d (kk p l e R s m args below meth c H0 D ty ad mc ms H locs cells slots Qc XC ls G hl)
  obtain ⟨N', b⟩ := a
  cases hN
  rcases b with f | f | f | f | f <;> exact hv
theorem aw_iast {i t N : Nat} {f : Nat → Int32} {x y : Int32} (d : decode M.2.1 pc = .ok (.iastore, 1)) (hh : h i = some (.inl (t, N, .inl f))) (ht : ktl[t]? = some .int) (hin : vp_in x N)
    (kk : AW M dep fx Φ k n (pc + 1) lv st (uph h i (.inl (t, N, .inl (upd f x.toNatClampNeg y))))) : AW M dep fx Φ k n pc lv (.int y :: .int x :: .ref i :: st) h := by
  intro p l e R s m args below meth c H0 D ty ad mc ms H locs cells slots Qc XC ls G hl
  obtain ⟨⟨hx, hb, a3, a4, a5, a6, a7, hown, hK, hC, a11⟩, g2, g3, hR, g5⟩ := id G
  have hat := (hR.1 i _ hh).1
  refine W.iast hx hb hat ((hK.2 t _ (ktys_get ht)).1 N (fun j => .int (f j))) (fun q => by cases q) (by show ¬ (x < 0 ∨ (arrV _ _ _).slots.size ≤ _); rw [arrV_size]; exact hin) rfl rfl d fun H1 e1 z oq => ?_
  refine kk p l e R s m args below meth c H0 D ty ad mc ms H1 _ cells slots Qc XC ls (G.put hh ?_ z oq) hl
  show H1[ad i]? = some (vp_cell _ _)
  rw [e1]
  show some ((vp_cell (ty t) (N, .inl f)).setSlot _ _) = some (vp_cell (ty t) (N, .inl _))
  rw [vp_cell_i, vp_cell_i, arrV_store]
  congr 2
  funext q
  by_cases hq : q = x.toNatClampNeg
  · subst hq
    simp [updV, upd]
  · simp [updV, upd, hq]
theorem aw_zast {i t N : Nat} {f : Nat → Int32} {x y : Int32} (d : decode M.2.1 pc = .ok (.bastore, 1)) (hh : h i = some (.inl (t, N, .inl f))) (ht : ktl[t]? = some .boolean) (hin : vp_in x N) (hy : narrow .boolean (.int y) = .int y)
    (kk : AW M dep fx Φ k n (pc + 1) lv st (uph h i (.inl (t, N, .inl (upd f x.toNatClampNeg y))))) : AW M dep fx Φ k n pc lv (.int y :: .int x :: .ref i :: st) h := by
  intro p l e R s m args below meth c H0 D ty ad mc ms H locs cells slots Qc XC ls G hl
  obtain ⟨⟨hx, hb, a3, a4, a5, a6, a7, hown, hK, hC, a11⟩, g2, g3, hR, g5⟩ := id G
  have hat := (hR.1 i _ hh).1
  refine W.zast hx hb hat ((hK.2 t _ (ktys_get ht)).1 N (fun j => .int (f j))) (fun q => by cases q) (by show ¬ (x < 0 ∨ (arrV _ _ _).slots.size ≤ _); rw [arrV_size]; exact hin) rfl rfl d fun H1 e1 z oq => ?_
  refine kk p l e R s m args below meth c H0 D ty ad mc ms H1 _ cells slots Qc XC ls (G.put hh ?_ z oq) hl
  show H1[ad i]? = some (vp_cell _ _)
  rw [e1, hy]
  show some ((vp_cell (ty t) (N, .inl f)).setSlot _ _) = some (vp_cell (ty t) (N, .inl _))
  rw [vp_cell_i, vp_cell_i, arrV_store]
  congr 2
  funext q
  by_cases hq : q = x.toNatClampNeg
  · subst hq
    simp [updV, upd]
  · simp [updV, upd, hq]
theorem aw_cast {i t N : Nat} {f : Nat → Int32} {x y : Int32} (d : decode M.2.1 pc = .ok (.castore, 1)) (hh : h i = some (.inl (t, N, .inl f))) (ht : ktl[t]? = some .char) (hin : vp_in x N) (hy : narrow .char (.int y) = .int y)
    (kk : AW M dep fx Φ k n (pc + 1) lv st (uph h i (.inl (t, N, .inl (upd f x.toNatClampNeg y))))) : AW M dep fx Φ k n pc lv (.int y :: .int x :: .ref i :: st) h := by
  intro p l e R s m args below meth c H0 D ty ad mc ms H locs cells slots Qc XC ls G hl
  obtain ⟨⟨hx, hb, a3, a4, a5, a6, a7, hown, hK, hC, a11⟩, g2, g3, hR, g5⟩ := id G
  have hat := (hR.1 i _ hh).1
  refine W.cast hx hb hat ((hK.2 t _ (ktys_get ht)).1 N (fun j => .int (f j))) (fun q => by cases q) (by show ¬ (x < 0 ∨ (arrV _ _ _).slots.size ≤ _); rw [arrV_size]; exact hin) rfl rfl d fun H1 e1 z oq => ?_
  refine kk p l e R s m args below meth c H0 D ty ad mc ms H1 _ cells slots Qc XC ls (G.put hh ?_ z oq) hl
  show H1[ad i]? = some (vp_cell _ _)
  rw [e1, hy]
  show some ((vp_cell (ty t) (N, .inl f)).setSlot _ _) = some (vp_cell (ty t) (N, .inl _))
  rw [vp_cell_i, vp_cell_i, arrV_store]
  congr 2
  funext q
  by_cases hq : q = x.toNatClampNeg
  · subst hq
    simp [updV, upd]
  · simp [updV, upd, hq]
theorem aw_last {i t N : Nat} {f : Nat → Int64} {x : Int32} {y : Int64} (d : decode M.2.1 pc = .ok (.lastore, 1)) (hh : h i = some (.inl (t, N, .inr (.inl f)))) (ht : ktl[t]? = some .long) (hin : vp_in x N)
    (kk : AW M dep fx Φ k n (pc + 1) lv st (uph h i (.inl (t, N, .inr (.inl (vp_updL f x.toNatClampNeg y)))))) : AW M dep fx Φ k n pc lv (.long y :: .int x :: .ref i :: st) h := by
  intro p l e R s m args below meth c H0 D ty ad mc ms H locs cells slots Qc XC ls G hl
  obtain ⟨⟨hx, hb, a3, a4, a5, a6, a7, hown, hK, hC, a11⟩, g2, g3, hR, g5⟩ := id G
  have hat := (hR.1 i _ hh).1
  refine W.last hx hb hat ((hK.2 t _ (ktys_get ht)).1 N (fun j => .long (f j))) (fun q => by cases q) (by show ¬ (x < 0 ∨ (arrV _ _ _).slots.size ≤ _); rw [arrV_size]; exact hin) rfl rfl d fun H1 e1 z oq => ?_
  refine kk p l e R s m args below meth c H0 D ty ad mc ms H1 _ cells slots Qc XC ls (G.put hh ?_ z oq) hl
  show H1[ad i]? = some (vp_cell _ _)
  rw [e1]
  show some ((vp_cell (ty t) (N, .inr (.inl f))).setSlot _ _) = some (vp_cell (ty t) (N, .inr (.inl _)))
  rw [vp_cell_l, vp_cell_l, arrV_store]
  congr 2
  funext q
  by_cases hq : q = x.toNatClampNeg
  · subst hq
    simp [updV, vp_updL]
  · simp [updV, vp_updL, hq]
theorem aw_dast {i t N : Nat} {f : Nat → UInt64} {x : Int32} {y : UInt64} (d : decode M.2.1 pc = .ok (.dastore, 1)) (hh : h i = some (.inl (t, N, .inr (.inr (.inr (.inl f)))))) (ht : ktl[t]? = some .double) (hin : vp_in x N)
    (kk : AW M dep fx Φ k n (pc + 1) lv st (uph h i (.inl (t, N, .inr (.inr (.inr (.inl (fun j => if j = x.toNatClampNeg then y else f j)))))))) : AW M dep fx Φ k n pc lv (.double y :: .int x :: .ref i :: st) h := by
  intro p l e R s m args below meth c H0 D ty ad mc ms H locs cells slots Qc XC ls G hl
  obtain ⟨⟨hx, hb, a3, a4, a5, a6, a7, hown, hK, hC, a11⟩, g2, g3, hR, g5⟩ := id G
  have hat := (hR.1 i _ hh).1
  refine W.dast hx hb hat ((hK.2 t _ (ktys_get ht)).1 N (fun j => .double (f j))) (fun q => by cases q) (by show ¬ (x < 0 ∨ (arrV _ _ _).slots.size ≤ _); rw [arrV_size]; exact hin) rfl rfl d fun H1 e1 z oq => ?_
  refine kk p l e R s m args below meth c H0 D ty ad mc ms H1 _ cells slots Qc XC ls (G.put hh ?_ z oq) hl
  show H1[ad i]? = some (vp_cell _ _)
  rw [e1]
  show some ((vp_cell (ty t) (N, .inr (.inr (.inr (.inl f))))).setSlot _ _) = some (vp_cell (ty t) (N, .inr (.inr (.inr (.inl _)))))
  rw [vp_cell_d, vp_cell_d, arrV_store]
  congr 2
  funext q
  by_cases hq : q = x.toNatClampNeg
  · subst hq
    simp [updV]
  · simp [updV, hq]
theorem aw_iret {x : Int32} (d : decode M.2.1 pc = .ok (.ireturn, 1)) (hr : M.2.2.2.1 = some .int) (hp : Φ (.inl (some (.int x))) h) : AW M dep fx Φ k n pc lv [.int x] h := by
  intro p l e R s m args below meth c H0 D ty ad mc ms H locs cells slots Qc XC ls G hl
  obtain ⟨⟨hx, hb, a3, a4, hr', hlo, a11⟩, g2, g3, hR, hS, hQ, hX⟩ := G
  refine W.widen (k := mc) (n := ms) (by omega) (by omega) (vx_ret ?_)
  exact W.iret hx hb (hr'.trans hr) (fun t ht hW => hQ (some (.int x)) h ad t (fun _ => rfl) (fun _ _ _ => rfl) hp (by rw [ht]; exact hR) (by rw [ht]; exact hS.1) hW.alike) hS.2.2 d hlo
theorem aw_zret {x : Int32} (d : decode M.2.1 pc = .ok (.ireturn, 1)) (hr : M.2.2.2.1 = some .boolean) (hx : narrow .boolean (.int x) = .int x) (hp : Φ (.inl (some (.int x))) h) : AW M dep fx Φ k n pc lv [.int x] h := by
  intro p l e R s m args below meth c H0 D ty ad mc ms H locs cells slots Qc XC ls G hl
  obtain ⟨⟨hx', hb, a3, a4, hr', hlo, a11⟩, g2, g3, hR, hS, hQ, hX⟩ := G
  refine W.widen (k := mc) (n := ms) (by omega) (by omega) (vx_ret ?_)
  exact W.zret hx' hb (hr'.trans hr) hx (fun t ht hW => hQ (some (.int x)) h ad t (fun _ => rfl) (fun _ _ _ => rfl) hp (by rw [ht]; exact hR) (by rw [ht]; exact hS.1) hW.alike) hS.2.2 d hlo
theorem aw_lret {x : Int64} (d : decode M.2.1 pc = .ok (.lreturn, 1)) (hr : M.2.2.2.1 = some .long) (hp : Φ (.inl (some (.long x))) h) : AW M dep fx Φ k n pc lv [.long x] h := by
  intro p l e R s m args below meth c H0 D ty ad mc ms H locs cells slots Qc XC ls G hl
  obtain ⟨⟨hx, hb, a3, a4, hr', hlo, a11⟩, g2, g3, hR, hS, hQ, hX⟩ := G
  refine W.widen (k := mc) (n := ms) (by omega) (by omega) (vx_ret ?_)
  exact W.lret hx hb (hr'.trans hr) (fun t ht hW => hQ (some (.long x)) h ad t (fun _ => rfl) (fun _ _ _ => rfl) hp (by rw [ht]; exact hR) (by rw [ht]; exact hS.1) hW.alike) hS.2.2 d hlo
theorem aw_fret {x : UInt32} (d : decode M.2.1 pc = .ok (.freturn, 1)) (hr : M.2.2.2.1 = some .float) (hp : Φ (.inl (some (.float x))) h) : AW M dep fx Φ k n pc lv [.float x] h := by
  intro p l e R s m args below meth c H0 D ty ad mc ms H locs cells slots Qc XC ls G hl
  obtain ⟨⟨hx, hb, a3, a4, hr', hlo, a11⟩, g2, g3, hR, hS, hQ, hX⟩ := G
  refine W.widen (k := mc) (n := ms) (by omega) (by omega) (vx_ret ?_)
  exact W.fret hx hb (hr'.trans hr) (fun t ht hW => hQ (some (.float x)) h ad t (fun _ => rfl) (fun _ _ _ => rfl) hp (by rw [ht]; exact hR) (by rw [ht]; exact hS.1) hW.alike) hS.2.2 d hlo
theorem aw_aret {i : Nat} {C : String} (d : decode M.2.1 pc = .ok (.areturn, 1)) (hr : M.2.2.2.1 = some (.object C)) (hp : Φ (.inl (some (.ref i))) h) : AW M dep fx Φ k n pc lv [.ref i] h := by
  intro p l e R s m args below meth c H0 D ty ad mc ms H locs cells slots Qc XC ls G hl
  obtain ⟨⟨hx, hb, a3, a4, hr', hlo, a11⟩, g2, g3, hR, hS, hQ, hX⟩ := G
  refine W.widen (k := mc) (n := ms) (by omega) (by omega) (vx_ret ?_)
  exact W.aret hx hb (hr'.trans hr) (Or.inl ⟨C, rfl⟩) (Or.inr ⟨ad i, rfl⟩) (fun t ht hW => hQ (some (.ref i)) h ad t (fun _ => rfl) (fun _ _ _ => rfl) hp (by rw [ht]; exact hR) (by rw [ht]; exact hS.1) hW.alike) hS.2.2 d hlo
theorem aw_vret (d : decode M.2.1 pc = .ok (.return_, 1)) (hr : M.2.2.2.1 = none) (hp : Φ (.inl none) h) : AW M dep fx Φ k n pc lv [] h := by
  intro p l e R s m args below meth c H0 D ty ad mc ms H locs cells slots Qc XC ls G hl
  obtain ⟨⟨hx, hb, a3, a4, hr', hlo, a11⟩, g2, g3, hR, hS, hQ, hX⟩ := G
  refine W.widen (k := mc) (n := ms) (by omega) (by omega) (vx_ret ?_)
  exact W.vret hx hb (hr'.trans hr) (fun t ht hW => hQ none h ad t (fun _ => rfl) (fun _ _ _ => rfl) hp (by rw [ht]; exact hR) (by rw [ht]; exact hS.1) hW.alike) hS.2.2 d hlo
end AWH
end
section
/-! calls -/
def AC (M : MI) (dep : Nat) (fx : Bool) (Φ : Rs → ah → Prop) (k n : Nat) (as : List Value) (h : ah) : Prop := AW M dep fx Φ k n 0 (lv_args 0 as) [] h
theorem args_cv (ad : Nat → Nat) : ∀ (as : List Value) (i : Nat), lv_args i (as.map (cv ad)) = cvl ad (lv_args i as) := by
  intro as
  induction as with
  | nil => intro i; rfl
  | cons a l ih =>
    intro i
    simp only [List.map_cons, lv_args, cvl, cv_cat]
    rw [ih]
    rfl
theorem sl_cv (ad : Nat → Nat) (as : List Value) : (lg_sl (as.map (cv ad))).length = (lg_sl as).length := by
  induction as with
  | nil => rfl
  | cons a l ih =>
    simp only [lg_sl, List.map_cons, List.flatMap_cons, List.length_append, cv_cat] at ih ⊢
    rw [ih]
    split <;> rfl
def Pm (H0 : Heap) (D : va_G) (ty : Nat → ClassId) (ad : Nat → Nat) (h : ah) (as : List Value) : Array Value → State → Prop := va_Pc (as.map (cv ad)) (fun U => CF D U H0 ∧ KK D ty U ∧ Rep H0 D ty ad h U.heap)
def Qm (fx : Bool) (Φ : Rs → ah → Prop) (H0 : Heap) (D : va_G) (ty : Nat → ClassId) (ad : Nat → Nat) (h : ah) : Array Value → State → Outcome → State → Prop := fun _ st oc t => ∃ (v : Option Value) (h' : ah) (ad' : Nat → Nat), (fx = true → ad' = ad) ∧ agr h ad ad' ∧ oc = .returned (v.map (cv ad')) ∧ Φ (.inl v) h' ∧ Rep H0 D ty ad' h' t.heap ∧ st.heap.size ≤ t.heap.size
def Xm (fx : Bool) (Φ : Rs → ah → Prop) (H0 : Heap) (D : va_G) (ty : Nat → ClassId) (ad : Nat → Nat) (h : ah) : String → State → State → Prop := fun E st t => ∃ (h' : ah) (ad' : Nat → Nat), (fx = true → ad' = ad) ∧ agr h ad ad' ∧ Φ (.inr E) h' ∧ Rep H0 D ty ad' h' t.heap ∧ st.heap.size ≤ t.heap.size
theorem Pm.blind {H0 : Heap} {D : va_G} {ty : Nat → ClassId} {ad : Nat → Nat} {h : ah} {as : List Value} : FrameBlind (Pm H0 D ty ad h as) := by
  intro a U g mk q
  obtain ⟨q0, ⟨s0, b, h0, hW, hts, hn, hct⟩, qK, qR⟩ := q
  exact ⟨q0, ⟨s0, b, h0, hW, hts, hn, hct⟩, va_K.moved (u := U) (U := U.calling g mk a) (Vm.Alike.refl U.vm) qK, qR⟩
abbrev rmd (dep k n : Nat) : Room := { frames := dep, cells := k, slots := n, locals := 60 * dep }
theorem AC.met {M : MI} {dep k n : Nat} {fx : Bool} {Φ : Rs → ah → Prop} {as : List Value} {h : ah} (hA : AC M dep fx Φ k n as h) (hy : plainName M.1.cls = true) (ht : M.2.2.2.2 = []) (hlen : (lg_sl as).length ≤ M.2.2.1) (l : Launch) (hl : l.stackTraces = false) (H0 : Heap) (D : va_G) (ty : Nat → ClassId) (ad : Nat → Nat) :
    vx_Met l M.1 [Cond.code M.1 M.2.1 M.2.2.1 M.2.2.2.1] (rmd dep k n) (Pm H0 D ty ad h as) (Qm fx Φ H0 D ty ad h) (Xm fx Φ H0 D ty ad h) k n (fre H0) := by
  refine vx_ofW (cc := M.2.1) (maxL := M.2.2.1) (ret := M.2.2.2.1) (ws' := []) hy rfl ?_
  intro p e s m args below meth c s₁ B hml htab hv
  obtain ⟨rfl, hC, hK, hR⟩ := hv
  rw [lg_entry_eq]
  have hl1 := lv_entry (as.map (cv ad)) (n := M.2.2.1) (by rw [sl_cv]; exact hlen)
  rw [args_cv] at hl1
  have hsz := hR.2.2.1
  refine hA p l e (rmd dep k n) s m _ below meth c H0 D ty ad k n s.heap [] 0 0 _ _ _ ⟨⟨B.exec, B.bytes, hl, hml, B.returns, B.notSynchronized, (name_of_methodNamed B.named B.method).1, findClass_of_methodNamed B.named, hK, hC, Nat.le_refl _, Nat.le_refl _, Nat.le_refl _, Nat.le_refl _, hsz, ?_⟩, by omega, by omega, hR, va_S.rf, ?_, ?_⟩ hl1
  · rw [ht]
    exact List.eq_nil_iff_forall_not_mem.mpr fun x hx => htab x hx
  · intro v h' ad' t a b c' d' e' f'
    exact ⟨v, h', ad', a, b, rfl, c', d', e'⟩
  · intro E h' ad' t a b c' d' e' f'
    exact ⟨h', ad', a, b, c', d', e'⟩
/-- what a method of the tables is, with so many arguments (the receiver apart) -/
def MO (M : MI) (na : Nat) : Prop := Cond.code M.1 M.2.1 M.2.2.1 M.2.2.2.1 ∈ lw_tbl ∧ Cond.initialized M.1.cls ∈ lw_tbl ∧ M.2.2.2.2 = [] ∧ plainName M.1.cls = true ∧ (M.1.cls ≠ "java/lang/invoke/MethodHandle" ∧ M.1.cls ≠ "java/lang/invoke/VarHandle") ∧ (parseMethodDescriptor M.1.desc).map (fun d => d.parameters.length) = some na ∧ M.2.2.1 ≤ 30
def MV (M : MI) : Prop := Cond.instanceMethod M.1 ∈ lw_tbl ∧ Cond.selects M.1.cls M.1 M.1 ∈ lw_tbl
def MS (M : MI) : Prop := Cond.static M.1 ∈ lw_tbl
theorem callB_mk {M M' : MI} {dep dep' k n na idx mc ms : Nat} {p : Program} {l : Launch} {R : Room} {s : State} {m : MethodId} {args : Array Value} {meth : Method} {c : Code} {H0 : Heap} {D : va_G} {ty : Nat → ClassId}
    (G : Gd M dep p l R s m meth c H0 D ty mc ms) (ho : MO M' na) (hl : Cond.methodLink M.1.cls idx M'.1 ∈ lw_tbl) (hd : dep' + 1 ≤ dep) :
    CallB R s args M.1.cls idx M'.1 M'.2.1 M'.2.2.1 M'.2.2.2.1 [Cond.code M'.1 M'.2.1 M'.2.2.1 M'.2.2.2.1] (rmd dep' k n) k n na := by
  obtain ⟨a1, a2, a3, a4, a5, a6, a7, a8, a9, hC, b1, b2, b3⟩ := G
  obtain ⟨o1, o2, o3, o4, o5, o6, o7⟩ := ho
  refine ⟨rfl, rfl, by show dep' + 1 ≤ _; omega, by show 8 + (M'.2.2.1 + 11) + 60 * dep' ≤ _; omega, fun w hw a' U hW => ?_, List.mem_cons_self, hC.word o1 rfl args, hC.word o2 rfl args, o5, fun sig hsig => ?_, hC.word hl rfl args⟩
  · rw [List.mem_singleton] at hw
    subst hw
    exact (hC.warm hW).word o1 rfl a'
  · rw [hsig] at o6
    exact (Option.some.inj o6).symm
section AWC
variable {M M' : MI} {dep dep' : Nat} {fx fx' : Bool} {Φ Φ' : Rs → ah → Prop} {k n k' n' pc na idx : Nat} {lv : List (Nat × Value)} {st stk as : List Value} {h : ah}
/-- refs that are told stay where they are -/
def okv (h : ah) (l : List Value) : Prop := ∀ i, Value.ref i ∈ l → 200 ≤ i ∨ ∃ x, h i = some x
theorem cvs_agr {ad ad' : Nat → Nat} {l : List Value} (ho : okv h l) (hc : ∀ k, 200 ≤ k → ad' k = ad k) (ha : agr h ad ad') : cvs ad' l = cvs ad l := by
  refine List.map_congr_left fun v hv => ?_
  cases v with
  | ref i =>
    show Value.ref (ad' i) = Value.ref (ad i)
    rcases ho i hv with hq | ⟨x, hx⟩
    · rw [hc i hq]
    · rw [ha i x hx]
  | _ => rfl
theorem cvl_agr {ad ad' : Nat → Nat} {l : List (Nat × Value)} (ho : okv h (l.map (fun q => q.2))) (hc : ∀ k, 200 ≤ k → ad' k = ad k) (ha : agr h ad ad') : cvl ad' l = cvl ad l := by
  refine List.map_congr_left fun q hq => ?_
  obtain ⟨j, v⟩ := q
  cases v with
  | ref i =>
    show (j, Value.ref (ad' i)) = (j, Value.ref (ad i))
    rcases ho i (List.mem_map.mpr ⟨_, hq, rfl⟩) with hq | ⟨x, hx⟩
    · rw [hc i hq]
    · rw [ha i x hx]
  | _ => rfl
/-- what stands behind a call that has come back -/
theorem AK.back {p : Program} {l : Launch} {R : Room} {s : State} {m : MethodId} {args : Array Value} {meth : Method} {c : Code} {H0 : Heap} {D : va_G} {ty : Nat → ClassId} {ad ad' : Nat → Nat} {mc ms : Nat} {H : Heap} {locs L : List Loc} {cells slots : Nat} {Qc : Array Value → State → Outcome → State → Prop} {XC : String → State → State → Prop} {h' : ah} {st₀ t T' : State} {c1 s1 : Nat}
    (G : AK M dep fx Φ k n h p l R s m args meth c H0 D ty ad mc ms H locs cells slots Qc XC) (h0 : st₀.heap = H) (e1 : T'.heap = t.heap) (hfx : fx = true → ad' = ad) (ha : agr h ad ad') (hR' : Rep H0 D ty ad' h' t.heap) (hz : st₀.heap.size ≤ t.heap.size) (hL : ∀ q ∈ L, fre H0 q.base) (hd : ∀ i x, h i = some x → ∃ y, h' i = some y) (hc1 : c1 ≤ k) (hs1 : s1 ≤ n) :
    AK M dep fx Φ (k - c1) (n - s1) h' p l R s m args meth c H0 D ty ad' mc ms T'.heap (locs ++ L) (cells + c1) (slots + s1) Qc XC := by
  obtain ⟨g1, g2, g3, hR, hS, hQ, hX⟩ := G
  have ha2 : ∀ ad'', agr h' ad' ad'' → agr h ad ad'' := by
    intro ad'' q i x hx
    obtain ⟨y, hy⟩ := hd i x hx
    rw [q i y hy, ha i x hx]
  refine ⟨g1, by omega, by omega, by rw [e1]; exact hR', ⟨?_, fun q h1 h2 => ?_, fun q hq => ?_⟩, fun v h2 ad2 t2 a b => hQ v h2 ad2 t2 (fun z => (a z).trans (hfx z)) (ha2 ad2 b), fun E h2 ad2 t2 a b => hX E h2 ad2 t2 (fun z => (a z).trans (hfx z)) (ha2 ad2 b)⟩
  · rw [e1]; rw [h0] at hz; exact Nat.le_trans hS.1 hz
  · have hq0 : q < H0.size := Nat.lt_of_not_le h2
    rw [e1, hR'.2.2.2.1 q hq0, ← hR.2.2.2.1 q hq0]
    exact hS.2.1 q h1 h2
  · rcases List.mem_append.mp hq with z | z
    · exact hS.2.2 q z
    · exact hL q z
theorem aw_callV {b ci N : Nat} {C : String} {T : u_T} {fs : List Value} (d : decode M.2.1 pc = .ok (.invokevirtual idx, 3)) (ht0 : M.2.2.2.2 = []) (hl0 : Cond.methodLink M.1.cls idx M'.1 ∈ lw_tbl) (ho : MO M' na) (hv : MV M') (hA : AC M' dep' fx' Φ' k' n' (.ref b :: as) h) (hst : stk = as.reverse ++ .ref b :: st) (hh : h b = some (.inr (ci, fs))) (hc : kcl[ci]? = some (C, T, N)) (hcl : M'.1.cls = C) (hna : as.length = na) (hlen : (lg_sl (.ref b :: as)).length ≤ M'.2.2.1) (hd : dep' + 1 ≤ dep) (hcat : (st.map fun v => v.category).sum ≤ 8) (hk : k' ≤ k) (hn : n' ≤ n) (hfx : fx = true → fx' = true) (hdom : ∀ v h', Φ' v h' → ∀ i x, h i = some x → ∃ y, h' i = some y) (hok : fx' = true ∨ (okv h st ∧ okv h (lv.map (fun q => q.2))))
    (kk : ∀ v h', Φ' (.inl v) h' → AW M dep fx Φ (k - k') (n - n') (pc + 3) lv (v.toList ++ st) h') (kx : ∀ E h', Φ' (.inr E) h' → Φ (.inr E) h') : AW M dep fx Φ k n pc lv stk h := by
  subst hst
  intro p l e R s m args below meth c H0 D ty ad mc ms H locs cells slots Qc XC ls G hl
  obtain ⟨⟨hx, hb, htr, hml, hr, hlo, hnm, hown, hK, hC, b1, b2, b3, b4, b5, htb⟩, g2, g3, hR, hS, hQX⟩ := id G
  have hM := hA.met ho.2.2.2.1 ho.2.2.1 hlen l htr H0 D ty ad
  have hcb := callB_mk (args := args) (k := k') (n := n') G.1 ho hl0 hd
  obtain ⟨r0, hr1, cell, q1, q2, q3, q4⟩ := (hR.1 b _ hh).1
  have hcls := (hK.1 ci _ hc).2.1
  have run := vx_runV (e := e) (meth := meth) (below := below) (R := R) (As := as.map (cv ad)) (rest := cvs ad st) (g := F0 m pc ls (cvs ad (as.reverse ++ .ref b :: st))) (Ts := []) (C := C) (locs := locs) (cells := cells) (slots := slots) (b := ad b) ⟨hx, hb, hml, hown, fun _ hq => nomatch hq⟩ hM ⟨hcb, hC.word hv.1 rfl args, by rw [← hcl]; exact hC.word hv.2 rfl args⟩ ⟨Pm.blind, ⟨cell, q1, by rw [q3]; rfl, by rw [q2]; exact hcls⟩, fun U hU hW => ⟨rfl, hC.warm hW, va_K.moved hW.alike hK, by rw [hU]; exact hR⟩⟩ rfl (by simpa using hna) hl.1 (by simp [cvs, cv]) (lv_room (by rw [cvs_cat]; exact hcat)) d ⟨by omega, by omega⟩
  intro T hT X
  rcases run T hT X with ⟨v0, st₀, t, T', L, h0, X', hL, e1, e2, ⟨v, h', ad', c1, c2, c3, c4, c5, c6⟩, st1⟩ | ⟨q, st₀, t, T', L, E, ce0, h0, X', hL, e1, e2, ⟨h', ad', c1, c2, c4, c5, c6⟩, hce, hcv, hcl9, st1⟩
  · cases c3
    have e3 : cvs ad' st = cvs ad st := hok.elim (fun z => by rw [c1 z]) (fun z => cvs_agr z.1 (fun k hk => by rw [c5.2.2.2.2 k hk, hR.2.2.2.2 k hk]) c2)
    have e4 : cvl ad' lv = cvl ad lv := hok.elim (fun z => by rw [c1 z]) (fun z => cvl_agr z.2 (fun k hk => by rw [c5.2.2.2.2 k hk, hR.2.2.2.2 k hk]) c2)
    obtain ⟨t2, a1, b1'⟩ := kk v h' c4 p l e R s m args below meth c H0 D ty ad' mc ms T'.heap (locs ++ L) (cells + k') (slots + n') Qc XC ls (G.back h0 e1 (fun z => c1 (hfx z)) c2 c5 c6 hL (hdom _ _ c4) hk hn) (by rw [e4]; exact hl) T' rfl X'
    refine ⟨t2, st1 t2 ?_, b1'⟩
    have e5 : cvs ad' (v.toList ++ st) = (v.map (cv ad')).toList ++ cvs ad st := by
      rw [← e3]
      cases v <;> rfl
    rw [e5] at a1
    exact a1
  · have hout : ∀ x ∈ c.exceptionTable.toList, covers x pc = false := by
      rw [htb, ht0]
      intro x hx'
      cases hx'
    have K := G.back (L := L) (c1 := k') (s1 := n') h0 e1 (fun z => c1 (hfx z)) c2 c5 c6 hL (hdom _ _ c4) hk hn
    have hh9 := vx_out (p := p) (l := l) (e := e) (R := R) (args := args) (below := below) (locs := locs ++ L) (cells := cells + k') (slots := slots + n') (Qc := Qc) (XC := XC) (free := fre H0) (ls := ls) (rest := cvs ad st) (mc := mc) (ms := ms) (pc := pc) hout hlo (H := T'.heap) (by rw [e1]; exact hce) hcv hcl9 (fun t9 ht9 hA9 => K.2.2.2.2.2.2 E h' ad' t9 (fun _ => rfl) (fun _ _ _ => rfl) (kx E h' c4) (by rw [ht9]; exact K.2.2.2.1) (by rw [ht9]; exact K.2.2.2.2.1.1) hA9) K.2.2.2.2.1.2.2 (by have := K.2.1; omega) (by have := K.2.2.1; omega) T' rfl X'
    obtain ⟨t2, a1, b1'⟩ := hh9
    exact ⟨t2, st1.trans a1, b1'⟩
theorem aw_callS (d : decode M.2.1 pc = .ok (.invokestatic idx, 3)) (ht0 : M.2.2.2.2 = []) (hl0 : Cond.methodLink M.1.cls idx M'.1 ∈ lw_tbl) (ho : MO M' na) (hv : MS M') (hA : AC M' dep' fx' Φ' k' n' as h) (hst : stk = as.reverse ++ st) (hna : as.length = na) (hlen : (lg_sl as).length ≤ M'.2.2.1) (hd : dep' + 1 ≤ dep) (hcat : (st.map fun v => v.category).sum ≤ 8) (hk : k' ≤ k) (hn : n' ≤ n) (hfx : fx = true → fx' = true) (hdom : ∀ v h', Φ' v h' → ∀ i x, h i = some x → ∃ y, h' i = some y) (hok : fx' = true ∨ (okv h st ∧ okv h (lv.map (fun q => q.2))))
    (kk : ∀ v h', Φ' (.inl v) h' → AW M dep fx Φ (k - k') (n - n') (pc + 3) lv (v.toList ++ st) h') (kx : ∀ E h', Φ' (.inr E) h' → Φ (.inr E) h') : AW M dep fx Φ k n pc lv stk h := by
  subst hst
  intro p l e R s m args below meth c H0 D ty ad mc ms H locs cells slots Qc XC ls G hl
  obtain ⟨⟨hx, hb, htr, hml, hr, hlo, hnm, hown, hK, hC, b1, b2, b3, b4, b5, htb⟩, g2, g3, hR, hS, hQX⟩ := id G
  have hM := hA.met ho.2.2.2.1 ho.2.2.1 hlen l htr H0 D ty ad
  have hcb := callB_mk (args := args) (k := k') (n := n') G.1 ho hl0 hd
  have run := vx_runS (e := e) (meth := meth) (below := below) (R := R) (As := as.map (cv ad)) (rest := cvs ad st) (g := F0 m pc ls (cvs ad (as.reverse ++ st))) (Ts := []) (locs := locs) (cells := cells) (slots := slots) ⟨hx, hb, hml, hown, fun _ hq => nomatch hq⟩ hM ⟨hcb, hC.word hv rfl args⟩ ⟨Pm.blind, fun U hU hW => ⟨rfl, hC.warm hW, va_K.moved hW.alike hK, by rw [hU]; exact hR⟩⟩ rfl (by simpa using hna) hl.1 (by simp [cvs]) (lv_room (by rw [cvs_cat]; exact hcat)) d ⟨by omega, by omega⟩
  intro T hT X
  rcases run T hT X with ⟨v0, st₀, t, T', L, h0, X', hL, e1, e2, ⟨v, h', ad', c1, c2, c3, c4, c5, c6⟩, st1⟩ | ⟨q, st₀, t, T', L, E, ce0, h0, X', hL, e1, e2, ⟨h', ad', c1, c2, c4, c5, c6⟩, hce, hcv, hcl9, st1⟩
  · cases c3
    have e3 : cvs ad' st = cvs ad st := hok.elim (fun z => by rw [c1 z]) (fun z => cvs_agr z.1 (fun k hk => by rw [c5.2.2.2.2 k hk, hR.2.2.2.2 k hk]) c2)
    have e4 : cvl ad' lv = cvl ad lv := hok.elim (fun z => by rw [c1 z]) (fun z => cvl_agr z.2 (fun k hk => by rw [c5.2.2.2.2 k hk, hR.2.2.2.2 k hk]) c2)
    obtain ⟨t2, a1, b1'⟩ := kk v h' c4 p l e R s m args below meth c H0 D ty ad' mc ms T'.heap (locs ++ L) (cells + k') (slots + n') Qc XC ls (G.back h0 e1 (fun z => c1 (hfx z)) c2 c5 c6 hL (hdom _ _ c4) hk hn) (by rw [e4]; exact hl) T' rfl X'
    refine ⟨t2, st1 t2 ?_, b1'⟩
    have e5 : cvs ad' (v.toList ++ st) = (v.map (cv ad')).toList ++ cvs ad st := by
      rw [← e3]
      cases v <;> rfl
    rw [e5] at a1
    exact a1
  · have hout : ∀ x ∈ c.exceptionTable.toList, covers x pc = false := by
      rw [htb, ht0]
      intro x hx'
      cases hx'
    have K := G.back (L := L) (c1 := k') (s1 := n') h0 e1 (fun z => c1 (hfx z)) c2 c5 c6 hL (hdom _ _ c4) hk hn
    have hh9 := vx_out (p := p) (l := l) (e := e) (R := R) (args := args) (below := below) (locs := locs ++ L) (cells := cells + k') (slots := slots + n') (Qc := Qc) (XC := XC) (free := fre H0) (ls := ls) (rest := cvs ad st) (mc := mc) (ms := ms) (pc := pc) hout hlo (H := T'.heap) (by rw [e1]; exact hce) hcv hcl9 (fun t9 ht9 hA9 => K.2.2.2.2.2.2 E h' ad' t9 (fun _ => rfl) (fun _ _ _ => rfl) (kx E h' c4) (by rw [ht9]; exact K.2.2.2.1) (by rw [ht9]; exact K.2.2.2.2.1.1) hA9) K.2.2.2.2.1.2.2 (by have := K.2.1; omega) (by have := K.2.2.1; omega) T' rfl X'
    obtain ⟨t2, a1, b1'⟩ := hh9
    exact ⟨t2, st1.trans a1, b1'⟩
end AWC
end
section
/-! throws -/
theorem CF.str {D : va_G} {s : State} {H0 : Heap} (hC : CF D s H0) {own text : String} {is : Nat} {cur : ClassId} (hcur : s.vm.findClass own = some cur) (hw : Cond.stringRef own is text ∈ lw_tbl) : ∃ sa, vk_R own is text sa s := by
  obtain ⟨s0, b, h0, hW, hts, hn, hct⟩ := hC
  have h1 := hts _ hw
  have h2 : s0.vm.findClass own = some cur := by rw [← hW.alike.findClass]; exact hcur
  obtain ⟨k, cf, i, a, -, -, -, -, -, hev⟩ := Cond.stringRef_spec h2 h1
  exact ⟨a, vk_R.warm hW (vk_R.of h1 hev)⟩
theorem CF.zq {D : va_G} {s : State} {H0 : Heap} (hC : CF D s H0) {C n d : String} (hl : Cond.laysStatic C n d ∈ lw_tbl) (hi : Cond.initialized C ∈ lw_tbl) (hr : Cond.isRef (.static C n d) ∈ flatC (Jvm.Cond.and given_1 narrow_1)) (hk : ∀ q : Nat, q < H0.size → s.heap[q]? = H0[q]?) (hz : H0.size ≤ s.heap.size) : vx_Zq C n d (fre H0) s s.heap := by
  obtain ⟨s0, b, h0, hW, hts, hn, hct⟩ := hC
  subst h0
  have z0 : vx_Zq C n d (fre s0.heap) s0 s0.heap := vx_Zqof (hts _ hl) (hts _ hi) (flat_of_before _ hn _ hr) (fun a ha hq => by have : s0.heap.size ≤ a := hq; omega)
  exact (z0.moved hW.alike).kept (fun a ha hq => hk a ha)
theorem zq_us : Cond.laysStatic Bundle.tN "UNASSIGNED_STACK" Bundle.steD ∈ lw_tbl ∧ Cond.laysStatic Bundle.tN "SUPPRESSED_SENTINEL" Bundle.listD ∈ lw_tbl ∧ Cond.initialized Bundle.tN ∈ lw_tbl ∧ Cond.isRef (.static Bundle.tN "UNASSIGNED_STACK" Bundle.steD) ∈ flatC (Jvm.Cond.and given_1 narrow_1) ∧ Cond.isRef (.static Bundle.tN "SUPPRESSED_SENTINEL" Bundle.listD) ∈ flatC (Jvm.Cond.and given_1 narrow_1) := by decide +kernel
/-- the words that go with a state's tables -/
def gw2 : Cond → Bool
  | .castable _ _ => true
  | .declares _ => true
  | .methodLinkNest _ _ _ _ => true
  | .fieldLinkNest _ _ _ _ _ _ => true
  | w => goodWord w
theorem gw2_ot {w : Cond} (h : gw2 w = true) : vx_ot w = true := by
  cases w <;> first | rfl | (simp only [gw2] at h; simp [vx_ot, h])
theorem CF.word2 {D : va_G} {s : State} {H0 : Heap} (hC : CF D s H0) {w : Cond} (hw : w ∈ lw_tbl) (hg : gw2 w = true) (args : Array Value) : w.before args s = true := by
  by_cases g : goodWord w = true
  · exact hC.word hw g args
  · obtain ⟨s0, b, h0, hW, hts, hn, hct⟩ := hC
    cases w with
    | castable A B => exact va_Nw.use rfl (va_Nw.warmC hW (va_Nw.of rfl (hts _ hw)))
    | declares y => exact va_Nw.use rfl (va_tabs rfl (rfl : (s0.setVm s.vm).vm = s.vm) (by rw [Cond.declares_setVm hW.alike]; exact (va_Nw.of rfl (hts _ hw) : va_Nw (.declares y) s0)))
    | methodLinkNest a i x hh => exact va_Nw.use rfl (va_Nw.warmM hW (va_Nw.of rfl (hts _ hw)))
    | fieldLinkNest a i b2 n2 d2 hh => exact va_Nw.use rfl (va_Nw.warmF hW (va_Nw.of rfl (hts _ hw)))
    | _ => exact absurd hg g
def exN : List String := ["java/lang/RuntimeException", "java/lang/Exception"]
/-- what the tables say of 'throw new E("text")' in a class -/
def TW (own E text : String) (ik is ic : Nat) : Prop := Bundle.fit E = true ∧ Cond.classLink own ik E ∈ lw_tbl ∧ Cond.initialized E ∈ lw_tbl ∧ Cond.stringRef own is text ∈ lw_tbl ∧ ∀ w ∈ vx_atS own ic E exN, w ∈ lw_tbl ∧ gw2 w = true
theorem exN_fit : ∀ n ∈ exN, Bundle.fit n = true := by decide +kernel
section AWT
variable {M : MI} {dep : Nat} {fx : Bool} {Φ : Rs → ah → Prop} {k n pc : Nat} {lv : List (Nat × Value)} {st : List Value} {h : ah}
theorem aw_throw {E text : String} {ik is ic : Nat} (ht0 : M.2.2.2.2 = []) (hw : TW M.1.cls E text ik is ic) (d0 : decode M.2.1 pc = .ok (.new ik, 3)) (d3 : decode M.2.1 (pc + 3) = .ok (.dup, 1)) (d4 : decode M.2.1 (pc + 4) = .ok (.ldc_w is, 3)) (d7 : decode M.2.1 (pc + 7) = .ok (.invokespecial ic, 3)) (d10 : decode M.2.1 (pc + 10) = .ok (.athrow, 1)) (hd : 6 ≤ dep) (hcat : (st.map fun v => v.category).sum ≤ 8) (hk : 1 ≤ k) (hn : 6 ≤ n) (hp : Φ (.inr E) h) : AW M dep fx Φ k n pc lv st h := by
  intro p l e R s m args below meth c H0 D ty ad mc ms H locs cells slots Qc XC ls G hl
  obtain ⟨⟨hx, hb, htr, hml, hr, hlo, hnm, hown, hK, hC, b1, b2, b3, b4, b5, htb⟩, g2, g3, hR, hS, hQ, hX⟩ := id G
  obtain ⟨w1, w2, w3, w4, w5⟩ := hw
  obtain ⟨sa, hstr⟩ := hC.str hown w4
  have hs0 : ∀ q : Nat, q < H0.size → s.heap[q]? = H0[q]? := fun q hq => by
    rw [← hR.2.2.2.1 q hq]
    exact (hS.2.1 q (by omega) (by show ¬ H0.size ≤ q; omega)).symm
  refine vx_throwSW hx hb htr hown w1 exN_fit (hC.word w2 rfl args) (hC.word w3 rfl args) hstr (fun w hw => hC.word2 (w5 w hw).1 (w5 w hw).2 args) ?_ (hC.zq zq_us.1 zq_us.2.2.1 zq_us.2.2.2.1 hs0 b5) (hC.zq zq_us.2.1 zq_us.2.2.1 zq_us.2.2.2.2 hs0 b5) hS (by rw [hml]; exact hl.1) d0 d3 d4 d7 d10 ?_ ?_ ?_ (by omega) (by omega) hlo ?_ hS.2.2 (by omega) (by omega)
  · intro w hw
    rcases List.mem_cons.mp hw with e1 | e1
    · rw [e1]; rfl
    · rcases List.mem_cons.mp e1 with e2 | e2
      · rw [e2]; rfl
      · exact gw2_ot (w5 w e2).2
  · rw [htb, ht0]
    intro x hx'
    cases hx'
  · show 2 + 3 < R.frames
    omega
  · rw [cvs_cat]
    show _ + (13 * (2 + 1) + 43) ≤ R.locals
    omega
  · intro t hA hz ho
    have hR' : Rep H0 D ty ad h t.heap := by
      refine ⟨fun i x hi => ⟨(hR.1 i x hi).1.kept (ho _ ?_), (hR.1 i x hi).2⟩, hR.2.1, Nat.le_trans hR.2.2.1 hz, fun q hq => by rw [ho q (Nat.lt_of_lt_of_le hq hR.2.2.1)]; exact hR.2.2.2.1 q hq, hR.2.2.2.2⟩
      exact (hR.1 i x hi).1.lt
    exact hX E h ad t (fun _ => rfl) (fun _ _ _ => rfl) hp hR' (Nat.le_trans hS.1 hz) hA
end AWT
theorem tw_mk {own E text : String} {ik is ic : Nat} (h1 : Bundle.fit E = true) (h2 : Cond.classLink own ik E ∈ lw_tbl) (h3 : Cond.initialized E ∈ lw_tbl) (h4 : Cond.stringRef own is text ∈ lw_tbl) (h : (vx_atS own ic E exN).all (fun w => decide (w ∈ lw_tbl) && gw2 w) = true) : TW own E text ik is ic := by
  refine ⟨h1, h2, h3, h4, fun w hw => ?_⟩
  have := List.all_eq_true.mp h w hw
  simpa using this
end
section
theorem AC.met0 {M : MI} {dep k n : Nat} {fx : Bool} {Φ : Rs → ah → Prop} {as : List Value} {h : ah} (hA : AC M dep fx Φ k n as h) (hno : ∀ E h', ¬ Φ (.inr E) h') (hy : plainName M.1.cls = true) (ht : M.2.2.2.2 = []) (hlen : (lg_sl as).length ≤ M.2.2.1) (l : Launch) (hl : l.stackTraces = false) (H0 : Heap) (D : va_G) (ty : Nat → ClassId) (ad : Nat → Nat) :
    Met l M.1 [Cond.code M.1 M.2.1 M.2.2.1 M.2.2.2.1] (rmd dep k n) (Pm H0 D ty ad h as) (Qm fx Φ H0 D ty ad h) k n (fre H0) := by
  intro p e ha hc hk s m args below hf happ hP hK
  obtain ⟨j, o, h1, h2, h3, h4⟩ := hA.met hy ht hlen l hl H0 D ty ad p e ha hc hk s m args below hf happ hP hK
  refine ⟨j, o, h1, h2, h3, ?_⟩
  rcases h4 with h4 | ⟨q, h5, E, ce, L, ⟨h', ad', a1, a2, a3, a4⟩, h6⟩
  · exact h4
  · exact absurd a3 (hno E h')
section AWN
variable {M M' : MI} {dep dep' : Nat} {fx fx' : Bool} {Φ Φ' : Rs → ah → Prop} {k n k' n' pc na idx : Nat} {lv : List (Nat × Value)} {st stk as : List Value} {h : ah}
/-- a call that comes back, put behind its run -/
theorem run_back {p : Program} {l : Launch} {e : Env} {R : Room} {s : State} {m : MethodId} {args : Array Value} {below : List Frame} {meth : Method} {c : Code} {H0 : Heap} {D : va_G} {ty : Nat → ClassId} {ad : Nat → Nat} {mc ms : Nat} {H : Heap} {locs : List Loc} {cells slots : Nat} {Qc : Array Value → State → Outcome → State → Prop} {XC : String → State → State → Prop} {ls : Array Slot} {stk' : List Value} {a : Array Value}
    (G : AK M dep fx Φ k n h p l R s m args meth c H0 D ty ad mc ms H locs cells slots Qc XC) (hl : lv_has ls M.2.2.1 (cvl ad lv)) (run : va_Run p l e R s m args below meth c H locs cells slots k' n' (F0 m pc ls stk') (cvs ad st) (Qm fx' Φ' H0 D ty ad h a) (fre H0)) (hk : k' ≤ k) (hn : n' ≤ n) (hfx : fx = true → fx' = true) (hdom : ∀ v h', Φ' v h' → ∀ i x, h i = some x → ∃ y, h' i = some y) (hok : fx' = true ∨ (okv h st ∧ okv h (lv.map (fun q => q.2))))
    (kk : ∀ v h', Φ' (.inl v) h' → AW M dep fx Φ (k - k') (n - n') (pc + 3) lv (v.toList ++ st) h') :
    W p l e R s m args below meth c H locs cells slots (vx_MQ below Qc XC args s mc ms (fre H0)) (F0 m pc ls stk') := by
  intro T hT X
  obtain ⟨v0, st₀, t, T', L, h0, X', hL, e1, e2, ⟨v, h', ad', c1, c2, c3, c4, c5, c6⟩, st1⟩ := run T hT X
  cases c3
  have e3 : cvs ad' st = cvs ad st := hok.elim (fun z => by rw [c1 z]) (fun z => cvs_agr z.1 (fun k hk => by rw [c5.2.2.2.2 k hk, G.2.2.2.1.2.2.2.2 k hk]) c2)
  have e4 : cvl ad' lv = cvl ad lv := hok.elim (fun z => by rw [c1 z]) (fun z => cvl_agr z.2 (fun k hk => by rw [c5.2.2.2.2 k hk, G.2.2.2.1.2.2.2.2 k hk]) c2)
  obtain ⟨t2, a1, b1'⟩ := kk v h' c4 p l e R s m args below meth c H0 D ty ad' mc ms T'.heap (locs ++ L) (cells + k') (slots + n') Qc XC ls (G.back h0 e1 (fun z => c1 (hfx z)) c2 c5 c6 hL (hdom _ _ c4) hk hn) (by rw [e4]; exact hl) T' rfl X'
  refine ⟨t2, st1 t2 ?_, b1'⟩
  have e5 : cvs ad' (v.toList ++ st) = (v.map (cv ad')).toList ++ cvs ad st := by
    rw [← e3]
    cases v <;> rfl
  rw [e5] at a1
  exact a1
theorem callN_mk {p : Program} {l : Launch} {R : Room} {s : State} {m : MethodId} {args : Array Value} {meth : Method} {c : Code} {H0 : Heap} {D : va_G} {ty : Nat → ClassId} {mc ms : Nat} {host : String}
    (G : Gd M dep p l R s m meth c H0 D ty mc ms) (ho : MO M' na) (hl : Cond.methodLinkNest M.1.cls idx M'.1 host ∈ lw_tbl) (hd : dep' + 1 ≤ dep) :
    va_CN R s args M.1.cls idx M'.1 host M'.2.1 M'.2.2.1 M'.2.2.2.1 [Cond.code M'.1 M'.2.1 M'.2.2.1 M'.2.2.2.1] (rmd dep' k n) k n na := by
  obtain ⟨a1, a2, a3, a4, a5, a6, a7, a8, a9, hC, b1, b2, b3⟩ := G
  obtain ⟨o1, o2, o3, o4, o5, o6, o7⟩ := ho
  refine ⟨⟨rfl, rfl, by show dep' + 1 ≤ _; omega, by show 8 + (M'.2.2.1 + 11) + 60 * dep' ≤ _; omega, fun w hw a' U hW => ?_, List.mem_cons_self⟩, hC.word o1 rfl args, hC.word o2 rfl args, o5, fun sig hsig => ?_, hC.word2 hl rfl args⟩
  · rw [List.mem_singleton] at hw
    subst hw
    exact (hC.warm hW).word o1 rfl a'
  · rw [hsig] at o6
    exact (Option.some.inj o6).symm
/-- a private static method of the nest's host -/
theorem aw_callSN {host : String} (d : decode M.2.1 pc = .ok (.invokestatic idx, 3)) (hl0 : Cond.methodLinkNest M.1.cls idx M'.1 host ∈ lw_tbl) (ho : MO M' na) (hv : MS M') (hA : AC M' dep' fx' Φ' k' n' as h) (hst : stk = as.reverse ++ st) (hno : ∀ E h', ¬ Φ' (.inr E) h') (hna : as.length = na) (hlen : (lg_sl as).length ≤ M'.2.2.1) (hd : dep' + 1 ≤ dep) (hcat : (st.map fun v => v.category).sum ≤ 8) (hk : k' ≤ k) (hn : n' ≤ n) (hfx : fx = true → fx' = true) (hdom : ∀ v h', Φ' v h' → ∀ i x, h i = some x → ∃ y, h' i = some y) (hok : fx' = true ∨ (okv h st ∧ okv h (lv.map (fun q => q.2))))
    (kk : ∀ v h', Φ' (.inl v) h' → AW M dep fx Φ (k - k') (n - n') (pc + 3) lv (v.toList ++ st) h') : AW M dep fx Φ k n pc lv stk h := by
  subst hst
  intro p l e R s m args below meth c H0 D ty ad mc ms H locs cells slots Qc XC ls G hl
  obtain ⟨⟨hx, hb, htr, hml, hr, hlo, hnm, hown, hK, hC, b1, b2, b3, b4, b5, htb⟩, g2, g3, hR, hS, hQX⟩ := id G
  have hM := hA.met0 hno ho.2.2.2.1 ho.2.2.1 hlen l htr H0 D ty ad
  exact run_back G hl (va_runSN (e := e) (meth := meth) (below := below) (R := R) (As := as.map (cv ad)) (rest := cvs ad st) (g := F0 m pc ls (cvs ad (as.reverse ++ st))) (Ts := []) (locs := locs) (cells := cells) (slots := slots) ⟨hx, hb, hml, hown, fun _ hq => nomatch hq⟩ hM ⟨callN_mk (args := args) (k := k') (n := n') G.1 ho hl0 hd, hC.word hv rfl args, trivial⟩ ⟨Pm.blind, fun U hU hW => ⟨rfl, hC.warm hW, va_K.moved hW.alike hK, by rw [hU]; exact hR⟩⟩ rfl (by simpa using hna) hl.1 (by simp [cvs]) (lv_room (by rw [cvs_cat]; exact hcat)) d ⟨by omega, by omega⟩) hk hn hfx hdom hok kk
/-- a constructor of the nest's mate -/
theorem aw_callIN {host : String} {b : Nat} (d : decode M.2.1 pc = .ok (.invokespecial idx, 3)) (hl0 : Cond.methodLinkNest M.1.cls idx M'.1 host ∈ lw_tbl) (ho : MO M' na) (hv : Cond.instanceMethod M'.1 ∈ lw_tbl) (hi : M'.1.name = "<init>") (hr0 : M'.2.2.2.1 = none) (hA : AC M' dep' fx' Φ' k' n' (.ref b :: as) h) (hst : stk = as.reverse ++ .ref b :: st) (hno : ∀ E h', ¬ Φ' (.inr E) h') (hna : as.length = na) (hlen : (lg_sl (.ref b :: as)).length ≤ M'.2.2.1) (hd : dep' + 1 ≤ dep) (hcat : (st.map fun v => v.category).sum ≤ 8) (hk : k' ≤ k) (hn : n' ≤ n) (hfx : fx = true → fx' = true) (hdom : ∀ v h', Φ' v h' → ∀ i x, h i = some x → ∃ y, h' i = some y) (hok : fx' = true ∨ (okv h st ∧ okv h (lv.map (fun q => q.2))))
    (kk : ∀ v h', Φ' (.inl v) h' → AW M dep fx Φ (k - k') (n - n') (pc + 3) lv (v.toList ++ st) h') : AW M dep fx Φ k n pc lv stk h := by
  subst hst
  intro p l e R s m args below meth c H0 D ty ad mc ms H locs cells slots Qc XC ls G hl
  obtain ⟨⟨hx, hb, htr, hml, hr, hlo, hnm, hown, hK, hC, b1, b2, b3, b4, b5, htb⟩, g2, g3, hR, hS, hQX⟩ := id G
  have hM := hA.met0 hno ho.2.2.2.1 ho.2.2.1 hlen l htr H0 D ty ad
  have hcn := callN_mk (args := args) (k := k') (n := n') G.1 ho hl0 hd
  rw [hr0] at hM hcn
  exact run_back G hl (va_runIN (e := e) (meth := meth) (below := below) (R := R) (As := as.map (cv ad)) (b := ad b) (rest := cvs ad st) (g := F0 m pc ls (cvs ad (as.reverse ++ .ref b :: st))) (Ts := []) (locs := locs) (cells := cells) (slots := slots) ⟨hx, hb, hml, hown, fun _ hq => nomatch hq⟩ hM ⟨hcn, hi, hC.word hv rfl args⟩ ⟨Pm.blind, fun U hU hW => ⟨rfl, hC.warm hW, va_K.moved hW.alike hK, by rw [hU]; exact hR⟩⟩ rfl (by simpa using hna) hl.1 (by simp [cvs, cv]) (lv_room (by rw [cvs_cat]; exact hcat)) d ⟨by omega, by omega⟩) hk hn hfx hdom hok kk
/-- a constructor -/
theorem aw_callI {b : Nat} (d : decode M.2.1 pc = .ok (.invokespecial idx, 3)) (hl0 : Cond.methodLink M.1.cls idx M'.1 ∈ lw_tbl) (ho : MO M' na) (hv : Cond.instanceMethod M'.1 ∈ lw_tbl) (hi : M'.1.name = "<init>") (hr0 : M'.2.2.2.1 = none) (hA : AC M' dep' fx' Φ' k' n' (.ref b :: as) h) (hst : stk = as.reverse ++ .ref b :: st) (hno : ∀ E h', ¬ Φ' (.inr E) h') (hna : as.length = na) (hlen : (lg_sl (.ref b :: as)).length ≤ M'.2.2.1) (hd : dep' + 1 ≤ dep) (hcat : (st.map fun v => v.category).sum ≤ 8) (hk : k' ≤ k) (hn : n' ≤ n) (hfx : fx = true → fx' = true) (hdom : ∀ v h', Φ' v h' → ∀ i x, h i = some x → ∃ y, h' i = some y) (hok : fx' = true ∨ (okv h st ∧ okv h (lv.map (fun q => q.2))))
    (kk : ∀ v h', Φ' (.inl v) h' → AW M dep fx Φ (k - k') (n - n') (pc + 3) lv (v.toList ++ st) h') : AW M dep fx Φ k n pc lv stk h := by
  subst hst
  intro p l e R s m args below meth c H0 D ty ad mc ms H locs cells slots Qc XC ls G hl
  obtain ⟨⟨hx, hb, htr, hml, hr, hlo, hnm, hown, hK, hC, b1, b2, b3, b4, b5, htb⟩, g2, g3, hR, hS, hQX⟩ := id G
  have hM := hA.met0 hno ho.2.2.2.1 ho.2.2.1 hlen l htr H0 D ty ad
  have hcn := callB_mk (args := args) (k := k') (n := n') G.1 ho hl0 hd
  rw [hr0] at hM hcn
  exact run_back G hl (va_runI (e := e) (meth := meth) (below := below) (R := R) (As := as.map (cv ad)) (b := ad b) (rest := cvs ad st) (g := F0 m pc ls (cvs ad (as.reverse ++ .ref b :: st))) (Ts := []) (locs := locs) (cells := cells) (slots := slots) ⟨hx, hb, hml, hown, fun _ hq => nomatch hq⟩ hM ⟨hcn, hi, hC.word hv rfl args⟩ ⟨Pm.blind, fun U hU hW => ⟨rfl, hC.warm hW, va_K.moved hW.alike hK, by rw [hU]; exact hR⟩⟩ rfl (by simpa using hna) hl.1 (by simp [cvs, cv]) (lv_room (by rw [cvs_cat]; exact hcat)) d ⟨by omega, by omega⟩) hk hn hfx hdom hok kk
theorem aw_objInit {b : Nat} (d : decode M.2.1 pc = .ok (.invokespecial idx, 3)) (hl0 : Cond.methodLink M.1.cls idx Lib.objectInit ∈ lw_tbl) (hd : 1 ≤ dep) (hcat : (st.map fun v => v.category).sum ≤ 8) (kk : AW M dep fx Φ k n (pc + 3) lv st h) : AW M dep fx Φ k n pc lv (.ref b :: st) h := by
  intro p l e R s m args below meth c H0 D ty ad mc ms H locs cells slots Qc XC ls G hl
  obtain ⟨⟨hx, hb, htr, hml, hr, hlo, hnm, hown, hK, hC, b1, b2, b3, b4, b5, htb⟩, g2, g3, hR, hS, hQX⟩ := id G
  refine W.objInit hx hb hown (hC.word hl0 rfl args) (hC.word (w := .instanceMethod Lib.objectInit) (by decide +kernel) rfl args) (hC.word (w := .code Lib.objectInit ⟨#[0xb1]⟩ 1 none) (by decide +kernel) rfl args) rfl (by rw [hml]; exact hl.1) rfl d (by omega) ?_ (W.eq (g2 := F0 m (pc + 3) ls (cvs ad st)) rfl (kk p l e R s m args below meth c H0 D ty ad mc ms H locs cells slots Qc XC ls G hl))
  show 2 * 0 + ((cvs ad st).map fun v => v.category).sum + 12 ≤ R.locals
  rw [cvs_cat]
  omega
/-- a place that was free is filled by a new cell -/
theorem AK.made {p : Program} {l : Launch} {R : Room} {s : State} {m : MethodId} {args : Array Value} {meth : Method} {c : Code} {H0 : Heap} {D : va_G} {ty : Nat → ClassId} {ad : Nat → Nat} {mc ms : Nat} {H H1 : Heap} {locs : List Loc} {cells slots z : Nat} {Qc : Array Value → State → Outcome → State → Prop} {XC : String → State → State → Prop} {i : Nat} {x : ae}
    (G : AK M dep false Φ k n h p l R s m args meth c H0 D ty ad mc ms H locs cells slots Qc XC) (hi : h i = none) (hi2 : i < 200) (hx : va_at D kcl (H.size, ce ty (va_up ad i H.size) x) H1) (hz : H1.size = H.size + 1) (oq : ∀ q : Nat, q < H.size → H1[q]? = H[q]?) (hk : 1 ≤ k) (hn : z ≤ n) (hrf : ∀ j y, h j = some y → ce ty (va_up ad i H.size) y = ce ty ad y) :
    AK M dep false Φ (k - 1) (n - z) (uph h i x) p l R s m args meth c H0 D ty (va_up ad i H.size) mc ms H1 locs (cells + 1) (slots + z) Qc XC := by
  obtain ⟨g1, g2, g3, hR, hS, hQ, hX⟩ := G
  have hag : ∀ j y, h j = some y → va_up ad i H.size j = ad j := by
    intro j y hj
    have : j ≠ i := fun e => by rw [e, hi] at hj; cases hj
    simp [va_up, this]
  have hlt : ∀ j y, h j = some y → ad j < H.size := fun j y hj => (hR.1 j y hj).1.lt
  refine ⟨g1, by omega, by omega, ⟨fun j y hj => ?_, fun j j2 y y2 hj hj2 e => ?_, by have := hR.2.2.1; omega, fun q hq => by rw [oq q (Nat.lt_of_lt_of_le hq hR.2.2.1)]; exact hR.2.2.2.1 q hq, fun k hk => by rw [show va_up ad i H.size k = ad k from by simp [va_up, show k ≠ i by omega]]; exact hR.2.2.2.2 k hk⟩, ⟨by have := hS.1; omega, fun q h1 h2 => by rw [oq q (Nat.lt_of_lt_of_le h1 hS.1)]; exact hS.2.1 q h1 h2, hS.2.2⟩, fun v h' ad' t a b => hQ v h' ad' t (fun z => by cases z) (fun j y hj => ?_), fun E h' ad' t a b => hX E h' ad' t (fun z => by cases z) (fun j y hj => ?_)⟩
  · by_cases e : j = i
    · subst e
      rw [uph_same] at hj
      cases hj
      have e2 : va_up ad j H.size j = H.size := by simp [va_up]
      rw [e2]
      exact ⟨hx, hR.2.2.1⟩
    · rw [uph_ne h x e] at hj
      rw [hag j y hj, hrf j y hj]
      exact ⟨(hR.1 j y hj).1.kept (oq _ (hlt j y hj)), (hR.1 j y hj).2⟩
  · by_cases e1 : j = i
    · by_cases e2 : j2 = i
      · rw [e1, e2]
      · rw [uph_ne h x e2] at hj2
        rw [e1, hag j2 y2 hj2] at e
        have := hlt j2 y2 hj2
        simp [va_up] at e
        omega
    · rw [uph_ne h x e1] at hj
      by_cases e2 : j2 = i
      · rw [e2, hag j y hj] at e
        have := hlt j y hj
        simp [va_up] at e
        omega
      · rw [uph_ne h x e2] at hj2
        rw [hag j y hj, hag j2 y2 hj2] at e
        exact hR.2.1 j j2 y y2 hj hj2 e
  · have hj' : uph h i x j = some y := by rw [uph_ne h x (fun e => by rw [e, hi] at hj; cases hj)]; exact hj
    rw [b j y hj', hag j y hj]
  · have hj' : uph h i x j = some y := by rw [uph_ne h x (fun e => by rw [e, hi] at hj; cases hj)]; exact hj
    rw [b j y hj', hag j y hj]
end AWN
end
