section
/-- a private method of a class that the tables say can be made, by its rows of tables_1 -/
def lw_okq (q : MethodName × Nat) : Prop := (q.1.cls ≠ "java/lang/invoke/MethodHandle" ∧ q.1.cls ≠ "java/lang/invoke/VarHandle") ∧ Cond.instantiable q.1.cls q.2 ∈ tables_1 ∧ Cond.privateMethod q.1 ∈ tables_1 ∧ Cond.instanceMethod q.1 ∈ tables_1
theorem lw_p0 : lw_okq (⟨"HopNet", "refuse", "(I)I"⟩, 12) := ⟨⟨by decide +kernel, by decide +kernel⟩, List.mem_of_getElem? (i := 13) (by decide +kernel), List.mem_of_getElem? (i := 408) (by decide +kernel), List.mem_of_getElem? (i := 409) (by decide +kernel)⟩
theorem lw_p1 : lw_okq (⟨"HopNet", "keepForUndo", "(I)V"⟩, 12) := ⟨⟨by decide +kernel, by decide +kernel⟩, List.mem_of_getElem? (i := 13) (by decide +kernel), List.mem_of_getElem? (i := 412) (by decide +kernel), List.mem_of_getElem? (i := 413) (by decide +kernel)⟩
theorem lw_p2 : lw_okq (⟨"HopNet", "accept", "(I)I"⟩, 12) := ⟨⟨by decide +kernel, by decide +kernel⟩, List.mem_of_getElem? (i := 13) (by decide +kernel), List.mem_of_getElem? (i := 449) (by decide +kernel), List.mem_of_getElem? (i := 450) (by decide +kernel)⟩
theorem lw_p3 : lw_okq (⟨"HopNet", "tellMap", "(LHopNet$Net;II)I"⟩, 12) := ⟨⟨by decide +kernel, by decide +kernel⟩, List.mem_of_getElem? (i := 13) (by decide +kernel), List.mem_of_getElem? (i := 571) (by decide +kernel), List.mem_of_getElem? (i := 572) (by decide +kernel)⟩
theorem lw_p4 : lw_okq (⟨"HopNet", "hasTimeFor", "(I)Z"⟩, 12) := ⟨⟨by decide +kernel, by decide +kernel⟩, List.mem_of_getElem? (i := 13) (by decide +kernel), List.mem_of_getElem? (i := 599) (by decide +kernel), List.mem_of_getElem? (i := 600) (by decide +kernel)⟩
theorem lw_p5 : lw_okq (⟨"HopNet", "planOf", "(II)LHopNet$Plan;"⟩, 12) := ⟨⟨by decide +kernel, by decide +kernel⟩, List.mem_of_getElem? (i := 13) (by decide +kernel), List.mem_of_getElem? (i := 805) (by decide +kernel), List.mem_of_getElem? (i := 806) (by decide +kernel)⟩
theorem lw_p6 : lw_okq (⟨"HopNet", "noteHops", "(I)V"⟩, 12) := ⟨⟨by decide +kernel, by decide +kernel⟩, List.mem_of_getElem? (i := 13) (by decide +kernel), List.mem_of_getElem? (i := 890) (by decide +kernel), List.mem_of_getElem? (i := 891) (by decide +kernel)⟩
theorem lw_p7 : lw_okq (⟨"HopNet", "clashesAt", "(II)I"⟩, 12) := ⟨⟨by decide +kernel, by decide +kernel⟩, List.mem_of_getElem? (i := 13) (by decide +kernel), List.mem_of_getElem? (i := 896) (by decide +kernel), List.mem_of_getElem? (i := 897) (by decide +kernel)⟩
theorem lw_p8 : lw_okq (⟨"HopNet", "paperWith", "(I)LHopNet$World;"⟩, 12) := ⟨⟨by decide +kernel, by decide +kernel⟩, List.mem_of_getElem? (i := 13) (by decide +kernel), List.mem_of_getElem? (i := 909) (by decide +kernel), List.mem_of_getElem? (i := 910) (by decide +kernel)⟩
theorem lw_p9 : lw_okq (⟨"HopNetModel", "refuse", "(I)I"⟩, 18) := ⟨⟨by decide +kernel, by decide +kernel⟩, List.mem_of_getElem? (i := 971) (by decide +kernel), List.mem_of_getElem? (i := 1036) (by decide +kernel), List.mem_of_getElem? (i := 1037) (by decide +kernel)⟩
theorem lw_p10 : lw_okq (⟨"HopNetModel", "tell", "(I)I"⟩, 18) := ⟨⟨by decide +kernel, by decide +kernel⟩, List.mem_of_getElem? (i := 971) (by decide +kernel), List.mem_of_getElem? (i := 1043) (by decide +kernel), List.mem_of_getElem? (i := 1044) (by decide +kernel)⟩
theorem lw_p11 : lw_okq (⟨"HopNetModel", "isNet", "(I)Z"⟩, 18) := ⟨⟨by decide +kernel, by decide +kernel⟩, List.mem_of_getElem? (i := 971) (by decide +kernel), List.mem_of_getElem? (i := 1073) (by decide +kernel), List.mem_of_getElem? (i := 1074) (by decide +kernel)⟩
theorem lw_p12 : lw_okq (⟨"HopNetModel", "isLink", "(II)Z"⟩, 18) := ⟨⟨by decide +kernel, by decide +kernel⟩, List.mem_of_getElem? (i := 971) (by decide +kernel), List.mem_of_getElem? (i := 1080) (by decide +kernel), List.mem_of_getElem? (i := 1081) (by decide +kernel)⟩
theorem lw_p13 : lw_okq (⟨"HopNetModel", "mapHeld", "(II)I"⟩, 18) := ⟨⟨by decide +kernel, by decide +kernel⟩, List.mem_of_getElem? (i := 971) (by decide +kernel), List.mem_of_getElem? (i := 1085) (by decide +kernel), List.mem_of_getElem? (i := 1086) (by decide +kernel)⟩
theorem lw_p14 : lw_okq (⟨"HopNetModel", "hopOf", "(III)I"⟩, 18) := ⟨⟨by decide +kernel, by decide +kernel⟩, List.mem_of_getElem? (i := 971) (by decide +kernel), List.mem_of_getElem? (i := 1092) (by decide +kernel), List.mem_of_getElem? (i := 1093) (by decide +kernel)⟩
theorem lw_p15 : lw_okq (⟨"HopNetModel", "remember", "(I)V"⟩, 18) := ⟨⟨by decide +kernel, by decide +kernel⟩, List.mem_of_getElem? (i := 971) (by decide +kernel), List.mem_of_getElem? (i := 1106) (by decide +kernel), List.mem_of_getElem? (i := 1107) (by decide +kernel)⟩
def lw_privs_1 : List (MethodName × Nat) := [(⟨"HopNet", "refuse", "(I)I"⟩, 12), (⟨"HopNet", "keepForUndo", "(I)V"⟩, 12), (⟨"HopNet", "accept", "(I)I"⟩, 12), (⟨"HopNet", "tellMap", "(LHopNet$Net;II)I"⟩, 12), (⟨"HopNet", "hasTimeFor", "(I)Z"⟩, 12), (⟨"HopNet", "planOf", "(II)LHopNet$Plan;"⟩, 12), (⟨"HopNet", "noteHops", "(I)V"⟩, 12), (⟨"HopNet", "clashesAt", "(II)I"⟩, 12), (⟨"HopNet", "paperWith", "(I)LHopNet$World;"⟩, 12), (⟨"HopNetModel", "refuse", "(I)I"⟩, 18), (⟨"HopNetModel", "tell", "(I)I"⟩, 18), (⟨"HopNetModel", "isNet", "(I)Z"⟩, 18), (⟨"HopNetModel", "isLink", "(II)Z"⟩, 18), (⟨"HopNetModel", "mapHeld", "(II)I"⟩, 18), (⟨"HopNetModel", "hopOf", "(III)I"⟩, 18), (⟨"HopNetModel", "remember", "(I)V"⟩, 18)]
theorem lw_r1 : ∀ q ∈ lw_privs_1, lw_okq q := List.forall_mem_cons.mpr ⟨lw_p0, List.forall_mem_cons.mpr ⟨lw_p1, List.forall_mem_cons.mpr ⟨lw_p2, List.forall_mem_cons.mpr ⟨lw_p3, List.forall_mem_cons.mpr ⟨lw_p4, List.forall_mem_cons.mpr ⟨lw_p5, List.forall_mem_cons.mpr ⟨lw_p6, List.forall_mem_cons.mpr ⟨lw_p7, List.forall_mem_cons.mpr ⟨lw_p8, List.forall_mem_cons.mpr ⟨lw_p9, List.forall_mem_cons.mpr ⟨lw_p10, List.forall_mem_cons.mpr ⟨lw_p11, List.forall_mem_cons.mpr ⟨lw_p12, List.forall_mem_cons.mpr ⟨lw_p13, List.forall_mem_cons.mpr ⟨lw_p14, List.forall_mem_cons.mpr ⟨lw_p15, fun _ h => absurd h List.not_mem_nil⟩⟩⟩⟩⟩⟩⟩⟩⟩⟩⟩⟩⟩⟩⟩⟩
theorem lw_p16 : lw_okq (⟨"HopNetModel", "isRadio", "(I)Z"⟩, 18) := ⟨⟨by decide +kernel, by decide +kernel⟩, List.mem_of_getElem? (i := 971) (by decide +kernel), List.mem_of_getElem? (i := 1115) (by decide +kernel), List.mem_of_getElem? (i := 1116) (by decide +kernel)⟩
theorem lw_p17 : lw_okq (⟨"HopNetModel", "isIn", "(II)Z"⟩, 18) := ⟨⟨by decide +kernel, by decide +kernel⟩, List.mem_of_getElem? (i := 971) (by decide +kernel), List.mem_of_getElem? (i := 1124) (by decide +kernel), List.mem_of_getElem? (i := 1125) (by decide +kernel)⟩
theorem lw_p18 : lw_okq (⟨"HopNetModel", "comes", "(IIII)V"⟩, 18) := ⟨⟨by decide +kernel, by decide +kernel⟩, List.mem_of_getElem? (i := 971) (by decide +kernel), List.mem_of_getElem? (i := 1154) (by decide +kernel), List.mem_of_getElem? (i := 1155) (by decide +kernel)⟩
theorem lw_p19 : lw_okq (⟨"HopNetModel", "tellMap", "(III)I"⟩, 18) := ⟨⟨by decide +kernel, by decide +kernel⟩, List.mem_of_getElem? (i := 971) (by decide +kernel), List.mem_of_getElem? (i := 1184) (by decide +kernel), List.mem_of_getElem? (i := 1185) (by decide +kernel)⟩
theorem lw_p20 : lw_okq (⟨"HopNetModel", "badOf", "(II)I"⟩, 18) := ⟨⟨by decide +kernel, by decide +kernel⟩, List.mem_of_getElem? (i := 971) (by decide +kernel), List.mem_of_getElem? (i := 1193) (by decide +kernel), List.mem_of_getElem? (i := 1194) (by decide +kernel)⟩
theorem lw_p21 : lw_okq (⟨"HopNetModel", "aheadOf", "(II)I"⟩, 18) := ⟨⟨by decide +kernel, by decide +kernel⟩, List.mem_of_getElem? (i := 971) (by decide +kernel), List.mem_of_getElem? (i := 1197) (by decide +kernel), List.mem_of_getElem? (i := 1198) (by decide +kernel)⟩
theorem lw_p22 : lw_okq (⟨"HopNetModel", "turnsBy", "(I)V"⟩, 18) := ⟨⟨by decide +kernel, by decide +kernel⟩, List.mem_of_getElem? (i := 971) (by decide +kernel), List.mem_of_getElem? (i := 1207) (by decide +kernel), List.mem_of_getElem? (i := 1208) (by decide +kernel)⟩
theorem lw_p23 : lw_okq (⟨"HopNetModel", "turn", "()V"⟩, 18) := ⟨⟨by decide +kernel, by decide +kernel⟩, List.mem_of_getElem? (i := 971) (by decide +kernel), List.mem_of_getElem? (i := 1211) (by decide +kernel), List.mem_of_getElem? (i := 1212) (by decide +kernel)⟩
theorem lw_p24 : lw_okq (⟨"HopNetModel", "mapsBecome", "(IIII)V"⟩, 18) := ⟨⟨by decide +kernel, by decide +kernel⟩, List.mem_of_getElem? (i := 971) (by decide +kernel), List.mem_of_getElem? (i := 1215) (by decide +kernel), List.mem_of_getElem? (i := 1216) (by decide +kernel)⟩
theorem lw_p25 : lw_okq (⟨"HopNetModel", "framesCome", "(I)V"⟩, 18) := ⟨⟨by decide +kernel, by decide +kernel⟩, List.mem_of_getElem? (i := 971) (by decide +kernel), List.mem_of_getElem? (i := 1219) (by decide +kernel), List.mem_of_getElem? (i := 1220) (by decide +kernel)⟩
theorem lw_p26 : lw_okq (⟨"HopNetModel", "isLinkHere", "(II)Z"⟩, 18) := ⟨⟨by decide +kernel, by decide +kernel⟩, List.mem_of_getElem? (i := 971) (by decide +kernel), List.mem_of_getElem? (i := 1223) (by decide +kernel), List.mem_of_getElem? (i := 1224) (by decide +kernel)⟩
theorem lw_p27 : lw_okq (⟨"HopNetModel", "isReady", "(III)Z"⟩, 18) := ⟨⟨by decide +kernel, by decide +kernel⟩, List.mem_of_getElem? (i := 971) (by decide +kernel), List.mem_of_getElem? (i := 1227) (by decide +kernel), List.mem_of_getElem? (i := 1228) (by decide +kernel)⟩
theorem lw_p28 : lw_okq (⟨"HopNetModel", "isHere", "(III)Z"⟩, 18) := ⟨⟨by decide +kernel, by decide +kernel⟩, List.mem_of_getElem? (i := 971) (by decide +kernel), List.mem_of_getElem? (i := 1231) (by decide +kernel), List.mem_of_getElem? (i := 1232) (by decide +kernel)⟩
theorem lw_p29 : lw_okq (⟨"HopNetModel", "choose", "(I)I"⟩, 18) := ⟨⟨by decide +kernel, by decide +kernel⟩, List.mem_of_getElem? (i := 971) (by decide +kernel), List.mem_of_getElem? (i := 1235) (by decide +kernel), List.mem_of_getElem? (i := 1236) (by decide +kernel)⟩
theorem lw_p30 : lw_okq (⟨"HopNetModel", "sendsDown", "()V"⟩, 18) := ⟨⟨by decide +kernel, by decide +kernel⟩, List.mem_of_getElem? (i := 971) (by decide +kernel), List.mem_of_getElem? (i := 1239) (by decide +kernel), List.mem_of_getElem? (i := 1240) (by decide +kernel)⟩
theorem lw_p31 : lw_okq (⟨"HopNetModel", "mapFor", "(I)I"⟩, 18) := ⟨⟨by decide +kernel, by decide +kernel⟩, List.mem_of_getElem? (i := 971) (by decide +kernel), List.mem_of_getElem? (i := 1243) (by decide +kernel), List.mem_of_getElem? (i := 1244) (by decide +kernel)⟩
def lw_privs_2 : List (MethodName × Nat) := [(⟨"HopNetModel", "isRadio", "(I)Z"⟩, 18), (⟨"HopNetModel", "isIn", "(II)Z"⟩, 18), (⟨"HopNetModel", "comes", "(IIII)V"⟩, 18), (⟨"HopNetModel", "tellMap", "(III)I"⟩, 18), (⟨"HopNetModel", "badOf", "(II)I"⟩, 18), (⟨"HopNetModel", "aheadOf", "(II)I"⟩, 18), (⟨"HopNetModel", "turnsBy", "(I)V"⟩, 18), (⟨"HopNetModel", "turn", "()V"⟩, 18), (⟨"HopNetModel", "mapsBecome", "(IIII)V"⟩, 18), (⟨"HopNetModel", "framesCome", "(I)V"⟩, 18), (⟨"HopNetModel", "isLinkHere", "(II)Z"⟩, 18), (⟨"HopNetModel", "isReady", "(III)Z"⟩, 18), (⟨"HopNetModel", "isHere", "(III)Z"⟩, 18), (⟨"HopNetModel", "choose", "(I)I"⟩, 18), (⟨"HopNetModel", "sendsDown", "()V"⟩, 18), (⟨"HopNetModel", "mapFor", "(I)I"⟩, 18)]
theorem lw_r2 : ∀ q ∈ lw_privs_2, lw_okq q := List.forall_mem_cons.mpr ⟨lw_p16, List.forall_mem_cons.mpr ⟨lw_p17, List.forall_mem_cons.mpr ⟨lw_p18, List.forall_mem_cons.mpr ⟨lw_p19, List.forall_mem_cons.mpr ⟨lw_p20, List.forall_mem_cons.mpr ⟨lw_p21, List.forall_mem_cons.mpr ⟨lw_p22, List.forall_mem_cons.mpr ⟨lw_p23, List.forall_mem_cons.mpr ⟨lw_p24, List.forall_mem_cons.mpr ⟨lw_p25, List.forall_mem_cons.mpr ⟨lw_p26, List.forall_mem_cons.mpr ⟨lw_p27, List.forall_mem_cons.mpr ⟨lw_p28, List.forall_mem_cons.mpr ⟨lw_p29, List.forall_mem_cons.mpr ⟨lw_p30, List.forall_mem_cons.mpr ⟨lw_p31, fun _ h => absurd h List.not_mem_nil⟩⟩⟩⟩⟩⟩⟩⟩⟩⟩⟩⟩⟩⟩⟩⟩
theorem lw_p32 : lw_okq (⟨"HopNetModel", "casts", "(I)V"⟩, 18) := ⟨⟨by decide +kernel, by decide +kernel⟩, List.mem_of_getElem? (i := 971) (by decide +kernel), List.mem_of_getElem? (i := 1247) (by decide +kernel), List.mem_of_getElem? (i := 1248) (by decide +kernel)⟩
theorem lw_p33 : lw_okq (⟨"HopNetModel", "whyNot", "(II)I"⟩, 18) := ⟨⟨by decide +kernel, by decide +kernel⟩, List.mem_of_getElem? (i := 971) (by decide +kernel), List.mem_of_getElem? (i := 1251) (by decide +kernel), List.mem_of_getElem? (i := 1252) (by decide +kernel)⟩
theorem lw_p34 : lw_okq (⟨"HopNetModel", "draw", "()I"⟩, 18) := ⟨⟨by decide +kernel, by decide +kernel⟩, List.mem_of_getElem? (i := 971) (by decide +kernel), List.mem_of_getElem? (i := 1255) (by decide +kernel), List.mem_of_getElem? (i := 1256) (by decide +kernel)⟩
theorem lw_p35 : lw_okq (⟨"HopNetModel", "memberHears", "(II)V"⟩, 18) := ⟨⟨by decide +kernel, by decide +kernel⟩, List.mem_of_getElem? (i := 971) (by decide +kernel), List.mem_of_getElem? (i := 1262) (by decide +kernel), List.mem_of_getElem? (i := 1263) (by decide +kernel)⟩
theorem lw_p36 : lw_okq (⟨"HopNetModel", "hears", "(IIII)V"⟩, 18) := ⟨⟨by decide +kernel, by decide +kernel⟩, List.mem_of_getElem? (i := 971) (by decide +kernel), List.mem_of_getElem? (i := 1266) (by decide +kernel), List.mem_of_getElem? (i := 1267) (by decide +kernel)⟩
theorem lw_p37 : lw_okq (⟨"HopNetModel", "passes", "(III)V"⟩, 18) := ⟨⟨by decide +kernel, by decide +kernel⟩, List.mem_of_getElem? (i := 971) (by decide +kernel), List.mem_of_getElem? (i := 1270) (by decide +kernel), List.mem_of_getElem? (i := 1271) (by decide +kernel)⟩
theorem lw_p38 : lw_okq (⟨"HopNetModel", "goes", "(III)V"⟩, 18) := ⟨⟨by decide +kernel, by decide +kernel⟩, List.mem_of_getElem? (i := 971) (by decide +kernel), List.mem_of_getElem? (i := 1274) (by decide +kernel), List.mem_of_getElem? (i := 1275) (by decide +kernel)⟩
theorem lw_p39 : lw_okq (⟨"HopNetModel", "sendsUp", "()V"⟩, 18) := ⟨⟨by decide +kernel, by decide +kernel⟩, List.mem_of_getElem? (i := 971) (by decide +kernel), List.mem_of_getElem? (i := 1278) (by decide +kernel), List.mem_of_getElem? (i := 1279) (by decide +kernel)⟩
theorem lw_p40 : lw_okq (⟨"HopNetModel", "masterHears", "(II)V"⟩, 18) := ⟨⟨by decide +kernel, by decide +kernel⟩, List.mem_of_getElem? (i := 971) (by decide +kernel), List.mem_of_getElem? (i := 1282) (by decide +kernel), List.mem_of_getElem? (i := 1283) (by decide +kernel)⟩
theorem lw_p41 : lw_okq (⟨"HopNetModel", "chance", "(III)I"⟩, 18) := ⟨⟨by decide +kernel, by decide +kernel⟩, List.mem_of_getElem? (i := 971) (by decide +kernel), List.mem_of_getElem? (i := 1333) (by decide +kernel), List.mem_of_getElem? (i := 1334) (by decide +kernel)⟩
theorem lw_p42 : lw_okq (⟨"HopNetModel", "areBoth", "(I)Z"⟩, 18) := ⟨⟨by decide +kernel, by decide +kernel⟩, List.mem_of_getElem? (i := 971) (by decide +kernel), List.mem_of_getElem? (i := 1344) (by decide +kernel), List.mem_of_getElem? (i := 1345) (by decide +kernel)⟩
theorem lw_p43 : lw_okq (⟨"HopNetModel", "clashesBy", "(I)I"⟩, 18) := ⟨⟨by decide +kernel, by decide +kernel⟩, List.mem_of_getElem? (i := 971) (by decide +kernel), List.mem_of_getElem? (i := 1348) (by decide +kernel), List.mem_of_getElem? (i := 1349) (by decide +kernel)⟩
theorem lw_p44 : lw_okq (⟨"HopNetModel", "canTurn", "(I)Z"⟩, 18) := ⟨⟨by decide +kernel, by decide +kernel⟩, List.mem_of_getElem? (i := 971) (by decide +kernel), List.mem_of_getElem? (i := 1368) (by decide +kernel), List.mem_of_getElem? (i := 1369) (by decide +kernel)⟩
theorem lw_p45 : lw_okq (⟨"HopNetModel", "comesAt", "(II)Z"⟩, 18) := ⟨⟨by decide +kernel, by decide +kernel⟩, List.mem_of_getElem? (i := 971) (by decide +kernel), List.mem_of_getElem? (i := 1376) (by decide +kernel), List.mem_of_getElem? (i := 1377) (by decide +kernel)⟩
theorem lw_p46 : lw_okq (⟨"HopNetModel", "isAhead", "(III)Z"⟩, 18) := ⟨⟨by decide +kernel, by decide +kernel⟩, List.mem_of_getElem? (i := 971) (by decide +kernel), List.mem_of_getElem? (i := 1384) (by decide +kernel), List.mem_of_getElem? (i := 1385) (by decide +kernel)⟩
theorem lw_p47 : lw_okq (⟨"HopNetModel", "isEmpty", "(II)Z"⟩, 18) := ⟨⟨by decide +kernel, by decide +kernel⟩, List.mem_of_getElem? (i := 971) (by decide +kernel), List.mem_of_getElem? (i := 1397) (by decide +kernel), List.mem_of_getElem? (i := 1398) (by decide +kernel)⟩
def lw_privs_3 : List (MethodName × Nat) := [(⟨"HopNetModel", "casts", "(I)V"⟩, 18), (⟨"HopNetModel", "whyNot", "(II)I"⟩, 18), (⟨"HopNetModel", "draw", "()I"⟩, 18), (⟨"HopNetModel", "memberHears", "(II)V"⟩, 18), (⟨"HopNetModel", "hears", "(IIII)V"⟩, 18), (⟨"HopNetModel", "passes", "(III)V"⟩, 18), (⟨"HopNetModel", "goes", "(III)V"⟩, 18), (⟨"HopNetModel", "sendsUp", "()V"⟩, 18), (⟨"HopNetModel", "masterHears", "(II)V"⟩, 18), (⟨"HopNetModel", "chance", "(III)I"⟩, 18), (⟨"HopNetModel", "areBoth", "(I)Z"⟩, 18), (⟨"HopNetModel", "clashesBy", "(I)I"⟩, 18), (⟨"HopNetModel", "canTurn", "(I)Z"⟩, 18), (⟨"HopNetModel", "comesAt", "(II)Z"⟩, 18), (⟨"HopNetModel", "isAhead", "(III)Z"⟩, 18), (⟨"HopNetModel", "isEmpty", "(II)Z"⟩, 18)]
theorem lw_r3 : ∀ q ∈ lw_privs_3, lw_okq q := List.forall_mem_cons.mpr ⟨lw_p32, List.forall_mem_cons.mpr ⟨lw_p33, List.forall_mem_cons.mpr ⟨lw_p34, List.forall_mem_cons.mpr ⟨lw_p35, List.forall_mem_cons.mpr ⟨lw_p36, List.forall_mem_cons.mpr ⟨lw_p37, List.forall_mem_cons.mpr ⟨lw_p38, List.forall_mem_cons.mpr ⟨lw_p39, List.forall_mem_cons.mpr ⟨lw_p40, List.forall_mem_cons.mpr ⟨lw_p41, List.forall_mem_cons.mpr ⟨lw_p42, List.forall_mem_cons.mpr ⟨lw_p43, List.forall_mem_cons.mpr ⟨lw_p44, List.forall_mem_cons.mpr ⟨lw_p45, List.forall_mem_cons.mpr ⟨lw_p46, List.forall_mem_cons.mpr ⟨lw_p47, fun _ h => absurd h List.not_mem_nil⟩⟩⟩⟩⟩⟩⟩⟩⟩⟩⟩⟩⟩⟩⟩⟩
theorem lw_p48 : lw_okq (⟨"HopNetModel", "tries", "(III)I"⟩, 18) := ⟨⟨by decide +kernel, by decide +kernel⟩, List.mem_of_getElem? (i := 971) (by decide +kernel), List.mem_of_getElem? (i := 1405) (by decide +kernel), List.mem_of_getElem? (i := 1406) (by decide +kernel)⟩
theorem lw_p49 : lw_okq (⟨"HopNetModel", "otherMaps", "()I"⟩, 18) := ⟨⟨by decide +kernel, by decide +kernel⟩, List.mem_of_getElem? (i := 971) (by decide +kernel), List.mem_of_getElem? (i := 1409) (by decide +kernel), List.mem_of_getElem? (i := 1410) (by decide +kernel)⟩
theorem lw_p50 : lw_okq (⟨"HopNetModel", "heardOfAll", "()I"⟩, 18) := ⟨⟨by decide +kernel, by decide +kernel⟩, List.mem_of_getElem? (i := 971) (by decide +kernel), List.mem_of_getElem? (i := 1425) (by decide +kernel), List.mem_of_getElem? (i := 1426) (by decide +kernel)⟩
def lw_privs_4 : List (MethodName × Nat) := [(⟨"HopNetModel", "tries", "(III)I"⟩, 18), (⟨"HopNetModel", "otherMaps", "()I"⟩, 18), (⟨"HopNetModel", "heardOfAll", "()I"⟩, 18)]
theorem lw_r4 : ∀ q ∈ lw_privs_4, lw_okq q := List.forall_mem_cons.mpr ⟨lw_p48, List.forall_mem_cons.mpr ⟨lw_p49, List.forall_mem_cons.mpr ⟨lw_p50, fun _ h => absurd h List.not_mem_nil⟩⟩⟩
def lw_privs : List (MethodName × Nat) := lw_privs_1 ++ (lw_privs_2 ++ (lw_privs_3 ++ (lw_privs_4)))
def lw_tbl : List Cond := k2_sels lw_privs ++ tables_1
theorem lw_privs_ok : ∀ q ∈ lw_privs, lw_okq q := by
  show ∀ q ∈ lw_privs_1 ++ (lw_privs_2 ++ (lw_privs_3 ++ (lw_privs_4))), lw_okq q
  exact List.forall_mem_append.mpr ⟨lw_r1, List.forall_mem_append.mpr ⟨lw_r2, List.forall_mem_append.mpr ⟨lw_r3, lw_r4⟩⟩⟩
end
section
/-! names of the program, as TURN prints them -/
def RX0 : String := "HopNet$Frames"
def TX0 : u_T := fun k => match k with
  | 0 => ("HopNet$Frames", "period", "I", false)
  | 1 => ("HopNet$Frames", "phase", "I", false)
  | 2 => ("HopNet$Frames", "window", "I", false)
  | 3 => ("HopNet$Frames", "got", "I", false)
  | 4 => ("HopNet$Frames", "missed", "I", false)
  | _ => ("HopNet$Frames", "turnsLeft", "I", false)
def tyX0 : Nat → FieldType := fun k => match k with
  | 0 => .int
  | 1 => .int
  | 2 => .int
  | 3 => .int
  | 4 => .int
  | _ => .int
abbrev wsX00 : List Cond := u_ws RX0 TX0 6
theorem nmX0 : ∀ a, a < 6 → ∀ b, b < 6 → a ≠ b → (TX0 a).2.1 ≠ (TX0 b).2.1 := by decide +kernel
theorem tyX0_ok : ∀ k, k < 6 → parseFieldDescriptor (TX0 k).2.2.1 = some (tyX0 k) := by decide +kernel
abbrev cX0_init : ByteArray := prog_2_method_1_code
def yX0_init : MethodName := ⟨RX0, "<init>", "()V"⟩
abbrev cX0_set : ByteArray := prog_2_method_2_code
def yX0_set : MethodName := ⟨RX0, "set", "(III)V"⟩
abbrev cX0_copyFrom : ByteArray := prog_2_method_3_code
def yX0_copyFrom : MethodName := ⟨RX0, "copyFrom", "(LHopNet$Frames;)V"⟩
abbrev cX0_isDue : ByteArray := prog_2_method_4_code
def yX0_isDue : MethodName := ⟨RX0, "isDue", "(I)Z"⟩
abbrev cX0_openAt : ByteArray := prog_2_method_5_code
def yX0_openAt : MethodName := ⟨RX0, "openAt", "(I)V"⟩
abbrev cX0_answer : ByteArray := prog_2_method_6_code
def yX0_answer : MethodName := ⟨RX0, "answer", "()V"⟩
abbrev cX0_endTurn : ByteArray := prog_2_method_7_code
def yX0_endTurn : MethodName := ⟨RX0, "endTurn", "()V"⟩
def RX1 : String := "HopNet$Link"
def TX1 : u_T := fun k => match k with
  | 0 => ("HopNet$Link", "plan", "LHopNet$Plan;", true)
  | 1 => ("HopNet$Link", "down", "LHopNet$Row;", true)
  | 2 => ("HopNet$Link", "up", "LHopNet$Row;", true)
  | 3 => ("HopNet$Link", "frames", "LHopNet$Frames;", true)
  | 4 => ("HopNet$Link", "radio", "I", false)
  | 5 => ("HopNet$Link", "known", "Z", false)
  | 6 => ("HopNet$Link", "upWasHeard", "Z", false)
  | 7 => ("HopNet$Link", "sniffPeriod", "I", false)
  | 8 => ("HopNet$Link", "sniffTries", "I", false)
  | 9 => ("HopNet$Link", "weight", "I", false)
  | 10 => ("HopNet$Link", "castBit", "I", false)
  | 11 => ("HopNet$Link", "castsHeard", "I", false)
  | 12 => ("HopNet$Link", "castHash", "I", false)
  | 13 => ("HopNet$Link", "timesChosen", "I", false)
  | 14 => ("HopNet$Link", "turnsReady", "I", false)
  | 15 => ("HopNet$Link", "why", "I", false)
  | 16 => ("HopNet$Link", "lastHeard", "I", false)
  | _ => ("HopNet$Link", "isReady", "Z", false)
def tyX1 : Nat → FieldType := fun k => match k with
  | 0 => .object "HopNet$Plan"
  | 1 => .object "HopNet$Row"
  | 2 => .object "HopNet$Row"
  | 3 => .object "HopNet$Frames"
  | 4 => .int
  | 5 => .boolean
  | 6 => .boolean
  | 7 => .int
  | 8 => .int
  | 9 => .int
  | 10 => .int
  | 11 => .int
  | 12 => .int
  | 13 => .int
  | 14 => .int
  | 15 => .int
  | 16 => .int
  | _ => .boolean
abbrev wsX10 : List Cond := u_ws RX1 TX1 18
theorem nmX1 : ∀ a, a < 18 → ∀ b, b < 18 → a ≠ b → (TX1 a).2.1 ≠ (TX1 b).2.1 := by decide +kernel
theorem tyX1_ok : ∀ k, k < 18 → parseFieldDescriptor (TX1 k).2.2.1 = some (tyX1 k) := by decide +kernel
abbrev cX1_init : ByteArray := prog_3_method_1_code
def yX1_init : MethodName := ⟨RX1, "<init>", "()V"⟩
abbrev cX1_begin : ByteArray := prog_3_method_2_code
def yX1_begin : MethodName := ⟨RX1, "begin", "(ILHopNet$Plan;I)V"⟩
abbrev cX1_copyFrom : ByteArray := prog_3_method_3_code
def yX1_copyFrom : MethodName := ⟨RX1, "copyFrom", "(LHopNet$Link;)V"⟩
abbrev cX1_isAwake : ByteArray := prog_3_method_4_code
def yX1_isAwake : MethodName := ⟨RX1, "isAwake", "(I)Z"⟩
abbrev cX1_hearCast : ByteArray := prog_3_method_5_code
def yX1_hearCast : MethodName := ⟨RX1, "hearCast", "(II)V"⟩
abbrev cX1_hearMapOf : ByteArray := prog_3_method_6_code
def yX1_hearMapOf : MethodName := ⟨RX1, "hearMapOf", "(LHopNet$Plan;)V"⟩
def RX2 : String := "HopNet$Net"
def TX2 : u_T := fun k => match k with
  | 0 => ("HopNet$Net", "plan", "LHopNet$Plan;", true)
  | 1 => ("HopNet$Net", "casts", "[I", true)
  | 2 => ("HopNet$Net", "sentOn", "[I", true)
  | 3 => ("HopNet$Net", "answeredOn", "[I", true)
  | 4 => ("HopNet$Net", "links", "[LHopNet$Link;", true)
  | 5 => ("HopNet$Net", "master", "I", false)
  | 6 => ("HopNet$Net", "offset", "I", false)
  | 7 => ("HopNet$Net", "mapAhead", "I", false)
  | 8 => ("HopNet$Net", "linkCount", "I", false)
  | 9 => ("HopNet$Net", "polled", "I", false)
  | 10 => ("HopNet$Net", "pollsInRow", "I", false)
  | 11 => ("HopNet$Net", "castCount", "I", false)
  | 12 => ("HopNet$Net", "castBit", "I", false)
  | 13 => ("HopNet$Net", "firstCastSent", "I", false)
  | 14 => ("HopNet$Net", "isCasting", "Z", false)
  | 15 => ("HopNet$Net", "chosen", "I", false)
  | 16 => ("HopNet$Net", "hopInSlot", "I", false)
  | 17 => ("HopNet$Net", "channelInSlot", "I", false)
  | 18 => ("HopNet$Net", "masterSentOn", "I", false)
  | _ => ("HopNet$Net", "packetHeard", "Z", false)
def tyX2 : Nat → FieldType := fun k => match k with
  | 0 => .object "HopNet$Plan"
  | 1 => .array .int
  | 2 => .array .int
  | 3 => .array .int
  | 4 => .array (.object "HopNet$Link")
  | 5 => .int
  | 6 => .int
  | 7 => .int
  | 8 => .int
  | 9 => .int
  | 10 => .int
  | 11 => .int
  | 12 => .int
  | 13 => .int
  | 14 => .boolean
  | 15 => .int
  | 16 => .int
  | 17 => .int
  | 18 => .int
  | _ => .boolean
abbrev wsX20 : List Cond := u_ws RX2 TX2 20
theorem nmX2 : ∀ a, a < 20 → ∀ b, b < 20 → a ≠ b → (TX2 a).2.1 ≠ (TX2 b).2.1 := by decide +kernel
theorem tyX2_ok : ∀ k, k < 20 → parseFieldDescriptor (TX2 k).2.2.1 = some (tyX2 k) := by decide +kernel
abbrev cX2_init : ByteArray := prog_4_method_1_code
def yX2_init : MethodName := ⟨RX2, "<init>", "()V"⟩
abbrev cX2_copyFrom : ByteArray := prog_4_method_2_code
def yX2_copyFrom : MethodName := ⟨RX2, "copyFrom", "(LHopNet$Net;)V"⟩
abbrev cX2_linkAt : ByteArray := prog_4_method_3_code
def yX2_linkAt : MethodName := ⟨RX2, "linkAt", "(I)LHopNet$Link;"⟩
abbrev cX2_linkOfRadio : ByteArray := prog_4_method_4_code
def yX2_linkOfRadio : MethodName := ⟨RX2, "linkOfRadio", "(I)LHopNet$Link;"⟩
abbrev cX2_holds : ByteArray := prog_4_method_5_code
def yX2_holds : MethodName := ⟨RX2, "holds", "(I)Z"⟩
abbrev cX2_addMember : ByteArray := prog_4_method_6_code
def yX2_addMember : MethodName := ⟨RX2, "addMember", "(II)V"⟩
abbrev cX2_removeMember : ByteArray := prog_4_method_7_code
def yX2_removeMember : MethodName := ⟨RX2, "removeMember", "(I)V"⟩
abbrev cX2_tellMap : ByteArray := prog_4_method_8_code
def yX2_tellMap : MethodName := ⟨RX2, "tellMap", "(II)V"⟩
abbrev cX2_badChannels : ByteArray := prog_4_method_9_code
def yX2_badChannels : MethodName := ⟨RX2, "badChannels", "(I)I"⟩
abbrev cX2_mostAnswered : ByteArray := prog_4_method_10_code
def yX2_mostAnswered : MethodName := ⟨RX2, "mostAnswered", "()I"⟩
abbrev cX2_rankOf : ByteArray := prog_4_method_11_code
def yX2_rankOf : MethodName := ⟨RX2, "rankOf", "(I)I"⟩
abbrev cX2_firstWithOpenFrame : ByteArray := prog_4_method_12_code
def yX2_firstWithOpenFrame : MethodName := ⟨RX2, "firstWithOpenFrame", "()I"⟩
abbrev cX2_firstNotKnown : ByteArray := prog_4_method_13_code
def yX2_firstNotKnown : MethodName := ⟨RX2, "firstNotKnown", "()I"⟩
abbrev cX2_nextPolled : ByteArray := prog_4_method_14_code
def yX2_nextPolled : MethodName := ⟨RX2, "nextPolled", "()I"⟩
abbrev cX2_tallySent : ByteArray := prog_4_method_15_code
def yX2_tallySent : MethodName := ⟨RX2, "tallySent", "()V"⟩
abbrev cX2_tallyAnswered : ByteArray := prog_4_method_16_code
def yX2_tallyAnswered : MethodName := ⟨RX2, "tallyAnswered", "()V"⟩
abbrev cX2_endCastTurn : ByteArray := prog_4_method_17_code
def yX2_endCastTurn : MethodName := ⟨RX2, "endCastTurn", "(I)V"⟩
abbrev cX2_dropFirstCast : ByteArray := prog_4_method_18_code
def yX2_dropFirstCast : MethodName := ⟨RX2, "dropFirstCast", "()V"⟩
def RX3 : String := "HopNet$Plan"
def TX3 : u_T := fun k => match k with
  | 0 => ("HopNet$Plan", "map", "I", false)
  | 1 => ("HopNet$Plan", "next", "I", false)
  | _ => ("HopNet$Plan", "instant", "I", false)
def tyX3 : Nat → FieldType := fun k => match k with
  | 0 => .int
  | 1 => .int
  | _ => .int
abbrev wsX30 : List Cond := u_ws RX3 TX3 3
theorem nmX3 : ∀ a, a < 3 → ∀ b, b < 3 → a ≠ b → (TX3 a).2.1 ≠ (TX3 b).2.1 := by decide +kernel
theorem tyX3_ok : ∀ k, k < 3 → parseFieldDescriptor (TX3 k).2.2.1 = some (tyX3 k) := by decide +kernel
abbrev cX3_init : ByteArray := prog_5_method_1_code
def yX3_init : MethodName := ⟨RX3, "<init>", "()V"⟩
abbrev cX3_copyFrom : ByteArray := prog_5_method_2_code
def yX3_copyFrom : MethodName := ⟨RX3, "copyFrom", "(LHopNet$Plan;)V"⟩
abbrev cX3_hasNext : ByteArray := prog_5_method_3_code
def yX3_hasNext : MethodName := ⟨RX3, "hasNext", "()Z"⟩
abbrev cX3_expect : ByteArray := prog_5_method_4_code
def yX3_expect : MethodName := ⟨RX3, "expect", "(II)V"⟩
abbrev cX3_takeAtOnce : ByteArray := prog_5_method_5_code
def yX3_takeAtOnce : MethodName := ⟨RX3, "takeAtOnce", "(I)V"⟩
abbrev cX3_changesAt : ByteArray := prog_5_method_6_code
def yX3_changesAt : MethodName := ⟨RX3, "changesAt", "(I)Z"⟩
abbrev cX3_isLike : ByteArray := prog_5_method_7_code
def yX3_isLike : MethodName := ⟨RX3, "isLike", "(LHopNet$Plan;)Z"⟩
def RX4 : String := "HopNet$Row"
def TX4 : u_T := fun k => match k with
  | 0 => ("HopNet$Row", "numbers", "[I", true)
  | 1 => ("HopNet$Row", "since", "[I", true)
  | 2 => ("HopNet$Row", "size", "I", false)
  | 3 => ("HopNet$Row", "sendBit", "I", false)
  | 4 => ("HopNet$Row", "heardBit", "I", false)
  | 5 => ("HopNet$Row", "heard", "I", false)
  | 6 => ("HopNet$Row", "hash", "I", false)
  | _ => ("HopNet$Row", "greatestLag", "I", false)
def tyX4 : Nat → FieldType := fun k => match k with
  | 0 => .array .int
  | 1 => .array .int
  | 2 => .int
  | 3 => .int
  | 4 => .int
  | 5 => .int
  | 6 => .int
  | _ => .int
abbrev wsX40 : List Cond := u_ws RX4 TX4 8
theorem nmX4 : ∀ a, a < 8 → ∀ b, b < 8 → a ≠ b → (TX4 a).2.1 ≠ (TX4 b).2.1 := by decide +kernel
theorem tyX4_ok : ∀ k, k < 8 → parseFieldDescriptor (TX4 k).2.2.1 = some (tyX4 k) := by decide +kernel
abbrev cX4_init : ByteArray := prog_6_method_1_code
def yX4_init : MethodName := ⟨RX4, "<init>", "()V"⟩
abbrev cX4_begin : ByteArray := prog_6_method_2_code
def yX4_begin : MethodName := ⟨RX4, "begin", "()V"⟩
abbrev cX4_copyFrom : ByteArray := prog_6_method_3_code
def yX4_copyFrom : MethodName := ⟨RX4, "copyFrom", "(LHopNet$Row;)V"⟩
abbrev cX4_isFull : ByteArray := prog_6_method_4_code
def yX4_isFull : MethodName := ⟨RX4, "isFull", "()Z"⟩
abbrev cX4_append : ByteArray := prog_6_method_5_code
def yX4_append : MethodName := ⟨RX4, "append", "(II)V"⟩
abbrev cX4_hearFirst : ByteArray := prog_6_method_6_code
def yX4_hearFirst : MethodName := ⟨RX4, "hearFirst", "()Z"⟩
abbrev cX4_takeFirst : ByteArray := prog_6_method_7_code
def yX4_takeFirst : MethodName := ⟨RX4, "takeFirst", "(I)V"⟩
def RX5 : String := "HopNet$World"
def TX5 : u_T := fun k => match k with
  | 0 => ("HopNet$World", "addresses", "[I", true)
  | 1 => ("HopNet$World", "noises", "[I", true)
  | 2 => ("HopNet$World", "tallies", "[I", true)
  | 3 => ("HopNet$World", "nets", "[LHopNet$Net;", true)
  | 4 => ("HopNet$World", "radioCount", "I", false)
  | 5 => ("HopNet$World", "time", "I", false)
  | 6 => ("HopNet$World", "seed", "I", false)
  | 7 => ("HopNet$World", "share", "I", false)
  | 8 => ("HopNet$World", "repeats", "I", false)
  | _ => ("HopNet$World", "heardNow", "I", false)
def tyX5 : Nat → FieldType := fun k => match k with
  | 0 => .array .int
  | 1 => .array .int
  | 2 => .array .int
  | 3 => .array (.object "HopNet$Net")
  | 4 => .int
  | 5 => .int
  | 6 => .int
  | 7 => .int
  | 8 => .int
  | _ => .int
abbrev wsX50 : List Cond := u_ws RX5 TX5 10
theorem nmX5 : ∀ a, a < 10 → ∀ b, b < 10 → a ≠ b → (TX5 a).2.1 ≠ (TX5 b).2.1 := by decide +kernel
theorem tyX5_ok : ∀ k, k < 10 → parseFieldDescriptor (TX5 k).2.2.1 = some (tyX5 k) := by decide +kernel
abbrev cX5_init : ByteArray := prog_7_method_1_code
def yX5_init : MethodName := ⟨RX5, "<init>", "()V"⟩
abbrev cX5_copyFrom : ByteArray := prog_7_method_2_code
def yX5_copyFrom : MethodName := ⟨RX5, "copyFrom", "(LHopNet$World;)V"⟩
abbrev cX5_hasRadio : ByteArray := prog_7_method_3_code
def yX5_hasRadio : MethodName := ⟨RX5, "hasRadio", "(I)Z"⟩
abbrev cX5_netAt : ByteArray := prog_7_method_4_code
def yX5_netAt : MethodName := ⟨RX5, "netAt", "(I)LHopNet$Net;"⟩
abbrev cX5_linkAt : ByteArray := prog_7_method_5_code
def yX5_linkAt : MethodName := ⟨RX5, "linkAt", "(II)LHopNet$Link;"⟩
abbrev cX5_hasBothNets : ByteArray := prog_7_method_6_code
def yX5_hasBothNets : MethodName := ⟨RX5, "hasBothNets", "()Z"⟩
abbrev cX5_isPresent : ByteArray := prog_7_method_7_code
def yX5_isPresent : MethodName := ⟨RX5, "isPresent", "(III)Z"⟩
abbrev cX5_isReadyAt : ByteArray := prog_7_method_8_code
def yX5_isReadyAt : MethodName := ⟨RX5, "isReadyAt", "(ILHopNet$Link;I)Z"⟩
abbrev cX5_addressOf : ByteArray := prog_7_method_9_code
def yX5_addressOf : MethodName := ⟨RX5, "addressOf", "(I)I"⟩
abbrev cX5_hopIn : ByteArray := prog_7_method_10_code
def yX5_hopIn : MethodName := ⟨RX5, "hopIn", "(II)I"⟩
abbrev cX5_channelBy : ByteArray := prog_7_method_11_code
def yX5_channelBy : MethodName := ⟨RX5, "channelBy", "(III)I"⟩
abbrev cX5_mastersMeet : ByteArray := prog_7_method_12_code
def yX5_mastersMeet : MethodName := ⟨RX5, "mastersMeet", "(I)Z"⟩
abbrev cX5_clearOf : ByteArray := prog_7_method_13_code
def yX5_clearOf : MethodName := ⟨RX5, "clearOf", "(ILHopNet$Link;I)I"⟩
abbrev cX5_noiseOn : ByteArray := prog_7_method_14_code
def yX5_noiseOn : MethodName := ⟨RX5, "noiseOn", "(I)I"⟩
abbrev cX5_framesMissed : ByteArray := prog_7_method_15_code
def yX5_framesMissed : MethodName := ⟨RX5, "framesMissed", "()I"⟩
abbrev cX5_linksOfOtherMap : ByteArray := prog_7_method_16_code
def yX5_linksOfOtherMap : MethodName := ⟨RX5, "linksOfOtherMap", "()I"⟩
abbrev cX5_heardOfAll : ByteArray := prog_7_method_17_code
def yX5_heardOfAll : MethodName := ⟨RX5, "heardOfAll", "()I"⟩
abbrev cX5_heardInTurns : ByteArray := prog_7_method_18_code
def yX5_heardInTurns : MethodName := ⟨RX5, "heardInTurns", "(I)I"⟩
abbrev cX5_goOneTurn : ByteArray := prog_7_method_19_code
def yX5_goOneTurn : MethodName := ⟨RX5, "goOneTurn", "()V"⟩
abbrev cX5_changeMaps : ByteArray := prog_7_method_20_code
def yX5_changeMaps : MethodName := ⟨RX5, "changeMaps", "(LHopNet$Net;)V"⟩
abbrev cX5_beginTurnOfLinks : ByteArray := prog_7_method_21_code
def yX5_beginTurnOfLinks : MethodName := ⟨RX5, "beginTurnOfLinks", "(I)V"⟩
abbrev cX5_endTurnOfLinks : ByteArray := prog_7_method_22_code
def yX5_endTurnOfLinks : MethodName := ⟨RX5, "endTurnOfLinks", "(LHopNet$Net;)V"⟩
abbrev cX5_chooseIn : ByteArray := prog_7_method_23_code
def yX5_chooseIn : MethodName := ⟨RX5, "chooseIn", "(I)V"⟩
abbrev cX5_draw : ByteArray := prog_7_method_24_code
def yX5_draw : MethodName := ⟨RX5, "draw", "()I"⟩
abbrev cX5_lossOnAir : ByteArray := prog_7_method_25_code
def yX5_lossOnAir : MethodName := ⟨RX5, "lossOnAir", "(I)I"⟩
abbrev cX5_tunePacket : ByteArray := prog_7_method_26_code
def yX5_tunePacket : MethodName := ⟨RX5, "tunePacket", "(I)V"⟩
abbrev cX5_sendPacket : ByteArray := prog_7_method_27_code
def yX5_sendPacket : MethodName := ⟨RX5, "sendPacket", "(I)V"⟩
abbrev cX5_hearPacket : ByteArray := prog_7_method_28_code
def yX5_hearPacket : MethodName := ⟨RX5, "hearPacket", "(I)V"⟩
abbrev cX5_passOn : ByteArray := prog_7_method_29_code
def yX5_passOn : MethodName := ⟨RX5, "passOn", "(ILHopNet$Link;)V"⟩
abbrev cX5_tuneAnswer : ByteArray := prog_7_method_30_code
def yX5_tuneAnswer : MethodName := ⟨RX5, "tuneAnswer", "(I)V"⟩
abbrev cX5_sendAnswer : ByteArray := prog_7_method_31_code
def yX5_sendAnswer : MethodName := ⟨RX5, "sendAnswer", "(I)V"⟩
abbrev cX5_hearAnswer : ByteArray := prog_7_method_32_code
def yX5_hearAnswer : MethodName := ⟨RX5, "hearAnswer", "(LHopNet$Net;LHopNet$Link;)V"⟩
def RX6 : String := "HopNet"
def TX6 : u_T := fun k => match k with
  | 0 => ("HopNet", "world", "LHopNet$World;", true)
  | 1 => ("HopNet", "paper", "LHopNet$World;", true)
  | 2 => ("HopNet", "images", "[LHopNet$World;", true)
  | 3 => ("HopNet", "imageKept", "[Z", true)
  | 4 => ("HopNet", "past", "[LHopNet$World;", true)
  | 5 => ("HopNet", "pastActs", "[I", true)
  | 6 => ("HopNet", "pastNext", "I", false)
  | 7 => ("HopNet", "pastCount", "I", false)
  | 8 => ("HopNet", "refusals", "[I", true)
  | 9 => ("HopNet", "latestRefusal", "I", false)
  | 10 => ("HopNet", "hopsOfFirst", "[I", true)
  | _ => ("HopNet", "hopsOfSecond", "[I", true)
def tyX6 : Nat → FieldType := fun k => match k with
  | 0 => .object "HopNet$World"
  | 1 => .object "HopNet$World"
  | 2 => .array (.object "HopNet$World")
  | 3 => .array .boolean
  | 4 => .array (.object "HopNet$World")
  | 5 => .array .int
  | 6 => .int
  | 7 => .int
  | 8 => .array .int
  | 9 => .int
  | 10 => .array .int
  | _ => .array .int
abbrev wsX60 : List Cond := u_ws RX6 TX6 12
theorem nmX6 : ∀ a, a < 12 → ∀ b, b < 12 → a ≠ b → (TX6 a).2.1 ≠ (TX6 b).2.1 := by decide +kernel
theorem tyX6_ok : ∀ k, k < 12 → parseFieldDescriptor (TX6 k).2.2.1 = some (tyX6 k) := by decide +kernel
abbrev cX6_init : ByteArray := prog_1_method_1_code
def yX6_init : MethodName := ⟨RX6, "<init>", "()V"⟩
abbrev cX6_radio : ByteArray := prog_1_method_2_code
def yX6_radio : MethodName := ⟨RX6, "radio", "(I)I"⟩
abbrev cX6_net : ByteArray := prog_1_method_3_code
def yX6_net : MethodName := ⟨RX6, "net", "(III)I"⟩
abbrev cX6_join : ByteArray := prog_1_method_4_code
def yX6_join : MethodName := ⟨RX6, "join", "(II)I"⟩
abbrev cX6_leave : ByteArray := prog_1_method_5_code
def yX6_leave : MethodName := ⟨RX6, "leave", "(II)I"⟩
abbrev cX6_noise : ByteArray := prog_1_method_6_code
def yX6_noise : MethodName := ⟨RX6, "noise", "(II)I"⟩
abbrev cX6_terms : ByteArray := prog_1_method_7_code
def yX6_terms : MethodName := ⟨RX6, "terms", "(II)I"⟩
abbrev cX6_put : ByteArray := prog_1_method_8_code
def yX6_put : MethodName := ⟨RX6, "put", "(IIII)I"⟩
abbrev cX6_reserve : ByteArray := prog_1_method_9_code
def yX6_reserve : MethodName := ⟨RX6, "reserve", "(IIIII)I"⟩
abbrev cX6_sniff : ByteArray := prog_1_method_10_code
def yX6_sniff : MethodName := ⟨RX6, "sniff", "(IIII)I"⟩
abbrev cX6_weigh : ByteArray := prog_1_method_11_code
def yX6_weigh : MethodName := ⟨RX6, "weigh", "(III)I"⟩
abbrev cX6_cast : ByteArray := prog_1_method_12_code
def yX6_cast : MethodName := ⟨RX6, "cast", "(II)I"⟩
abbrev cX6_map : ByteArray := prog_1_method_13_code
def yX6_map : MethodName := ⟨RX6, "map", "(III)I"⟩
abbrev cX6_adapt : ByteArray := prog_1_method_14_code
def yX6_adapt : MethodName := ⟨RX6, "adapt", "(III)I"⟩
abbrev cX6_run : ByteArray := prog_1_method_15_code
def yX6_run : MethodName := ⟨RX6, "run", "(I)I"⟩
abbrev cX6_undo : ByteArray := prog_1_method_16_code
def yX6_undo : MethodName := ⟨RX6, "undo", "()I"⟩
abbrev cX6_image : ByteArray := prog_1_method_17_code
def yX6_image : MethodName := ⟨RX6, "image", "(I)I"⟩
abbrev cX6_back : ByteArray := prog_1_method_18_code
def yX6_back : MethodName := ⟨RX6, "back", "(I)I"⟩
abbrev cX6_kernel : ByteArray := prog_1_method_19_code
def yX6_kernel : MethodName := ⟨RX6, "kernel", "(II)I"⟩
abbrev cX6_hop : ByteArray := prog_1_method_20_code
def yX6_hop : MethodName := ⟨RX6, "hop", "(III)I"⟩
abbrev cX6_alike : ByteArray := prog_1_method_21_code
def yX6_alike : MethodName := ⟨RX6, "alike", "(III)I"⟩
abbrev cX6_mapOf : ByteArray := prog_1_method_22_code
def yX6_mapOf : MethodName := ⟨RX6, "mapOf", "(III)I"⟩
abbrev cX6_meets : ByteArray := prog_1_method_23_code
def yX6_meets : MethodName := ⟨RX6, "meets", "()I"⟩
abbrev cX6_used : ByteArray := prog_1_method_24_code
def yX6_used : MethodName := ⟨RX6, "used", "(III)I"⟩
abbrev cX6_bad : ByteArray := prog_1_method_25_code
def yX6_bad : MethodName := ⟨RX6, "bad", "(II)I"⟩
abbrev cX6_sent : ByteArray := prog_1_method_26_code
def yX6_sent : MethodName := ⟨RX6, "sent", "(III)I"⟩
abbrev cX6_link : ByteArray := prog_1_method_27_code
def yX6_link : MethodName := ⟨RX6, "link", "(III)I"⟩
abbrev cX6_hash : ByteArray := prog_1_method_28_code
def yX6_hash : MethodName := ⟨RX6, "hash", "(III)I"⟩
abbrev cX6_reserved : ByteArray := prog_1_method_29_code
def yX6_reserved : MethodName := ⟨RX6, "reserved", "(III)I"⟩
abbrev cX6_isThere : ByteArray := prog_1_method_30_code
def yX6_isThere : MethodName := ⟨RX6, "isThere", "(III)I"⟩
abbrev cX6_odds : ByteArray := prog_1_method_31_code
def yX6_odds : MethodName := ⟨RX6, "odds", "(IIII)I"⟩
abbrev cX6_clashes : ByteArray := prog_1_method_32_code
def yX6_clashes : MethodName := ⟨RX6, "clashes", "(I)I"⟩
abbrev cX6_bestOffset : ByteArray := prog_1_method_33_code
def yX6_bestOffset : MethodName := ⟨RX6, "bestOffset", "(I)I"⟩
abbrev cX6_drain : ByteArray := prog_1_method_34_code
def yX6_drain : MethodName := ⟨RX6, "drain", "(II)I"⟩
abbrev cX6_would : ByteArray := prog_1_method_35_code
def yX6_would : MethodName := ⟨RX6, "would", "(III)I"⟩
abbrev cX6_ready : ByteArray := prog_1_method_36_code
def yX6_ready : MethodName := ⟨RX6, "ready", "(II)I"⟩
abbrev cX6_bothReady : ByteArray := prog_1_method_37_code
def yX6_bothReady : MethodName := ⟨RX6, "bothReady", "(IIII)I"⟩
abbrev cX6_ahead : ByteArray := prog_1_method_38_code
def yX6_ahead : MethodName := ⟨RX6, "ahead", "(II)I"⟩
abbrev cX6_together : ByteArray := prog_1_method_39_code
def yX6_together : MethodName := ⟨RX6, "together", "(III)I"⟩
abbrev cX6_ranked : ByteArray := prog_1_method_40_code
def yX6_ranked : MethodName := ⟨RX6, "ranked", "(II)I"⟩
abbrev cX6_quiet : ByteArray := prog_1_method_41_code
def yX6_quiet : MethodName := ⟨RX6, "quiet", "(II)I"⟩
abbrev cX6_bestShare : ByteArray := prog_1_method_42_code
def yX6_bestShare : MethodName := ⟨RX6, "bestShare", "(I)I"⟩
abbrev cX6_ofNet : ByteArray := prog_1_method_43_code
def yX6_ofNet : MethodName := ⟨RX6, "ofNet", "(II)I"⟩
abbrev cX6_count : ByteArray := prog_1_method_44_code
def yX6_count : MethodName := ⟨RX6, "count", "(I)I"⟩
abbrev cX6_status : ByteArray := prog_1_method_45_code
def yX6_status : MethodName := ⟨RX6, "status", "()I"⟩
abbrev cX6_refuse : ByteArray := prog_1_method_46_code
def yX6_refuse : MethodName := ⟨RX6, "refuse", "(I)I"⟩
abbrev cX6_accept : ByteArray := prog_1_method_47_code
def yX6_accept : MethodName := ⟨RX6, "accept", "(I)I"⟩
abbrev cX6_keepForUndo : ByteArray := prog_1_method_48_code
def yX6_keepForUndo : MethodName := ⟨RX6, "keepForUndo", "(I)V"⟩
abbrev cX6_tellMap : ByteArray := prog_1_method_49_code
def yX6_tellMap : MethodName := ⟨RX6, "tellMap", "(LHopNet$Net;II)I"⟩
abbrev cX6_hasTimeFor : ByteArray := prog_1_method_50_code
def yX6_hasTimeFor : MethodName := ⟨RX6, "hasTimeFor", "(I)Z"⟩
abbrev cX6_paperWith : ByteArray := prog_1_method_51_code
def yX6_paperWith : MethodName := ⟨RX6, "paperWith", "(I)LHopNet$World;"⟩
abbrev cX6_planOf : ByteArray := prog_1_method_52_code
def yX6_planOf : MethodName := ⟨RX6, "planOf", "(II)LHopNet$Plan;"⟩
abbrev cX6_noteHops : ByteArray := prog_1_method_53_code
def yX6_noteHops : MethodName := ⟨RX6, "noteHops", "(I)V"⟩
abbrev cX6_clashesAt : ByteArray := prog_1_method_54_code
def yX6_clashesAt : MethodName := ⟨RX6, "clashesAt", "(II)I"⟩
abbrev cX6_isWithin : ByteArray := prog_1_method_55_code
def yX6_isWithin : MethodName := ⟨RX6, "isWithin", "(III)Z"⟩
abbrev cX6_isEvenWithin : ByteArray := prog_1_method_56_code
def yX6_isEvenWithin : MethodName := ⟨RX6, "isEvenWithin", "(III)Z"⟩
abbrev cX6_isTerm : ByteArray := prog_1_method_57_code
def yX6_isTerm : MethodName := ⟨RX6, "isTerm", "(II)Z"⟩
abbrev cX6_isMap : ByteArray := prog_1_method_58_code
def yX6_isMap : MethodName := ⟨RX6, "isMap", "(I)Z"⟩
abbrev cX6_bit : ByteArray := prog_1_method_59_code
def yX6_bit : MethodName := ⟨RX6, "bit", "(Z)I"⟩
abbrev cX6_greatestDivisor : ByteArray := prog_1_method_60_code
def yX6_greatestDivisor : MethodName := ⟨RX6, "greatestDivisor", "(II)I"⟩
abbrev cX6_hopOf : ByteArray := prog_1_method_61_code
def yX6_hopOf : MethodName := ⟨RX6, "hopOf", "(II)I"⟩
abbrev cX6_byMap : ByteArray := prog_1_method_62_code
def yX6_byMap : MethodName := ⟨RX6, "byMap", "(II)I"⟩
def RX7 : String := "HopNetModel"
def TX7 : u_T := fun k => match k with
  | 0 => ("HopNetModel", "thrown", "I", false)
  | 1 => ("HopNetModel", "status", "I", false)
  | 2 => ("HopNetModel", "refusals", "[I", true)
  | 3 => ("HopNetModel", "row", "[I", true)
  | 4 => ("HopNetModel", "undos", "[I", true)
  | 5 => ("HopNetModel", "sorts", "[I", true)
  | 6 => ("HopNetModel", "nUndo", "I", false)
  | 7 => ("HopNetModel", "images", "[I", true)
  | 8 => ("HopNetModel", "isKept", "[Z", true)
  | 9 => ("HopNetModel", "ahead", "[I", true)
  | 10 => ("HopNetModel", "chosen", "[I", true)
  | 11 => ("HopNetModel", "channel", "[I", true)
  | 12 => ("HopNetModel", "firstChannel", "[I", true)
  | 13 => ("HopNetModel", "sentNumber", "[Z", true)
  | 14 => ("HopNetModel", "sentMap", "[Z", true)
  | 15 => ("HopNetModel", "isHeard", "[Z", true)
  | 16 => ("HopNetModel", "heardMany", "I", false)
  | _ => ("HopNetModel", "missedMany", "I", false)
def tyX7 : Nat → FieldType := fun k => match k with
  | 0 => .int
  | 1 => .int
  | 2 => .array .int
  | 3 => .array .int
  | 4 => .array .int
  | 5 => .array .int
  | 6 => .int
  | 7 => .array .int
  | 8 => .array .boolean
  | 9 => .array .int
  | 10 => .array .int
  | 11 => .array .int
  | 12 => .array .int
  | 13 => .array .boolean
  | 14 => .array .boolean
  | 15 => .array .boolean
  | 16 => .int
  | _ => .int
abbrev wsX70 : List Cond := u_ws RX7 TX7 18
theorem nmX7 : ∀ a, a < 18 → ∀ b, b < 18 → a ≠ b → (TX7 a).2.1 ≠ (TX7 b).2.1 := by decide +kernel
theorem tyX7_ok : ∀ k, k < 18 → parseFieldDescriptor (TX7 k).2.2.1 = some (tyX7 k) := by decide +kernel
abbrev cX7_init : ByteArray := prog_9_method_1_code
def yX7_init : MethodName := ⟨RX7, "<init>", "()V"⟩
abbrev cX7_in : ByteArray := prog_9_method_3_code
def yX7_in : MethodName := ⟨RX7, "in", "(JJJ)Z"⟩
abbrev cX7_bits : ByteArray := prog_9_method_4_code
def yX7_bits : MethodName := ⟨RX7, "bits", "(I)I"⟩
abbrev cX7_tell : ByteArray := prog_9_method_5_code
def yX7_tell : MethodName := ⟨RX7, "tell", "(I)I"⟩
abbrev cX7_refuse : ByteArray := prog_9_method_6_code
def yX7_refuse : MethodName := ⟨RX7, "refuse", "(I)I"⟩
abbrev cX7_copy : ByteArray := prog_9_method_7_code
def yX7_copy : MethodName := ⟨RX7, "copy", "([II[II)V"⟩
abbrev cX7_remember : ByteArray := prog_9_method_8_code
def yX7_remember : MethodName := ⟨RX7, "remember", "(I)V"⟩
abbrev cX7_undo : ByteArray := prog_9_method_9_code
def yX7_undo : MethodName := ⟨RX7, "undo", "()I"⟩
abbrev cX7_image : ByteArray := prog_9_method_10_code
def yX7_image : MethodName := ⟨RX7, "image", "(I)I"⟩
abbrev cX7_back : ByteArray := prog_9_method_11_code
def yX7_back : MethodName := ⟨RX7, "back", "(I)I"⟩
abbrev cX7_netAt : ByteArray := prog_9_method_12_code
def yX7_netAt : MethodName := ⟨RX7, "netAt", "(I)I"⟩
abbrev cX7_linkAt : ByteArray := prog_9_method_13_code
def yX7_linkAt : MethodName := ⟨RX7, "linkAt", "(II)I"⟩
abbrev cX7_isRadio : ByteArray := prog_9_method_14_code
def yX7_isRadio : MethodName := ⟨RX7, "isRadio", "(I)Z"⟩
abbrev cX7_isNet : ByteArray := prog_9_method_15_code
def yX7_isNet : MethodName := ⟨RX7, "isNet", "(I)Z"⟩
abbrev cX7_isLink : ByteArray := prog_9_method_16_code
def yX7_isLink : MethodName := ⟨RX7, "isLink", "(II)Z"⟩
abbrev cX7_isIn : ByteArray := prog_9_method_17_code
def yX7_isIn : MethodName := ⟨RX7, "isIn", "(II)Z"⟩
abbrev cX7_isHere : ByteArray := prog_9_method_18_code
def yX7_isHere : MethodName := ⟨RX7, "isHere", "(III)Z"⟩
abbrev cX7_kernelOf : ByteArray := prog_9_method_19_code
def yX7_kernelOf : MethodName := ⟨RX7, "kernelOf", "(II)I"⟩
abbrev cX7_byMap : ByteArray := prog_9_method_20_code
def yX7_byMap : MethodName := ⟨RX7, "byMap", "(II)I"⟩
abbrev cX7_hopOf : ByteArray := prog_9_method_21_code
def yX7_hopOf : MethodName := ⟨RX7, "hopOf", "(III)I"⟩
abbrev cX7_kernel : ByteArray := prog_9_method_22_code
def yX7_kernel : MethodName := ⟨RX7, "kernel", "(II)I"⟩
abbrev cX7_mapHeld : ByteArray := prog_9_method_23_code
def yX7_mapHeld : MethodName := ⟨RX7, "mapHeld", "(II)I"⟩
abbrev cX7_hop : ByteArray := prog_9_method_24_code
def yX7_hop : MethodName := ⟨RX7, "hop", "(III)I"⟩
abbrev cX7_radio : ByteArray := prog_9_method_25_code
def yX7_radio : MethodName := ⟨RX7, "radio", "(I)I"⟩
abbrev cX7_net : ByteArray := prog_9_method_26_code
def yX7_net : MethodName := ⟨RX7, "net", "(III)I"⟩
abbrev cX7_join : ByteArray := prog_9_method_27_code
def yX7_join : MethodName := ⟨RX7, "join", "(II)I"⟩
abbrev cX7_leave : ByteArray := prog_9_method_28_code
def yX7_leave : MethodName := ⟨RX7, "leave", "(II)I"⟩
abbrev cX7_noise : ByteArray := prog_9_method_29_code
def yX7_noise : MethodName := ⟨RX7, "noise", "(II)I"⟩
abbrev cX7_isShare : ByteArray := prog_9_method_30_code
def yX7_isShare : MethodName := ⟨RX7, "isShare", "(I)Z"⟩
abbrev cX7_terms : ByteArray := prog_9_method_31_code
def yX7_terms : MethodName := ⟨RX7, "terms", "(II)I"⟩
abbrev cX7_put : ByteArray := prog_9_method_32_code
def yX7_put : MethodName := ⟨RX7, "put", "(IIII)I"⟩
abbrev cX7_comes : ByteArray := prog_9_method_33_code
def yX7_comes : MethodName := ⟨RX7, "comes", "(IIII)V"⟩
abbrev cX7_sniff : ByteArray := prog_9_method_34_code
def yX7_sniff : MethodName := ⟨RX7, "sniff", "(IIII)I"⟩
abbrev cX7_weigh : ByteArray := prog_9_method_35_code
def yX7_weigh : MethodName := ⟨RX7, "weigh", "(III)I"⟩
abbrev cX7_cast : ByteArray := prog_9_method_36_code
def yX7_cast : MethodName := ⟨RX7, "cast", "(II)I"⟩
abbrev cX7_isEven : ByteArray := prog_9_method_37_code
def yX7_isEven : MethodName := ⟨RX7, "isEven", "(III)Z"⟩
abbrev cX7_reserve : ByteArray := prog_9_method_38_code
def yX7_reserve : MethodName := ⟨RX7, "reserve", "(IIIII)I"⟩
abbrev cX7_tellMap : ByteArray := prog_9_method_39_code
def yX7_tellMap : MethodName := ⟨RX7, "tellMap", "(III)I"⟩
abbrev cX7_map : ByteArray := prog_9_method_40_code
def yX7_map : MethodName := ⟨RX7, "map", "(III)I"⟩
abbrev cX7_badOf : ByteArray := prog_9_method_41_code
def yX7_badOf : MethodName := ⟨RX7, "badOf", "(II)I"⟩
abbrev cX7_aheadOf : ByteArray := prog_9_method_42_code
def yX7_aheadOf : MethodName := ⟨RX7, "aheadOf", "(II)I"⟩
abbrev cX7_adapt : ByteArray := prog_9_method_43_code
def yX7_adapt : MethodName := ⟨RX7, "adapt", "(III)I"⟩
abbrev cX7_draw : ByteArray := prog_9_method_44_code
def yX7_draw : MethodName := ⟨RX7, "draw", "()I"⟩
abbrev cX7_mapsBecome : ByteArray := prog_9_method_45_code
def yX7_mapsBecome : MethodName := ⟨RX7, "mapsBecome", "(IIII)V"⟩
abbrev cX7_framesCome : ByteArray := prog_9_method_46_code
def yX7_framesCome : MethodName := ⟨RX7, "framesCome", "(I)V"⟩
abbrev cX7_isReady : ByteArray := prog_9_method_47_code
def yX7_isReady : MethodName := ⟨RX7, "isReady", "(III)Z"⟩
abbrev cX7_isLinkHere : ByteArray := prog_9_method_48_code
def yX7_isLinkHere : MethodName := ⟨RX7, "isLinkHere", "(II)Z"⟩
abbrev cX7_choose : ByteArray := prog_9_method_49_code
def yX7_choose : MethodName := ⟨RX7, "choose", "(I)I"⟩
abbrev cX7_whyNot : ByteArray := prog_9_method_50_code
def yX7_whyNot : MethodName := ⟨RX7, "whyNot", "(II)I"⟩
abbrev cX7_hears : ByteArray := prog_9_method_51_code
def yX7_hears : MethodName := ⟨RX7, "hears", "(IIII)V"⟩
abbrev cX7_passes : ByteArray := prog_9_method_52_code
def yX7_passes : MethodName := ⟨RX7, "passes", "(III)V"⟩
abbrev cX7_goes : ByteArray := prog_9_method_53_code
def yX7_goes : MethodName := ⟨RX7, "goes", "(III)V"⟩
abbrev cX7_sendsDown : ByteArray := prog_9_method_54_code
def yX7_sendsDown : MethodName := ⟨RX7, "sendsDown", "()V"⟩
abbrev cX7_mapFor : ByteArray := prog_9_method_55_code
def yX7_mapFor : MethodName := ⟨RX7, "mapFor", "(I)I"⟩
abbrev cX7_casts : ByteArray := prog_9_method_56_code
def yX7_casts : MethodName := ⟨RX7, "casts", "(I)V"⟩
abbrev cX7_memberHears : ByteArray := prog_9_method_57_code
def yX7_memberHears : MethodName := ⟨RX7, "memberHears", "(II)V"⟩
abbrev cX7_sendsUp : ByteArray := prog_9_method_58_code
def yX7_sendsUp : MethodName := ⟨RX7, "sendsUp", "()V"⟩
abbrev cX7_masterHears : ByteArray := prog_9_method_59_code
def yX7_masterHears : MethodName := ⟨RX7, "masterHears", "(II)V"⟩
abbrev cX7_turn : ByteArray := prog_9_method_60_code
def yX7_turn : MethodName := ⟨RX7, "turn", "()V"⟩
abbrev cX7_turnsBy : ByteArray := prog_9_method_61_code
def yX7_turnsBy : MethodName := ⟨RX7, "turnsBy", "(I)V"⟩
abbrev cX7_run : ByteArray := prog_9_method_62_code
def yX7_run : MethodName := ⟨RX7, "run", "(I)I"⟩
abbrev cX7_alike : ByteArray := prog_9_method_63_code
def yX7_alike : MethodName := ⟨RX7, "alike", "(III)I"⟩
abbrev cX7_mapOf : ByteArray := prog_9_method_64_code
def yX7_mapOf : MethodName := ⟨RX7, "mapOf", "(III)I"⟩
abbrev cX7_meets : ByteArray := prog_9_method_65_code
def yX7_meets : MethodName := ⟨RX7, "meets", "()I"⟩
abbrev cX7_used : ByteArray := prog_9_method_66_code
def yX7_used : MethodName := ⟨RX7, "used", "(III)I"⟩
abbrev cX7_bad : ByteArray := prog_9_method_67_code
def yX7_bad : MethodName := ⟨RX7, "bad", "(II)I"⟩
abbrev cX7_sent : ByteArray := prog_9_method_68_code
def yX7_sent : MethodName := ⟨RX7, "sent", "(III)I"⟩
abbrev cX7_link : ByteArray := prog_9_method_69_code
def yX7_link : MethodName := ⟨RX7, "link", "(III)I"⟩
abbrev cX7_hash : ByteArray := prog_9_method_70_code
def yX7_hash : MethodName := ⟨RX7, "hash", "(III)I"⟩
abbrev cX7_reserved : ByteArray := prog_9_method_71_code
def yX7_reserved : MethodName := ⟨RX7, "reserved", "(III)I"⟩
abbrev cX7_isThere : ByteArray := prog_9_method_72_code
def yX7_isThere : MethodName := ⟨RX7, "isThere", "(III)I"⟩
abbrev cX7_common : ByteArray := prog_9_method_73_code
def yX7_common : MethodName := ⟨RX7, "common", "(II)I"⟩
abbrev cX7_chance : ByteArray := prog_9_method_74_code
def yX7_chance : MethodName := ⟨RX7, "chance", "(III)I"⟩
abbrev cX7_odds : ByteArray := prog_9_method_75_code
def yX7_odds : MethodName := ⟨RX7, "odds", "(IIII)I"⟩
abbrev cX7_clashesBy : ByteArray := prog_9_method_76_code
def yX7_clashesBy : MethodName := ⟨RX7, "clashesBy", "(I)I"⟩
abbrev cX7_areBoth : ByteArray := prog_9_method_77_code
def yX7_areBoth : MethodName := ⟨RX7, "areBoth", "(I)Z"⟩
abbrev cX7_clashes : ByteArray := prog_9_method_78_code
def yX7_clashes : MethodName := ⟨RX7, "clashes", "(I)I"⟩
abbrev cX7_bestOffset : ByteArray := prog_9_method_79_code
def yX7_bestOffset : MethodName := ⟨RX7, "bestOffset", "(I)I"⟩
abbrev cX7_ready : ByteArray := prog_9_method_80_code
def yX7_ready : MethodName := ⟨RX7, "ready", "(II)I"⟩
abbrev cX7_bothReady : ByteArray := prog_9_method_81_code
def yX7_bothReady : MethodName := ⟨RX7, "bothReady", "(IIII)I"⟩
abbrev cX7_ahead : ByteArray := prog_9_method_82_code
def yX7_ahead : MethodName := ⟨RX7, "ahead", "(II)I"⟩
abbrev cX7_comesAt : ByteArray := prog_9_method_83_code
def yX7_comesAt : MethodName := ⟨RX7, "comesAt", "(II)Z"⟩
abbrev cX7_together : ByteArray := prog_9_method_84_code
def yX7_together : MethodName := ⟨RX7, "together", "(III)I"⟩
abbrev cX7_isAhead : ByteArray := prog_9_method_85_code
def yX7_isAhead : MethodName := ⟨RX7, "isAhead", "(III)Z"⟩
abbrev cX7_ranked : ByteArray := prog_9_method_86_code
def yX7_ranked : MethodName := ⟨RX7, "ranked", "(II)I"⟩
abbrev cX7_quiet : ByteArray := prog_9_method_87_code
def yX7_quiet : MethodName := ⟨RX7, "quiet", "(II)I"⟩
abbrev cX7_isEmpty : ByteArray := prog_9_method_88_code
def yX7_isEmpty : MethodName := ⟨RX7, "isEmpty", "(II)Z"⟩
abbrev cX7_drain : ByteArray := prog_9_method_89_code
def yX7_drain : MethodName := ⟨RX7, "drain", "(II)I"⟩
abbrev cX7_otherMaps : ByteArray := prog_9_method_90_code
def yX7_otherMaps : MethodName := ⟨RX7, "otherMaps", "()I"⟩
abbrev cX7_canTurn : ByteArray := prog_9_method_91_code
def yX7_canTurn : MethodName := ⟨RX7, "canTurn", "(I)Z"⟩
abbrev cX7_tries : ByteArray := prog_9_method_92_code
def yX7_tries : MethodName := ⟨RX7, "tries", "(III)I"⟩
abbrev cX7_would : ByteArray := prog_9_method_93_code
def yX7_would : MethodName := ⟨RX7, "would", "(III)I"⟩
abbrev cX7_bestShare : ByteArray := prog_9_method_94_code
def yX7_bestShare : MethodName := ⟨RX7, "bestShare", "(I)I"⟩
abbrev cX7_ofNet : ByteArray := prog_9_method_95_code
def yX7_ofNet : MethodName := ⟨RX7, "ofNet", "(II)I"⟩
abbrev cX7_heardOfAll : ByteArray := prog_9_method_96_code
def yX7_heardOfAll : MethodName := ⟨RX7, "heardOfAll", "()I"⟩
abbrev cX7_count : ByteArray := prog_9_method_97_code
def yX7_count : MethodName := ⟨RX7, "count", "(I)I"⟩
abbrev cX7_status : ByteArray := prog_9_method_98_code
def yX7_status : MethodName := ⟨RX7, "status", "()I"⟩
def RJ6 : String := "java/lang/Integer"
def TJ6 : u_T := fun k => match k with
  | _ => ("", "", "", false)
def tyJ6 : Nat → FieldType := fun k => match k with
  | _ => .int
abbrev wsJ60 : List Cond := u_ws RJ6 TJ6 0
theorem nmJ6 : ∀ a, a < 0 → ∀ b, b < 0 → a ≠ b → (TJ6 a).2.1 ≠ (TJ6 b).2.1 := by decide +kernel
theorem tyJ6_ok : ∀ k, k < 0 → parseFieldDescriptor (TJ6 k).2.2.1 = some (tyJ6 k) := by decide +kernel
abbrev cJ6_bitCount_0f7a4 : ByteArray := prog_10_method_49_code
def yJ6_bitCount_0f7a4 : MethodName := ⟨RJ6, "bitCount", "(I)I"⟩
def RJ9 : String := "java/lang/Math"
def TJ9 : u_T := fun k => match k with
  | _ => ("", "", "", false)
def tyJ9 : Nat → FieldType := fun k => match k with
  | _ => .int
abbrev wsJ90 : List Cond := u_ws RJ9 TJ9 0
theorem nmJ9 : ∀ a, a < 0 → ∀ b, b < 0 → a ≠ b → (TJ9 a).2.1 ≠ (TJ9 b).2.1 := by decide +kernel
theorem tyJ9_ok : ∀ k, k < 0 → parseFieldDescriptor (TJ9 k).2.2.1 = some (tyJ9 k) := by decide +kernel
abbrev cJ9_max_7cf53 : ByteArray := prog_11_method_65_code
def yJ9_max_7cf53 : MethodName := ⟨RJ9, "max", "(II)I"⟩
abbrev cJ9_min_7cf53 : ByteArray := prog_11_method_69_code
def yJ9_min_7cf53 : MethodName := ⟨RJ9, "min", "(II)I"⟩
def RJ10 : String := "java/lang/System"
def TJ10 : u_T := fun k => match k with
  | _ => ("", "", "", false)
def tyJ10 : Nat → FieldType := fun k => match k with
  | _ => .int
abbrev wsJ100 : List Cond := u_ws RJ10 TJ10 0
theorem nmJ10 : ∀ a, a < 0 → ∀ b, b < 0 → a ≠ b → (TJ10 a).2.1 ≠ (TJ10 b).2.1 := by decide +kernel
theorem tyJ10_ok : ∀ k, k < 0 → parseFieldDescriptor (TJ10 k).2.2.1 = some (tyJ10 k) := by decide +kernel
def RL : String := "HopNetLaw"
abbrev cL_law : ByteArray := code
def yL_law : MethodName := ⟨RL, "law", "([I)Z"⟩
/-- the words that every method has -/
def gw_all : List Cond := lw_tbl.filter goodWord
theorem gw_sub {w : Cond} (h : w ∈ gw_all) : w ∈ lw_tbl := (List.mem_filter.mp h).1
theorem mem_pl {big : List Cond} (ws : List Cond) (ps : List Nat) (hp : ws = ps.filterMap (fun i => big[i]?)) : ∀ w ∈ ws, w ∈ big := by
  intro w hw
  rw [hp] at hw
  obtain ⟨i, -, hi⟩ := List.mem_filterMap.mp hw
  exact List.mem_of_getElem? hi
theorem in0 : ∀ w ∈ u_ws RX0 TX0 6, w ∈ gw_all := fun w hw => List.mem_filter.mpr ⟨mem_pl _ [180, 182, 184, 186, 188, 190] (by decide +kernel) w hw, (List.all_eq_true.mp (by decide +kernel : (u_ws RX0 TX0 6).all goodWord = true) w hw)⟩
theorem in1 : ∀ w ∈ u_ws RX1 TX1 18, w ∈ gw_all := fun w hw => List.mem_filter.mpr ⟨mem_pl _ [245, 247, 249, 251, 253, 255, 257, 259, 261, 263, 265, 267, 269, 271, 273, 275, 277, 279] (by decide +kernel) w hw, (List.all_eq_true.mp (by decide +kernel : (u_ws RX1 TX1 18).all goodWord = true) w hw)⟩
theorem in2 : ∀ w ∈ u_ws RX2 TX2 20, w ∈ gw_all := fun w hw => List.mem_filter.mpr ⟨mem_pl _ [330, 332, 334, 336, 338, 340, 342, 344, 346, 348, 350, 352, 354, 356, 358, 360, 362, 364, 366, 368] (by decide +kernel) w hw, (List.all_eq_true.mp (by decide +kernel : (u_ws RX2 TX2 20).all goodWord = true) w hw)⟩
theorem in3 : ∀ w ∈ u_ws RX3 TX3 3, w ∈ gw_all := fun w hw => List.mem_filter.mpr ⟨mem_pl _ [102, 104, 106] (by decide +kernel) w hw, (List.all_eq_true.mp (by decide +kernel : (u_ws RX3 TX3 3).all goodWord = true) w hw)⟩
theorem in4 : ∀ w ∈ u_ws RX4 TX4 8, w ∈ gw_all := fun w hw => List.mem_filter.mpr ⟨mem_pl _ [143, 145, 147, 149, 151, 153, 155, 157] (by decide +kernel) w hw, (List.all_eq_true.mp (by decide +kernel : (u_ws RX4 TX4 8).all goodWord = true) w hw)⟩
theorem in5 : ∀ w ∈ u_ws RX5 TX5 10, w ∈ gw_all := fun w hw => List.mem_filter.mpr ⟨mem_pl _ [390, 392, 394, 396, 398, 400, 402, 404, 406, 408] (by decide +kernel) w hw, (List.all_eq_true.mp (by decide +kernel : (u_ws RX5 TX5 10).all goodWord = true) w hw)⟩
theorem in6 : ∀ w ∈ u_ws RX6 TX6 12, w ∈ gw_all := fun w hw => List.mem_filter.mpr ⟨mem_pl _ [424, 426, 428, 430, 432, 434, 436, 438, 440, 442, 444, 446] (by decide +kernel) w hw, (List.all_eq_true.mp (by decide +kernel : (u_ws RX6 TX6 12).all goodWord = true) w hw)⟩
theorem in7 : ∀ w ∈ u_ws RX7 TX7 18, w ∈ gw_all := fun w hw => List.mem_filter.mpr ⟨mem_pl _ [1045, 1047, 1049, 1051, 1053, 1055, 1057, 1059, 1061, 1063, 1065, 1067, 1069, 1071, 1073, 1075, 1077, 1079] (by decide +kernel) w hw, (List.all_eq_true.mp (by decide +kernel : (u_ws RX7 TX7 18).all goodWord = true) w hw)⟩
end
section
theorem mt_1 {w : Cond} (h : w ∈ tables_1_1) : w ∈ lw_tbl := List.mem_append_right _ (List.mem_append_left _ h)
theorem mt_2 {w : Cond} (h : w ∈ tables_1_2) : w ∈ lw_tbl := List.mem_append_right _ (List.mem_append_right _ (List.mem_append_left _ h))
theorem mt_3 {w : Cond} (h : w ∈ tables_1_3) : w ∈ lw_tbl := List.mem_append_right _ (List.mem_append_right _ (List.mem_append_right _ (List.mem_append_left _ h)))
theorem mt_4 {w : Cond} (h : w ∈ tables_1_4) : w ∈ lw_tbl := List.mem_append_right _ (List.mem_append_right _ (List.mem_append_right _ (List.mem_append_right _ (List.mem_append_left _ h))))
theorem mt_5 {w : Cond} (h : w ∈ tables_1_5) : w ∈ lw_tbl := List.mem_append_right _ (List.mem_append_right _ (List.mem_append_right _ (List.mem_append_right _ (List.mem_append_right _ (List.mem_append_left _ h)))))
theorem mt_6 {w : Cond} (h : w ∈ tables_1_6) : w ∈ lw_tbl := List.mem_append_right _ (List.mem_append_right _ (List.mem_append_right _ (List.mem_append_right _ (List.mem_append_right _ (List.mem_append_right _ (h))))))
set_option maxRecDepth 100000 in
theorem mw_0 : Cond.selects RX6 yX6_refuse yX6_refuse ∈ gw_all := List.mem_filter.mpr ⟨List.mem_append_left _ (List.mem_of_getElem? (i := 0) rfl), rfl⟩
set_option maxRecDepth 100000 in
theorem mw_1 : Cond.selects RX6 yX6_keepForUndo yX6_keepForUndo ∈ gw_all := List.mem_filter.mpr ⟨List.mem_append_left _ (List.mem_of_getElem? (i := 1) rfl), rfl⟩
set_option maxRecDepth 100000 in
theorem mw_2 : Cond.selects RX6 yX6_accept yX6_accept ∈ gw_all := List.mem_filter.mpr ⟨List.mem_append_left _ (List.mem_of_getElem? (i := 2) rfl), rfl⟩
set_option maxRecDepth 100000 in
theorem mw_3 : Cond.selects RX6 yX6_tellMap yX6_tellMap ∈ gw_all := List.mem_filter.mpr ⟨List.mem_append_left _ (List.mem_of_getElem? (i := 3) rfl), rfl⟩
set_option maxRecDepth 100000 in
theorem mw_4 : Cond.selects RX6 yX6_hasTimeFor yX6_hasTimeFor ∈ gw_all := List.mem_filter.mpr ⟨List.mem_append_left _ (List.mem_of_getElem? (i := 4) rfl), rfl⟩
set_option maxRecDepth 100000 in
theorem mw_5 : Cond.selects RX6 yX6_planOf yX6_planOf ∈ gw_all := List.mem_filter.mpr ⟨List.mem_append_left _ (List.mem_of_getElem? (i := 5) rfl), rfl⟩
set_option maxRecDepth 100000 in
theorem mw_6 : Cond.selects RX6 yX6_noteHops yX6_noteHops ∈ gw_all := List.mem_filter.mpr ⟨List.mem_append_left _ (List.mem_of_getElem? (i := 6) rfl), rfl⟩
set_option maxRecDepth 100000 in
theorem mw_7 : Cond.selects RX6 yX6_clashesAt yX6_clashesAt ∈ gw_all := List.mem_filter.mpr ⟨List.mem_append_left _ (List.mem_of_getElem? (i := 7) rfl), rfl⟩
set_option maxRecDepth 100000 in
theorem mw_8 : Cond.selects RX6 yX6_paperWith yX6_paperWith ∈ gw_all := List.mem_filter.mpr ⟨List.mem_append_left _ (List.mem_of_getElem? (i := 8) rfl), rfl⟩
set_option maxRecDepth 100000 in
theorem mw_9 : Cond.selects RX7 yX7_refuse yX7_refuse ∈ gw_all := List.mem_filter.mpr ⟨List.mem_append_left _ (List.mem_of_getElem? (i := 9) rfl), rfl⟩
set_option maxRecDepth 100000 in
theorem mw_10 : Cond.selects RX7 yX7_tell yX7_tell ∈ gw_all := List.mem_filter.mpr ⟨List.mem_append_left _ (List.mem_of_getElem? (i := 10) rfl), rfl⟩
set_option maxRecDepth 100000 in
theorem mw_11 : Cond.selects RX7 yX7_isNet yX7_isNet ∈ gw_all := List.mem_filter.mpr ⟨List.mem_append_left _ (List.mem_of_getElem? (i := 11) rfl), rfl⟩
set_option maxRecDepth 100000 in
theorem mw_12 : Cond.selects RX7 yX7_isLink yX7_isLink ∈ gw_all := List.mem_filter.mpr ⟨List.mem_append_left _ (List.mem_of_getElem? (i := 12) rfl), rfl⟩
set_option maxRecDepth 100000 in
theorem mw_13 : Cond.selects RX7 yX7_mapHeld yX7_mapHeld ∈ gw_all := List.mem_filter.mpr ⟨List.mem_append_left _ (List.mem_of_getElem? (i := 13) rfl), rfl⟩
set_option maxRecDepth 100000 in
theorem mw_14 : Cond.selects RX7 yX7_hopOf yX7_hopOf ∈ gw_all := List.mem_filter.mpr ⟨List.mem_append_left _ (List.mem_of_getElem? (i := 14) rfl), rfl⟩
set_option maxRecDepth 100000 in
theorem mw_15 : Cond.selects RX7 yX7_remember yX7_remember ∈ gw_all := List.mem_filter.mpr ⟨List.mem_append_left _ (List.mem_of_getElem? (i := 15) rfl), rfl⟩
set_option maxRecDepth 100000 in
theorem mw_16 : Cond.selects RX7 yX7_isRadio yX7_isRadio ∈ gw_all := List.mem_filter.mpr ⟨List.mem_append_left _ (List.mem_of_getElem? (i := 16) rfl), rfl⟩
set_option maxRecDepth 100000 in
theorem mw_17 : Cond.selects RX7 yX7_isIn yX7_isIn ∈ gw_all := List.mem_filter.mpr ⟨List.mem_append_left _ (List.mem_of_getElem? (i := 17) rfl), rfl⟩
set_option maxRecDepth 100000 in
theorem mw_18 : Cond.selects RX7 yX7_comes yX7_comes ∈ gw_all := List.mem_filter.mpr ⟨List.mem_append_left _ (List.mem_of_getElem? (i := 18) rfl), rfl⟩
set_option maxRecDepth 100000 in
theorem mw_19 : Cond.selects RX7 yX7_tellMap yX7_tellMap ∈ gw_all := List.mem_filter.mpr ⟨List.mem_append_left _ (List.mem_of_getElem? (i := 19) rfl), rfl⟩
set_option maxRecDepth 100000 in
theorem mw_20 : Cond.selects RX7 yX7_badOf yX7_badOf ∈ gw_all := List.mem_filter.mpr ⟨List.mem_append_left _ (List.mem_of_getElem? (i := 20) rfl), rfl⟩
set_option maxRecDepth 100000 in
theorem mw_21 : Cond.selects RX7 yX7_aheadOf yX7_aheadOf ∈ gw_all := List.mem_filter.mpr ⟨List.mem_append_left _ (List.mem_of_getElem? (i := 21) rfl), rfl⟩
set_option maxRecDepth 100000 in
theorem mw_22 : Cond.selects RX7 yX7_turnsBy yX7_turnsBy ∈ gw_all := List.mem_filter.mpr ⟨List.mem_append_left _ (List.mem_of_getElem? (i := 22) rfl), rfl⟩
set_option maxRecDepth 100000 in
theorem mw_23 : Cond.selects RX7 yX7_turn yX7_turn ∈ gw_all := List.mem_filter.mpr ⟨List.mem_append_left _ (List.mem_of_getElem? (i := 23) rfl), rfl⟩
set_option maxRecDepth 100000 in
theorem mw_24 : Cond.selects RX7 yX7_mapsBecome yX7_mapsBecome ∈ gw_all := List.mem_filter.mpr ⟨List.mem_append_left _ (List.mem_of_getElem? (i := 24) rfl), rfl⟩
set_option maxRecDepth 100000 in
theorem mw_25 : Cond.selects RX7 yX7_framesCome yX7_framesCome ∈ gw_all := List.mem_filter.mpr ⟨List.mem_append_left _ (List.mem_of_getElem? (i := 25) rfl), rfl⟩
set_option maxRecDepth 100000 in
theorem mw_26 : Cond.selects RX7 yX7_isLinkHere yX7_isLinkHere ∈ gw_all := List.mem_filter.mpr ⟨List.mem_append_left _ (List.mem_of_getElem? (i := 26) rfl), rfl⟩
set_option maxRecDepth 100000 in
theorem mw_27 : Cond.selects RX7 yX7_isReady yX7_isReady ∈ gw_all := List.mem_filter.mpr ⟨List.mem_append_left _ (List.mem_of_getElem? (i := 27) rfl), rfl⟩
set_option maxRecDepth 100000 in
theorem mw_28 : Cond.selects RX7 yX7_isHere yX7_isHere ∈ gw_all := List.mem_filter.mpr ⟨List.mem_append_left _ (List.mem_of_getElem? (i := 28) rfl), rfl⟩
set_option maxRecDepth 100000 in
theorem mw_29 : Cond.selects RX7 yX7_choose yX7_choose ∈ gw_all := List.mem_filter.mpr ⟨List.mem_append_left _ (List.mem_of_getElem? (i := 29) rfl), rfl⟩
set_option maxRecDepth 100000 in
theorem mw_30 : Cond.selects RX7 yX7_sendsDown yX7_sendsDown ∈ gw_all := List.mem_filter.mpr ⟨List.mem_append_left _ (List.mem_of_getElem? (i := 30) rfl), rfl⟩
set_option maxRecDepth 100000 in
theorem mw_31 : Cond.selects RX7 yX7_mapFor yX7_mapFor ∈ gw_all := List.mem_filter.mpr ⟨List.mem_append_left _ (List.mem_of_getElem? (i := 31) rfl), rfl⟩
set_option maxRecDepth 100000 in
theorem mw_32 : Cond.selects RX7 yX7_casts yX7_casts ∈ gw_all := List.mem_filter.mpr ⟨List.mem_append_left _ (List.mem_of_getElem? (i := 32) rfl), rfl⟩
set_option maxRecDepth 100000 in
theorem mw_33 : Cond.selects RX7 yX7_whyNot yX7_whyNot ∈ gw_all := List.mem_filter.mpr ⟨List.mem_append_left _ (List.mem_of_getElem? (i := 33) rfl), rfl⟩
set_option maxRecDepth 100000 in
theorem mw_34 : Cond.selects RX7 yX7_draw yX7_draw ∈ gw_all := List.mem_filter.mpr ⟨List.mem_append_left _ (List.mem_of_getElem? (i := 34) rfl), rfl⟩
set_option maxRecDepth 100000 in
theorem mw_35 : Cond.selects RX7 yX7_memberHears yX7_memberHears ∈ gw_all := List.mem_filter.mpr ⟨List.mem_append_left _ (List.mem_of_getElem? (i := 35) rfl), rfl⟩
set_option maxRecDepth 100000 in
theorem mw_36 : Cond.selects RX7 yX7_hears yX7_hears ∈ gw_all := List.mem_filter.mpr ⟨List.mem_append_left _ (List.mem_of_getElem? (i := 36) rfl), rfl⟩
set_option maxRecDepth 100000 in
theorem mw_37 : Cond.selects RX7 yX7_passes yX7_passes ∈ gw_all := List.mem_filter.mpr ⟨List.mem_append_left _ (List.mem_of_getElem? (i := 37) rfl), rfl⟩
set_option maxRecDepth 100000 in
theorem mw_38 : Cond.selects RX7 yX7_goes yX7_goes ∈ gw_all := List.mem_filter.mpr ⟨List.mem_append_left _ (List.mem_of_getElem? (i := 38) rfl), rfl⟩
set_option maxRecDepth 100000 in
theorem mw_39 : Cond.selects RX7 yX7_sendsUp yX7_sendsUp ∈ gw_all := List.mem_filter.mpr ⟨List.mem_append_left _ (List.mem_of_getElem? (i := 39) rfl), rfl⟩
set_option maxRecDepth 100000 in
theorem mw_40 : Cond.selects RX7 yX7_masterHears yX7_masterHears ∈ gw_all := List.mem_filter.mpr ⟨List.mem_append_left _ (List.mem_of_getElem? (i := 40) rfl), rfl⟩
set_option maxRecDepth 100000 in
theorem mw_41 : Cond.selects RX7 yX7_chance yX7_chance ∈ gw_all := List.mem_filter.mpr ⟨List.mem_append_left _ (List.mem_of_getElem? (i := 41) rfl), rfl⟩
set_option maxRecDepth 100000 in
theorem mw_42 : Cond.selects RX7 yX7_areBoth yX7_areBoth ∈ gw_all := List.mem_filter.mpr ⟨List.mem_append_left _ (List.mem_of_getElem? (i := 42) rfl), rfl⟩
set_option maxRecDepth 100000 in
theorem mw_43 : Cond.selects RX7 yX7_clashesBy yX7_clashesBy ∈ gw_all := List.mem_filter.mpr ⟨List.mem_append_left _ (List.mem_of_getElem? (i := 43) rfl), rfl⟩
set_option maxRecDepth 100000 in
theorem mw_44 : Cond.selects RX7 yX7_canTurn yX7_canTurn ∈ gw_all := List.mem_filter.mpr ⟨List.mem_append_left _ (List.mem_of_getElem? (i := 44) rfl), rfl⟩
set_option maxRecDepth 100000 in
theorem mw_45 : Cond.selects RX7 yX7_comesAt yX7_comesAt ∈ gw_all := List.mem_filter.mpr ⟨List.mem_append_left _ (List.mem_of_getElem? (i := 45) rfl), rfl⟩
set_option maxRecDepth 100000 in
theorem mw_46 : Cond.selects RX7 yX7_isAhead yX7_isAhead ∈ gw_all := List.mem_filter.mpr ⟨List.mem_append_left _ (List.mem_of_getElem? (i := 46) rfl), rfl⟩
set_option maxRecDepth 100000 in
theorem mw_47 : Cond.selects RX7 yX7_isEmpty yX7_isEmpty ∈ gw_all := List.mem_filter.mpr ⟨List.mem_append_left _ (List.mem_of_getElem? (i := 47) rfl), rfl⟩
set_option maxRecDepth 100000 in
theorem mw_48 : Cond.selects RX7 yX7_tries yX7_tries ∈ gw_all := List.mem_filter.mpr ⟨List.mem_append_left _ (List.mem_of_getElem? (i := 48) rfl), rfl⟩
set_option maxRecDepth 100000 in
theorem mw_49 : Cond.selects RX7 yX7_otherMaps yX7_otherMaps ∈ gw_all := List.mem_filter.mpr ⟨List.mem_append_left _ (List.mem_of_getElem? (i := 49) rfl), rfl⟩
set_option maxRecDepth 100000 in
theorem mw_50 : Cond.selects RX7 yX7_heardOfAll yX7_heardOfAll ∈ gw_all := List.mem_filter.mpr ⟨List.mem_append_left _ (List.mem_of_getElem? (i := 50) rfl), rfl⟩
set_option maxRecDepth 100000 in
theorem mw_51 : Cond.initialized RL ∈ gw_all := List.mem_filter.mpr ⟨mt_1 (List.mem_of_getElem? (i := 0) rfl), rfl⟩
set_option maxRecDepth 100000 in
theorem mw_52 : Cond.initialized RX6 ∈ gw_all := List.mem_filter.mpr ⟨mt_1 (List.mem_of_getElem? (i := 1) rfl), rfl⟩
set_option maxRecDepth 100000 in
theorem mw_53 : Cond.initialized RX5 ∈ gw_all := List.mem_filter.mpr ⟨mt_1 (List.mem_of_getElem? (i := 2) rfl), rfl⟩
set_option maxRecDepth 100000 in
theorem mw_54 : Cond.initialized RX2 ∈ gw_all := List.mem_filter.mpr ⟨mt_1 (List.mem_of_getElem? (i := 3) rfl), rfl⟩
set_option maxRecDepth 100000 in
theorem mw_55 : Cond.initialized RX3 ∈ gw_all := List.mem_filter.mpr ⟨mt_1 (List.mem_of_getElem? (i := 4) rfl), rfl⟩
set_option maxRecDepth 100000 in
theorem mw_56 : Cond.initialized RX1 ∈ gw_all := List.mem_filter.mpr ⟨mt_1 (List.mem_of_getElem? (i := 5) rfl), rfl⟩
set_option maxRecDepth 100000 in
theorem mw_57 : Cond.initialized RX4 ∈ gw_all := List.mem_filter.mpr ⟨mt_1 (List.mem_of_getElem? (i := 6) rfl), rfl⟩
set_option maxRecDepth 100000 in
theorem mw_58 : Cond.initialized RX0 ∈ gw_all := List.mem_filter.mpr ⟨mt_1 (List.mem_of_getElem? (i := 7) rfl), rfl⟩
set_option maxRecDepth 100000 in
theorem mw_59 : Cond.initialized RX7 ∈ gw_all := List.mem_filter.mpr ⟨mt_1 (List.mem_of_getElem? (i := 8) rfl), rfl⟩
set_option maxRecDepth 100000 in
theorem mw_60 : Cond.initialized RJ10 ∈ gw_all := List.mem_filter.mpr ⟨mt_1 (List.mem_of_getElem? (i := 9) rfl), rfl⟩
set_option maxRecDepth 100000 in
theorem mw_61 : Cond.initialized RJ9 ∈ gw_all := List.mem_filter.mpr ⟨mt_1 (List.mem_of_getElem? (i := 10) rfl), rfl⟩
set_option maxRecDepth 100000 in
theorem mw_62 : Cond.initialized RJ6 ∈ gw_all := List.mem_filter.mpr ⟨mt_1 (List.mem_of_getElem? (i := 11) rfl), rfl⟩
set_option maxRecDepth 100000 in
theorem mw_63 : Cond.classLink RL 7 RX6 ∈ gw_all := List.mem_filter.mpr ⟨mt_1 (List.mem_of_getElem? (i := 12) rfl), rfl⟩
set_option maxRecDepth 100000 in
theorem mw_64 : Cond.instantiable RX6 12 ∈ gw_all := List.mem_filter.mpr ⟨mt_1 (List.mem_of_getElem? (i := 13) rfl), rfl⟩
set_option maxRecDepth 100000 in
theorem mw_65 : Cond.methodLink RL 9 yX6_init ∈ gw_all := List.mem_filter.mpr ⟨mt_1 (List.mem_of_getElem? (i := 14) rfl), rfl⟩
set_option maxRecDepth 100000 in
theorem mw_66 : Cond.instanceMethod yX6_init ∈ gw_all := List.mem_filter.mpr ⟨mt_1 (List.mem_of_getElem? (i := 15) rfl), rfl⟩
set_option maxRecDepth 100000 in
theorem mw_67 : Cond.code yX6_init cX6_init 2 none ∈ gw_all := List.mem_filter.mpr ⟨mt_1 (List.mem_of_getElem? (i := 16) rfl), rfl⟩
set_option maxRecDepth 100000 in
theorem mw_68 : Cond.methodLink RX6 3 objectInit ∈ gw_all := List.mem_filter.mpr ⟨mt_1 (List.mem_of_getElem? (i := 17) rfl), rfl⟩
set_option maxRecDepth 100000 in
theorem mw_69 : Cond.instanceMethod objectInit ∈ gw_all := List.mem_filter.mpr ⟨mt_1 (List.mem_of_getElem? (i := 18) rfl), rfl⟩
set_option maxRecDepth 100000 in
theorem mw_70 : Cond.code objectInit object_method_1_code 1 none ∈ gw_all := List.mem_filter.mpr ⟨mt_1 (List.mem_of_getElem? (i := 19) rfl), rfl⟩
set_option maxRecDepth 100000 in
theorem mw_71 : Cond.classLink RX6 9 RX5 ∈ gw_all := List.mem_filter.mpr ⟨mt_1 (List.mem_of_getElem? (i := 20) rfl), rfl⟩
set_option maxRecDepth 100000 in
theorem mw_72 : Cond.instantiable RX5 10 ∈ gw_all := List.mem_filter.mpr ⟨mt_1 (List.mem_of_getElem? (i := 21) rfl), rfl⟩
set_option maxRecDepth 100000 in
theorem mw_73 : Cond.methodLink RX6 11 yX5_init ∈ gw_all := List.mem_filter.mpr ⟨mt_1 (List.mem_of_getElem? (i := 22) rfl), rfl⟩
set_option maxRecDepth 100000 in
theorem mw_74 : Cond.instanceMethod yX5_init ∈ gw_all := List.mem_filter.mpr ⟨mt_1 (List.mem_of_getElem? (i := 23) rfl), rfl⟩
set_option maxRecDepth 100000 in
theorem mw_75 : Cond.code yX5_init cX5_init 2 none ∈ gw_all := List.mem_filter.mpr ⟨mt_1 (List.mem_of_getElem? (i := 24) rfl), rfl⟩
set_option maxRecDepth 100000 in
theorem mw_76 : Cond.methodLink RX5 3 objectInit ∈ gw_all := List.mem_filter.mpr ⟨mt_1 (List.mem_of_getElem? (i := 25) rfl), rfl⟩
set_option maxRecDepth 100000 in
theorem mw_77 : Cond.classLink RX5 21 RX2 ∈ gw_all := List.mem_filter.mpr ⟨mt_1 (List.mem_of_getElem? (i := 26) rfl), rfl⟩
set_option maxRecDepth 100000 in
theorem nw_78 : Cond.arrayOver (FieldType.object RX2) ∈ lw_tbl := mt_1 (List.mem_of_getElem? (i := 27) rfl)
set_option maxRecDepth 100000 in
theorem mw_79 : Cond.instantiable RX2 20 ∈ gw_all := List.mem_filter.mpr ⟨mt_1 (List.mem_of_getElem? (i := 28) rfl), rfl⟩
set_option maxRecDepth 100000 in
theorem mw_80 : Cond.methodLink RX5 46 yX2_init ∈ gw_all := List.mem_filter.mpr ⟨mt_1 (List.mem_of_getElem? (i := 29) rfl), rfl⟩
set_option maxRecDepth 100000 in
theorem mw_81 : Cond.instanceMethod yX2_init ∈ gw_all := List.mem_filter.mpr ⟨mt_1 (List.mem_of_getElem? (i := 30) rfl), rfl⟩
set_option maxRecDepth 100000 in
theorem mw_82 : Cond.code yX2_init cX2_init 2 none ∈ gw_all := List.mem_filter.mpr ⟨mt_1 (List.mem_of_getElem? (i := 31) rfl), rfl⟩
set_option maxRecDepth 100000 in
theorem mw_83 : Cond.methodLink RX2 3 objectInit ∈ gw_all := List.mem_filter.mpr ⟨mt_1 (List.mem_of_getElem? (i := 32) rfl), rfl⟩
set_option maxRecDepth 100000 in
theorem mw_84 : Cond.classLink RX2 9 RX3 ∈ gw_all := List.mem_filter.mpr ⟨mt_1 (List.mem_of_getElem? (i := 33) rfl), rfl⟩
set_option maxRecDepth 100000 in
theorem mw_85 : Cond.instantiable RX3 3 ∈ gw_all := List.mem_filter.mpr ⟨mt_1 (List.mem_of_getElem? (i := 34) rfl), rfl⟩
set_option maxRecDepth 100000 in
theorem nw_86 : Cond.methodLinkNest RX2 11 yX3_init RX6 ∈ lw_tbl := mt_1 (List.mem_of_getElem? (i := 35) rfl)
set_option maxRecDepth 100000 in
theorem mw_87 : Cond.instanceMethod yX3_init ∈ gw_all := List.mem_filter.mpr ⟨mt_1 (List.mem_of_getElem? (i := 36) rfl), rfl⟩
set_option maxRecDepth 100000 in
theorem mw_88 : Cond.code yX3_init cX3_init 1 none ∈ gw_all := List.mem_filter.mpr ⟨mt_1 (List.mem_of_getElem? (i := 37) rfl), rfl⟩
set_option maxRecDepth 100000 in
theorem mw_89 : Cond.methodLink RX3 3 objectInit ∈ gw_all := List.mem_filter.mpr ⟨mt_1 (List.mem_of_getElem? (i := 38) rfl), rfl⟩
set_option maxRecDepth 100000 in
theorem mw_90 : Cond.constant RX3 9 8388607 ∈ gw_all := List.mem_filter.mpr ⟨mt_1 (List.mem_of_getElem? (i := 39) rfl), rfl⟩
set_option maxRecDepth 100000 in
theorem mw_91 : Cond.fieldLink RX3 10 RX3 "map" "I" ∈ gw_all := List.mem_filter.mpr ⟨mt_1 (List.mem_of_getElem? (i := 40) rfl), rfl⟩
set_option maxRecDepth 100000 in
theorem mw_92 : Cond.fieldLink RX1 108 RX3 "map" "I" ∈ gw_all := List.mem_filter.mpr ⟨mt_1 (List.mem_of_getElem? (i := 41) rfl), rfl⟩
set_option maxRecDepth 100000 in
theorem mw_93 : Cond.fieldLink RX2 114 RX3 "map" "I" ∈ gw_all := List.mem_filter.mpr ⟨mt_1 (List.mem_of_getElem? (i := 42) rfl), rfl⟩
set_option maxRecDepth 100000 in
theorem mw_94 : Cond.fieldLink RX5 108 RX3 "map" "I" ∈ gw_all := List.mem_filter.mpr ⟨mt_1 (List.mem_of_getElem? (i := 43) rfl), rfl⟩
set_option maxRecDepth 100000 in
theorem mw_95 : Cond.fieldLink RX6 206 RX3 "map" "I" ∈ gw_all := List.mem_filter.mpr ⟨mt_1 (List.mem_of_getElem? (i := 44) rfl), rfl⟩
set_option maxRecDepth 100000 in
theorem mw_96 : Cond.fieldLink RX3 16 RX3 "next" "I" ∈ gw_all := List.mem_filter.mpr ⟨mt_1 (List.mem_of_getElem? (i := 45) rfl), rfl⟩
set_option maxRecDepth 100000 in
theorem mw_97 : Cond.fieldLink RX1 98 RX3 "next" "I" ∈ gw_all := List.mem_filter.mpr ⟨mt_1 (List.mem_of_getElem? (i := 46) rfl), rfl⟩
set_option maxRecDepth 100000 in
theorem mw_98 : Cond.fieldLink RX6 250 RX3 "next" "I" ∈ gw_all := List.mem_filter.mpr ⟨mt_1 (List.mem_of_getElem? (i := 47) rfl), rfl⟩
set_option maxRecDepth 100000 in
theorem mw_99 : Cond.fieldLink RX3 19 RX3 "instant" "I" ∈ gw_all := List.mem_filter.mpr ⟨mt_1 (List.mem_of_getElem? (i := 48) rfl), rfl⟩
set_option maxRecDepth 100000 in
theorem mw_100 : Cond.fieldLink RX1 101 RX3 "instant" "I" ∈ gw_all := List.mem_filter.mpr ⟨mt_1 (List.mem_of_getElem? (i := 49) rfl), rfl⟩
set_option maxRecDepth 100000 in
theorem mw_101 : Cond.fieldLink RX6 253 RX3 "instant" "I" ∈ gw_all := List.mem_filter.mpr ⟨mt_1 (List.mem_of_getElem? (i := 50) rfl), rfl⟩
set_option maxRecDepth 100000 in
theorem mw_102 : Cond.lays RX3 RX3 "map" "I" ∈ gw_all := List.mem_filter.mpr ⟨mt_1 (List.mem_of_getElem? (i := 51) rfl), rfl⟩
set_option maxRecDepth 100000 in
theorem mw_104 : Cond.lays RX3 RX3 "next" "I" ∈ gw_all := List.mem_filter.mpr ⟨mt_1 (List.mem_of_getElem? (i := 53) rfl), rfl⟩
set_option maxRecDepth 100000 in
theorem mw_106 : Cond.lays RX3 RX3 "instant" "I" ∈ gw_all := List.mem_filter.mpr ⟨mt_1 (List.mem_of_getElem? (i := 55) rfl), rfl⟩
set_option maxRecDepth 100000 in
theorem mw_109 : Cond.arrayClass FieldType.int ∈ gw_all := List.mem_filter.mpr ⟨mt_1 (List.mem_of_getElem? (i := 58) rfl), rfl⟩
set_option maxRecDepth 100000 in
theorem mw_110 : Cond.classLink RX2 28 RX1 ∈ gw_all := List.mem_filter.mpr ⟨mt_1 (List.mem_of_getElem? (i := 59) rfl), rfl⟩
set_option maxRecDepth 100000 in
theorem nw_111 : Cond.arrayOver (FieldType.object RX1) ∈ lw_tbl := mt_1 (List.mem_of_getElem? (i := 60) rfl)
set_option maxRecDepth 100000 in
theorem mw_112 : Cond.constant RX2 41 8388607 ∈ gw_all := List.mem_filter.mpr ⟨mt_1 (List.mem_of_getElem? (i := 61) rfl), rfl⟩
set_option maxRecDepth 100000 in
theorem mw_113 : Cond.instantiable RX1 18 ∈ gw_all := List.mem_filter.mpr ⟨mt_1 (List.mem_of_getElem? (i := 62) rfl), rfl⟩
set_option maxRecDepth 100000 in
theorem nw_114 : Cond.methodLinkNest RX2 82 yX1_init RX6 ∈ lw_tbl := mt_1 (List.mem_of_getElem? (i := 63) rfl)
set_option maxRecDepth 100000 in
theorem mw_115 : Cond.instanceMethod yX1_init ∈ gw_all := List.mem_filter.mpr ⟨mt_1 (List.mem_of_getElem? (i := 64) rfl), rfl⟩
set_option maxRecDepth 100000 in
theorem mw_116 : Cond.code yX1_init cX1_init 1 none ∈ gw_all := List.mem_filter.mpr ⟨mt_1 (List.mem_of_getElem? (i := 65) rfl), rfl⟩
set_option maxRecDepth 100000 in
theorem mw_117 : Cond.methodLink RX1 1 objectInit ∈ gw_all := List.mem_filter.mpr ⟨mt_1 (List.mem_of_getElem? (i := 66) rfl), rfl⟩
set_option maxRecDepth 100000 in
theorem mw_118 : Cond.classLink RX1 7 RX3 ∈ gw_all := List.mem_filter.mpr ⟨mt_1 (List.mem_of_getElem? (i := 67) rfl), rfl⟩
set_option maxRecDepth 100000 in
theorem nw_119 : Cond.methodLinkNest RX1 9 yX3_init RX6 ∈ lw_tbl := mt_1 (List.mem_of_getElem? (i := 68) rfl)
set_option maxRecDepth 100000 in
theorem mw_120 : Cond.classLink RX1 16 RX4 ∈ gw_all := List.mem_filter.mpr ⟨mt_1 (List.mem_of_getElem? (i := 69) rfl), rfl⟩
set_option maxRecDepth 100000 in
theorem mw_121 : Cond.instantiable RX4 8 ∈ gw_all := List.mem_filter.mpr ⟨mt_1 (List.mem_of_getElem? (i := 70) rfl), rfl⟩
set_option maxRecDepth 100000 in
theorem nw_122 : Cond.methodLinkNest RX1 18 yX4_init RX6 ∈ lw_tbl := mt_1 (List.mem_of_getElem? (i := 71) rfl)
set_option maxRecDepth 100000 in
theorem mw_123 : Cond.instanceMethod yX4_init ∈ gw_all := List.mem_filter.mpr ⟨mt_1 (List.mem_of_getElem? (i := 72) rfl), rfl⟩
set_option maxRecDepth 100000 in
theorem mw_124 : Cond.code yX4_init cX4_init 1 none ∈ gw_all := List.mem_filter.mpr ⟨mt_1 (List.mem_of_getElem? (i := 73) rfl), rfl⟩
set_option maxRecDepth 100000 in
theorem mw_125 : Cond.methodLink RX4 3 objectInit ∈ gw_all := List.mem_filter.mpr ⟨mt_1 (List.mem_of_getElem? (i := 74) rfl), rfl⟩
set_option maxRecDepth 100000 in
theorem mw_126 : Cond.fieldLink RX4 9 RX4 "numbers" "[I" ∈ gw_all := List.mem_filter.mpr ⟨mt_1 (List.mem_of_getElem? (i := 75) rfl), rfl⟩
set_option maxRecDepth 100000 in
theorem mw_127 : Cond.fieldLink RX5 277 RX4 "numbers" "[I" ∈ gw_all := List.mem_filter.mpr ⟨mt_1 (List.mem_of_getElem? (i := 76) rfl), rfl⟩
set_option maxRecDepth 100000 in
theorem mw_128 : Cond.fieldLink RX4 15 RX4 "since" "[I" ∈ gw_all := List.mem_filter.mpr ⟨mt_1 (List.mem_of_getElem? (i := 77) rfl), rfl⟩
set_option maxRecDepth 100000 in
theorem mw_129 : Cond.fieldLink RX4 18 RX4 "size" "I" ∈ gw_all := List.mem_filter.mpr ⟨mt_1 (List.mem_of_getElem? (i := 78) rfl), rfl⟩
set_option maxRecDepth 100000 in
theorem mw_130 : Cond.fieldLink RX6 153 RX4 "size" "I" ∈ gw_all := List.mem_filter.mpr ⟨mt_1 (List.mem_of_getElem? (i := 79) rfl), rfl⟩
set_option maxRecDepth 100000 in
theorem mw_131 : Cond.fieldLink RX5 300 RX4 "size" "I" ∈ gw_all := List.mem_filter.mpr ⟨mt_1 (List.mem_of_getElem? (i := 80) rfl), rfl⟩
set_option maxRecDepth 100000 in
theorem mw_132 : Cond.fieldLink RX4 22 RX4 "sendBit" "I" ∈ gw_all := List.mem_filter.mpr ⟨mt_1 (List.mem_of_getElem? (i := 81) rfl), rfl⟩
set_option maxRecDepth 100000 in
theorem mw_133 : Cond.fieldLink RX6 280 RX4 "sendBit" "I" ∈ gw_all := List.mem_filter.mpr ⟨mt_1 (List.mem_of_getElem? (i := 82) rfl), rfl⟩
set_option maxRecDepth 100000 in
theorem mw_134 : Cond.fieldLink RX4 25 RX4 "heardBit" "I" ∈ gw_all := List.mem_filter.mpr ⟨mt_1 (List.mem_of_getElem? (i := 83) rfl), rfl⟩
set_option maxRecDepth 100000 in
theorem mw_135 : Cond.fieldLink RX6 283 RX4 "heardBit" "I" ∈ gw_all := List.mem_filter.mpr ⟨mt_1 (List.mem_of_getElem? (i := 84) rfl), rfl⟩
set_option maxRecDepth 100000 in
theorem mw_136 : Cond.fieldLink RX4 28 RX4 "heard" "I" ∈ gw_all := List.mem_filter.mpr ⟨mt_1 (List.mem_of_getElem? (i := 85) rfl), rfl⟩
set_option maxRecDepth 100000 in
theorem mw_137 : Cond.fieldLink RX5 141 RX4 "heard" "I" ∈ gw_all := List.mem_filter.mpr ⟨mt_1 (List.mem_of_getElem? (i := 86) rfl), rfl⟩
set_option maxRecDepth 100000 in
theorem mw_138 : Cond.fieldLink RX6 274 RX4 "heard" "I" ∈ gw_all := List.mem_filter.mpr ⟨mt_1 (List.mem_of_getElem? (i := 87) rfl), rfl⟩
set_option maxRecDepth 100000 in
theorem mw_139 : Cond.fieldLink RX4 31 RX4 "hash" "I" ∈ gw_all := List.mem_filter.mpr ⟨mt_1 (List.mem_of_getElem? (i := 88) rfl), rfl⟩
set_option maxRecDepth 100000 in
theorem mw_140 : Cond.fieldLink RX6 301 RX4 "hash" "I" ∈ gw_all := List.mem_filter.mpr ⟨mt_1 (List.mem_of_getElem? (i := 89) rfl), rfl⟩
set_option maxRecDepth 100000 in
theorem mw_141 : Cond.fieldLink RX4 34 RX4 "greatestLag" "I" ∈ gw_all := List.mem_filter.mpr ⟨mt_1 (List.mem_of_getElem? (i := 90) rfl), rfl⟩
set_option maxRecDepth 100000 in
theorem mw_142 : Cond.fieldLink RX6 298 RX4 "greatestLag" "I" ∈ gw_all := List.mem_filter.mpr ⟨mt_1 (List.mem_of_getElem? (i := 91) rfl), rfl⟩
set_option maxRecDepth 100000 in
theorem mw_143 : Cond.laysFinal RX4 RX4 "numbers" "[I" ∈ gw_all := List.mem_filter.mpr ⟨mt_1 (List.mem_of_getElem? (i := 92) rfl), rfl⟩
set_option maxRecDepth 100000 in
theorem mw_145 : Cond.laysFinal RX4 RX4 "since" "[I" ∈ gw_all := List.mem_filter.mpr ⟨mt_1 (List.mem_of_getElem? (i := 94) rfl), rfl⟩
set_option maxRecDepth 100000 in
theorem mw_147 : Cond.lays RX4 RX4 "size" "I" ∈ gw_all := List.mem_filter.mpr ⟨mt_1 (List.mem_of_getElem? (i := 96) rfl), rfl⟩
set_option maxRecDepth 100000 in
theorem mw_149 : Cond.lays RX4 RX4 "sendBit" "I" ∈ gw_all := List.mem_filter.mpr ⟨mt_1 (List.mem_of_getElem? (i := 98) rfl), rfl⟩
set_option maxRecDepth 100000 in
theorem mw_151 : Cond.lays RX4 RX4 "heardBit" "I" ∈ gw_all := List.mem_filter.mpr ⟨mt_1 (List.mem_of_getElem? (i := 100) rfl), rfl⟩
set_option maxRecDepth 100000 in
theorem mw_153 : Cond.lays RX4 RX4 "heard" "I" ∈ gw_all := List.mem_filter.mpr ⟨mt_1 (List.mem_of_getElem? (i := 102) rfl), rfl⟩
set_option maxRecDepth 100000 in
theorem mw_155 : Cond.lays RX4 RX4 "hash" "I" ∈ gw_all := List.mem_filter.mpr ⟨mt_1 (List.mem_of_getElem? (i := 104) rfl), rfl⟩
set_option maxRecDepth 100000 in
theorem mw_157 : Cond.lays RX4 RX4 "greatestLag" "I" ∈ gw_all := List.mem_filter.mpr ⟨mt_1 (List.mem_of_getElem? (i := 106) rfl), rfl⟩
set_option maxRecDepth 100000 in
theorem mw_160 : Cond.classLink RX1 26 RX0 ∈ gw_all := List.mem_filter.mpr ⟨mt_1 (List.mem_of_getElem? (i := 109) rfl), rfl⟩
set_option maxRecDepth 100000 in
theorem mw_161 : Cond.instantiable RX0 6 ∈ gw_all := List.mem_filter.mpr ⟨mt_1 (List.mem_of_getElem? (i := 110) rfl), rfl⟩
set_option maxRecDepth 100000 in
theorem nw_162 : Cond.methodLinkNest RX1 28 yX0_init RX6 ∈ lw_tbl := mt_1 (List.mem_of_getElem? (i := 111) rfl)
set_option maxRecDepth 100000 in
theorem mw_163 : Cond.instanceMethod yX0_init ∈ gw_all := List.mem_filter.mpr ⟨mt_1 (List.mem_of_getElem? (i := 112) rfl), rfl⟩
set_option maxRecDepth 100000 in
theorem mw_164 : Cond.code yX0_init cX0_init 1 none ∈ gw_all := List.mem_filter.mpr ⟨mt_1 (List.mem_of_getElem? (i := 113) rfl), rfl⟩
set_option maxRecDepth 100000 in
theorem mw_165 : Cond.methodLink RX0 1 objectInit ∈ gw_all := List.mem_filter.mpr ⟨mt_1 (List.mem_of_getElem? (i := 114) rfl), rfl⟩
set_option maxRecDepth 100000 in
theorem mw_166 : Cond.fieldLink RX0 7 RX0 "period" "I" ∈ gw_all := List.mem_filter.mpr ⟨mt_1 (List.mem_of_getElem? (i := 115) rfl), rfl⟩
set_option maxRecDepth 100000 in
theorem mw_167 : Cond.fieldLink RX6 163 RX0 "period" "I" ∈ gw_all := List.mem_filter.mpr ⟨mt_1 (List.mem_of_getElem? (i := 116) rfl), rfl⟩
set_option maxRecDepth 100000 in
theorem mw_168 : Cond.fieldLink RX0 13 RX0 "phase" "I" ∈ gw_all := List.mem_filter.mpr ⟨mt_1 (List.mem_of_getElem? (i := 117) rfl), rfl⟩
set_option maxRecDepth 100000 in
theorem mw_169 : Cond.fieldLink RX6 307 RX0 "phase" "I" ∈ gw_all := List.mem_filter.mpr ⟨mt_1 (List.mem_of_getElem? (i := 118) rfl), rfl⟩
set_option maxRecDepth 100000 in
theorem mw_170 : Cond.fieldLink RX0 16 RX0 "window" "I" ∈ gw_all := List.mem_filter.mpr ⟨mt_1 (List.mem_of_getElem? (i := 119) rfl), rfl⟩
set_option maxRecDepth 100000 in
theorem mw_171 : Cond.fieldLink RX6 310 RX0 "window" "I" ∈ gw_all := List.mem_filter.mpr ⟨mt_1 (List.mem_of_getElem? (i := 120) rfl), rfl⟩
set_option maxRecDepth 100000 in
theorem mw_172 : Cond.fieldLink RX0 19 RX0 "got" "I" ∈ gw_all := List.mem_filter.mpr ⟨mt_1 (List.mem_of_getElem? (i := 121) rfl), rfl⟩
set_option maxRecDepth 100000 in
theorem mw_173 : Cond.fieldLink RX6 313 RX0 "got" "I" ∈ gw_all := List.mem_filter.mpr ⟨mt_1 (List.mem_of_getElem? (i := 122) rfl), rfl⟩
set_option maxRecDepth 100000 in
theorem mw_174 : Cond.fieldLink RX0 22 RX0 "missed" "I" ∈ gw_all := List.mem_filter.mpr ⟨mt_1 (List.mem_of_getElem? (i := 123) rfl), rfl⟩
set_option maxRecDepth 100000 in
theorem mw_175 : Cond.fieldLink RX5 132 RX0 "missed" "I" ∈ gw_all := List.mem_filter.mpr ⟨mt_1 (List.mem_of_getElem? (i := 124) rfl), rfl⟩
set_option maxRecDepth 100000 in
theorem mw_176 : Cond.fieldLink RX6 316 RX0 "missed" "I" ∈ gw_all := List.mem_filter.mpr ⟨mt_1 (List.mem_of_getElem? (i := 125) rfl), rfl⟩
set_option maxRecDepth 100000 in
theorem mw_177 : Cond.fieldLink RX0 25 RX0 "turnsLeft" "I" ∈ gw_all := List.mem_filter.mpr ⟨mt_1 (List.mem_of_getElem? (i := 126) rfl), rfl⟩
set_option maxRecDepth 100000 in
theorem mw_178 : Cond.fieldLink RX2 124 RX0 "turnsLeft" "I" ∈ gw_all := List.mem_filter.mpr ⟨mt_1 (List.mem_of_getElem? (i := 127) rfl), rfl⟩
set_option maxRecDepth 100000 in
theorem mw_179 : Cond.fieldLink RX6 319 RX0 "turnsLeft" "I" ∈ gw_all := List.mem_filter.mpr ⟨mt_1 (List.mem_of_getElem? (i := 128) rfl), rfl⟩
set_option maxRecDepth 100000 in
theorem mw_180 : Cond.lays RX0 RX0 "period" "I" ∈ gw_all := List.mem_filter.mpr ⟨mt_1 (List.mem_of_getElem? (i := 129) rfl), rfl⟩
set_option maxRecDepth 100000 in
theorem mw_182 : Cond.lays RX0 RX0 "phase" "I" ∈ gw_all := List.mem_filter.mpr ⟨mt_1 (List.mem_of_getElem? (i := 131) rfl), rfl⟩
set_option maxRecDepth 100000 in
theorem mw_184 : Cond.lays RX0 RX0 "window" "I" ∈ gw_all := List.mem_filter.mpr ⟨mt_1 (List.mem_of_getElem? (i := 133) rfl), rfl⟩
set_option maxRecDepth 100000 in
theorem mw_186 : Cond.lays RX0 RX0 "got" "I" ∈ gw_all := List.mem_filter.mpr ⟨mt_1 (List.mem_of_getElem? (i := 135) rfl), rfl⟩
set_option maxRecDepth 100000 in
theorem mw_188 : Cond.lays RX0 RX0 "missed" "I" ∈ gw_all := List.mem_filter.mpr ⟨mt_1 (List.mem_of_getElem? (i := 137) rfl), rfl⟩
set_option maxRecDepth 100000 in
theorem mw_190 : Cond.lays RX0 RX0 "turnsLeft" "I" ∈ gw_all := List.mem_filter.mpr ⟨mt_1 (List.mem_of_getElem? (i := 139) rfl), rfl⟩
set_option maxRecDepth 100000 in
theorem mw_193 : Cond.fieldLink RX1 10 RX1 "plan" "LHopNet$Plan;" ∈ gw_all := List.mem_filter.mpr ⟨mt_1 (List.mem_of_getElem? (i := 142) rfl), rfl⟩
set_option maxRecDepth 100000 in
theorem mw_194 : Cond.fieldLink RX5 117 RX1 "plan" "LHopNet$Plan;" ∈ gw_all := List.mem_filter.mpr ⟨mt_1 (List.mem_of_getElem? (i := 143) rfl), rfl⟩
set_option maxRecDepth 100000 in
theorem mw_195 : Cond.fieldLink RX2 132 RX1 "plan" "LHopNet$Plan;" ∈ gw_all := List.mem_filter.mpr ⟨mt_1 (List.mem_of_getElem? (i := 144) rfl), rfl⟩
set_option maxRecDepth 100000 in
theorem mw_196 : Cond.fieldLink RX6 237 RX1 "plan" "LHopNet$Plan;" ∈ gw_all := List.mem_filter.mpr ⟨mt_1 (List.mem_of_getElem? (i := 145) rfl), rfl⟩
set_option maxRecDepth 100000 in
theorem mw_197 : Cond.fieldLink RX1 19 RX1 "down" "LHopNet$Row;" ∈ gw_all := List.mem_filter.mpr ⟨mt_1 (List.mem_of_getElem? (i := 146) rfl), rfl⟩
set_option maxRecDepth 100000 in
theorem mw_198 : Cond.fieldLink RX6 135 RX1 "down" "LHopNet$Row;" ∈ gw_all := List.mem_filter.mpr ⟨mt_1 (List.mem_of_getElem? (i := 147) rfl), rfl⟩
set_option maxRecDepth 100000 in
theorem mw_199 : Cond.fieldLink RX5 137 RX1 "down" "LHopNet$Row;" ∈ gw_all := List.mem_filter.mpr ⟨mt_1 (List.mem_of_getElem? (i := 148) rfl), rfl⟩
set_option maxRecDepth 100000 in
theorem mw_200 : Cond.fieldLink RX1 23 RX1 "up" "LHopNet$Row;" ∈ gw_all := List.mem_filter.mpr ⟨mt_1 (List.mem_of_getElem? (i := 149) rfl), rfl⟩
set_option maxRecDepth 100000 in
theorem mw_201 : Cond.fieldLink RX6 141 RX1 "up" "LHopNet$Row;" ∈ gw_all := List.mem_filter.mpr ⟨mt_1 (List.mem_of_getElem? (i := 150) rfl), rfl⟩
set_option maxRecDepth 100000 in
theorem mw_202 : Cond.fieldLink RX5 146 RX1 "up" "LHopNet$Row;" ∈ gw_all := List.mem_filter.mpr ⟨mt_1 (List.mem_of_getElem? (i := 151) rfl), rfl⟩
set_option maxRecDepth 100000 in
theorem mw_203 : Cond.fieldLink RX1 29 RX1 "frames" "LHopNet$Frames;" ∈ gw_all := List.mem_filter.mpr ⟨mt_1 (List.mem_of_getElem? (i := 152) rfl), rfl⟩
set_option maxRecDepth 100000 in
theorem mw_204 : Cond.fieldLink RX6 159 RX1 "frames" "LHopNet$Frames;" ∈ gw_all := List.mem_filter.mpr ⟨mt_1 (List.mem_of_getElem? (i := 153) rfl), rfl⟩
set_option maxRecDepth 100000 in
theorem mw_205 : Cond.fieldLink RX2 120 RX1 "frames" "LHopNet$Frames;" ∈ gw_all := List.mem_filter.mpr ⟨mt_1 (List.mem_of_getElem? (i := 154) rfl), rfl⟩
set_option maxRecDepth 100000 in
theorem mw_206 : Cond.fieldLink RX5 128 RX1 "frames" "LHopNet$Frames;" ∈ gw_all := List.mem_filter.mpr ⟨mt_1 (List.mem_of_getElem? (i := 155) rfl), rfl⟩
set_option maxRecDepth 100000 in
theorem mw_207 : Cond.fieldLink RX1 33 RX1 "radio" "I" ∈ gw_all := List.mem_filter.mpr ⟨mt_1 (List.mem_of_getElem? (i := 156) rfl), rfl⟩
set_option maxRecDepth 100000 in
theorem mw_208 : Cond.fieldLink RX2 96 RX1 "radio" "I" ∈ gw_all := List.mem_filter.mpr ⟨mt_1 (List.mem_of_getElem? (i := 157) rfl), rfl⟩
set_option maxRecDepth 100000 in
theorem mw_209 : Cond.fieldLink RX5 72 RX1 "radio" "I" ∈ gw_all := List.mem_filter.mpr ⟨mt_1 (List.mem_of_getElem? (i := 158) rfl), rfl⟩
set_option maxRecDepth 100000 in
theorem mw_210 : Cond.fieldLink RX6 271 RX1 "radio" "I" ∈ gw_all := List.mem_filter.mpr ⟨mt_1 (List.mem_of_getElem? (i := 159) rfl), rfl⟩
set_option maxRecDepth 100000 in
theorem mw_211 : Cond.fieldLink RX1 41 RX1 "known" "Z" ∈ gw_all := List.mem_filter.mpr ⟨mt_1 (List.mem_of_getElem? (i := 160) rfl), rfl⟩
set_option maxRecDepth 100000 in
theorem mw_212 : Cond.fieldLink RX2 111 RX1 "known" "Z" ∈ gw_all := List.mem_filter.mpr ⟨mt_1 (List.mem_of_getElem? (i := 161) rfl), rfl⟩
set_option maxRecDepth 100000 in
theorem mw_213 : Cond.fieldLink RX6 246 RX1 "known" "Z" ∈ gw_all := List.mem_filter.mpr ⟨mt_1 (List.mem_of_getElem? (i := 162) rfl), rfl⟩
set_option maxRecDepth 100000 in
theorem mw_214 : Cond.fieldLink RX5 235 RX1 "known" "Z" ∈ gw_all := List.mem_filter.mpr ⟨mt_1 (List.mem_of_getElem? (i := 163) rfl), rfl⟩
set_option maxRecDepth 100000 in
theorem mw_215 : Cond.fieldLink RX1 48 RX1 "upWasHeard" "Z" ∈ gw_all := List.mem_filter.mpr ⟨mt_1 (List.mem_of_getElem? (i := 164) rfl), rfl⟩
set_option maxRecDepth 100000 in
theorem mw_216 : Cond.fieldLink RX5 260 RX1 "upWasHeard" "Z" ∈ gw_all := List.mem_filter.mpr ⟨mt_1 (List.mem_of_getElem? (i := 165) rfl), rfl⟩
set_option maxRecDepth 100000 in
theorem mw_217 : Cond.fieldLink RX1 55 RX1 "sniffPeriod" "I" ∈ gw_all := List.mem_filter.mpr ⟨mt_1 (List.mem_of_getElem? (i := 166) rfl), rfl⟩
set_option maxRecDepth 100000 in
theorem mw_218 : Cond.fieldLink RX6 172 RX1 "sniffPeriod" "I" ∈ gw_all := List.mem_filter.mpr ⟨mt_1 (List.mem_of_getElem? (i := 167) rfl), rfl⟩
set_option maxRecDepth 100000 in
theorem mw_219 : Cond.fieldLink RX1 58 RX1 "sniffTries" "I" ∈ gw_all := List.mem_filter.mpr ⟨mt_1 (List.mem_of_getElem? (i := 168) rfl), rfl⟩
set_option maxRecDepth 100000 in
theorem mw_220 : Cond.fieldLink RX6 175 RX1 "sniffTries" "I" ∈ gw_all := List.mem_filter.mpr ⟨mt_1 (List.mem_of_getElem? (i := 169) rfl), rfl⟩
set_option maxRecDepth 100000 in
theorem mw_221 : Cond.fieldLink RX1 61 RX1 "weight" "I" ∈ gw_all := List.mem_filter.mpr ⟨mt_1 (List.mem_of_getElem? (i := 170) rfl), rfl⟩
set_option maxRecDepth 100000 in
theorem mw_222 : Cond.fieldLink RX6 178 RX1 "weight" "I" ∈ gw_all := List.mem_filter.mpr ⟨mt_1 (List.mem_of_getElem? (i := 171) rfl), rfl⟩
set_option maxRecDepth 100000 in
theorem mw_223 : Cond.fieldLink RX2 129 RX1 "weight" "I" ∈ gw_all := List.mem_filter.mpr ⟨mt_1 (List.mem_of_getElem? (i := 172) rfl), rfl⟩
set_option maxRecDepth 100000 in
theorem mw_224 : Cond.fieldLink RX1 64 RX1 "castBit" "I" ∈ gw_all := List.mem_filter.mpr ⟨mt_1 (List.mem_of_getElem? (i := 173) rfl), rfl⟩
set_option maxRecDepth 100000 in
theorem mw_225 : Cond.fieldLink RX6 295 RX1 "castBit" "I" ∈ gw_all := List.mem_filter.mpr ⟨mt_1 (List.mem_of_getElem? (i := 174) rfl), rfl⟩
set_option maxRecDepth 100000 in
theorem mw_226 : Cond.fieldLink RX1 67 RX1 "castsHeard" "I" ∈ gw_all := List.mem_filter.mpr ⟨mt_1 (List.mem_of_getElem? (i := 175) rfl), rfl⟩
set_option maxRecDepth 100000 in
theorem mw_227 : Cond.fieldLink RX6 292 RX1 "castsHeard" "I" ∈ gw_all := List.mem_filter.mpr ⟨mt_1 (List.mem_of_getElem? (i := 176) rfl), rfl⟩
set_option maxRecDepth 100000 in
theorem mw_228 : Cond.fieldLink RX1 70 RX1 "castHash" "I" ∈ gw_all := List.mem_filter.mpr ⟨mt_1 (List.mem_of_getElem? (i := 177) rfl), rfl⟩
set_option maxRecDepth 100000 in
theorem mw_229 : Cond.fieldLink RX6 304 RX1 "castHash" "I" ∈ gw_all := List.mem_filter.mpr ⟨mt_1 (List.mem_of_getElem? (i := 178) rfl), rfl⟩
set_option maxRecDepth 100000 in
theorem mw_230 : Cond.fieldLink RX1 73 RX1 "timesChosen" "I" ∈ gw_all := List.mem_filter.mpr ⟨mt_1 (List.mem_of_getElem? (i := 179) rfl), rfl⟩
set_option maxRecDepth 100000 in
theorem mw_231 : Cond.fieldLink RX5 222 RX1 "timesChosen" "I" ∈ gw_all := List.mem_filter.mpr ⟨mt_1 (List.mem_of_getElem? (i := 180) rfl), rfl⟩
set_option maxRecDepth 100000 in
theorem mw_232 : Cond.fieldLink RX6 286 RX1 "timesChosen" "I" ∈ gw_all := List.mem_filter.mpr ⟨mt_1 (List.mem_of_getElem? (i := 181) rfl), rfl⟩
set_option maxRecDepth 100000 in
theorem mw_233 : Cond.fieldLink RX1 76 RX1 "turnsReady" "I" ∈ gw_all := List.mem_filter.mpr ⟨mt_1 (List.mem_of_getElem? (i := 182) rfl), rfl⟩
set_option maxRecDepth 100000 in
theorem mw_234 : Cond.fieldLink RX5 197 RX1 "turnsReady" "I" ∈ gw_all := List.mem_filter.mpr ⟨mt_1 (List.mem_of_getElem? (i := 183) rfl), rfl⟩
set_option maxRecDepth 100000 in
theorem mw_235 : Cond.fieldLink RX6 289 RX1 "turnsReady" "I" ∈ gw_all := List.mem_filter.mpr ⟨mt_1 (List.mem_of_getElem? (i := 184) rfl), rfl⟩
set_option maxRecDepth 100000 in
theorem mw_236 : Cond.fieldLink RX1 79 RX1 "why" "I" ∈ gw_all := List.mem_filter.mpr ⟨mt_1 (List.mem_of_getElem? (i := 185) rfl), rfl⟩
set_option maxRecDepth 100000 in
theorem mw_237 : Cond.fieldLink RX5 254 RX1 "why" "I" ∈ gw_all := List.mem_filter.mpr ⟨mt_1 (List.mem_of_getElem? (i := 186) rfl), rfl⟩
set_option maxRecDepth 100000 in
theorem mw_238 : Cond.fieldLink RX6 277 RX1 "why" "I" ∈ gw_all := List.mem_filter.mpr ⟨mt_1 (List.mem_of_getElem? (i := 187) rfl), rfl⟩
set_option maxRecDepth 100000 in
theorem mw_239 : Cond.fieldLink RX1 82 RX1 "lastHeard" "I" ∈ gw_all := List.mem_filter.mpr ⟨mt_1 (List.mem_of_getElem? (i := 188) rfl), rfl⟩
set_option maxRecDepth 100000 in
theorem mw_240 : Cond.fieldLink RX5 297 RX1 "lastHeard" "I" ∈ gw_all := List.mem_filter.mpr ⟨mt_1 (List.mem_of_getElem? (i := 189) rfl), rfl⟩
set_option maxRecDepth 100000 in
theorem mw_241 : Cond.fieldLink RX6 372 RX1 "lastHeard" "I" ∈ gw_all := List.mem_filter.mpr ⟨mt_1 (List.mem_of_getElem? (i := 190) rfl), rfl⟩
set_option maxRecDepth 100000 in
theorem mw_242 : Cond.fieldLink RX1 85 RX1 "isReady" "Z" ∈ gw_all := List.mem_filter.mpr ⟨mt_1 (List.mem_of_getElem? (i := 191) rfl), rfl⟩
set_option maxRecDepth 100000 in
theorem mw_243 : Cond.fieldLink RX2 117 RX1 "isReady" "Z" ∈ gw_all := List.mem_filter.mpr ⟨mt_1 (List.mem_of_getElem? (i := 192) rfl), rfl⟩
set_option maxRecDepth 100000 in
theorem mw_244 : Cond.fieldLink RX5 193 RX1 "isReady" "Z" ∈ gw_all := List.mem_filter.mpr ⟨mt_1 (List.mem_of_getElem? (i := 193) rfl), rfl⟩
set_option maxRecDepth 100000 in
theorem mw_245 : Cond.laysFinal RX1 RX1 "plan" "LHopNet$Plan;" ∈ gw_all := List.mem_filter.mpr ⟨mt_1 (List.mem_of_getElem? (i := 194) rfl), rfl⟩
set_option maxRecDepth 100000 in
theorem mw_247 : Cond.laysFinal RX1 RX1 "down" "LHopNet$Row;" ∈ gw_all := List.mem_filter.mpr ⟨mt_1 (List.mem_of_getElem? (i := 196) rfl), rfl⟩
set_option maxRecDepth 100000 in
theorem mw_249 : Cond.laysFinal RX1 RX1 "up" "LHopNet$Row;" ∈ gw_all := List.mem_filter.mpr ⟨mt_1 (List.mem_of_getElem? (i := 198) rfl), rfl⟩
set_option maxRecDepth 100000 in
theorem mw_251 : Cond.laysFinal RX1 RX1 "frames" "LHopNet$Frames;" ∈ gw_all := List.mem_filter.mpr ⟨mt_1 (List.mem_of_getElem? (i := 200) rfl), rfl⟩
set_option maxRecDepth 100000 in
theorem mw_253 : Cond.lays RX1 RX1 "radio" "I" ∈ gw_all := List.mem_filter.mpr ⟨mt_1 (List.mem_of_getElem? (i := 202) rfl), rfl⟩
set_option maxRecDepth 100000 in
theorem mw_255 : Cond.lays RX1 RX1 "known" "Z" ∈ gw_all := List.mem_filter.mpr ⟨mt_1 (List.mem_of_getElem? (i := 204) rfl), rfl⟩
set_option maxRecDepth 100000 in
theorem mw_257 : Cond.lays RX1 RX1 "upWasHeard" "Z" ∈ gw_all := List.mem_filter.mpr ⟨mt_1 (List.mem_of_getElem? (i := 206) rfl), rfl⟩
set_option maxRecDepth 100000 in
theorem mw_259 : Cond.lays RX1 RX1 "sniffPeriod" "I" ∈ gw_all := List.mem_filter.mpr ⟨mt_1 (List.mem_of_getElem? (i := 208) rfl), rfl⟩
set_option maxRecDepth 100000 in
theorem mw_261 : Cond.lays RX1 RX1 "sniffTries" "I" ∈ gw_all := List.mem_filter.mpr ⟨mt_1 (List.mem_of_getElem? (i := 210) rfl), rfl⟩
set_option maxRecDepth 100000 in
theorem mw_263 : Cond.lays RX1 RX1 "weight" "I" ∈ gw_all := List.mem_filter.mpr ⟨mt_1 (List.mem_of_getElem? (i := 212) rfl), rfl⟩
set_option maxRecDepth 100000 in
theorem mw_265 : Cond.lays RX1 RX1 "castBit" "I" ∈ gw_all := List.mem_filter.mpr ⟨mt_1 (List.mem_of_getElem? (i := 214) rfl), rfl⟩
set_option maxRecDepth 100000 in
theorem mw_267 : Cond.lays RX1 RX1 "castsHeard" "I" ∈ gw_all := List.mem_filter.mpr ⟨mt_1 (List.mem_of_getElem? (i := 216) rfl), rfl⟩
set_option maxRecDepth 100000 in
theorem mw_269 : Cond.lays RX1 RX1 "castHash" "I" ∈ gw_all := List.mem_filter.mpr ⟨mt_1 (List.mem_of_getElem? (i := 218) rfl), rfl⟩
set_option maxRecDepth 100000 in
theorem mw_271 : Cond.lays RX1 RX1 "timesChosen" "I" ∈ gw_all := List.mem_filter.mpr ⟨mt_1 (List.mem_of_getElem? (i := 220) rfl), rfl⟩
set_option maxRecDepth 100000 in
theorem mw_273 : Cond.lays RX1 RX1 "turnsReady" "I" ∈ gw_all := List.mem_filter.mpr ⟨mt_1 (List.mem_of_getElem? (i := 222) rfl), rfl⟩
set_option maxRecDepth 100000 in
theorem mw_275 : Cond.lays RX1 RX1 "why" "I" ∈ gw_all := List.mem_filter.mpr ⟨mt_1 (List.mem_of_getElem? (i := 224) rfl), rfl⟩
set_option maxRecDepth 100000 in
theorem mw_277 : Cond.lays RX1 RX1 "lastHeard" "I" ∈ gw_all := List.mem_filter.mpr ⟨mt_1 (List.mem_of_getElem? (i := 226) rfl), rfl⟩
set_option maxRecDepth 100000 in
theorem mw_279 : Cond.lays RX1 RX1 "isReady" "Z" ∈ gw_all := List.mem_filter.mpr ⟨mt_1 (List.mem_of_getElem? (i := 228) rfl), rfl⟩
set_option maxRecDepth 100000 in
theorem mw_282 : Cond.fieldLink RX2 12 RX2 "plan" "LHopNet$Plan;" ∈ gw_all := List.mem_filter.mpr ⟨mt_1 (List.mem_of_getElem? (i := 231) rfl), rfl⟩
set_option maxRecDepth 100000 in
theorem mw_283 : Cond.fieldLink RX5 104 RX2 "plan" "LHopNet$Plan;" ∈ gw_all := List.mem_filter.mpr ⟨mt_1 (List.mem_of_getElem? (i := 232) rfl), rfl⟩
set_option maxRecDepth 100000 in
theorem mw_284 : Cond.fieldLink RX6 190 RX2 "plan" "LHopNet$Plan;" ∈ gw_all := List.mem_filter.mpr ⟨mt_1 (List.mem_of_getElem? (i := 233) rfl), rfl⟩
set_option maxRecDepth 100000 in
theorem mw_285 : Cond.fieldLink RX2 18 RX2 "casts" "[I" ∈ gw_all := List.mem_filter.mpr ⟨mt_1 (List.mem_of_getElem? (i := 234) rfl), rfl⟩
set_option maxRecDepth 100000 in
theorem mw_286 : Cond.fieldLink RX6 184 RX2 "casts" "[I" ∈ gw_all := List.mem_filter.mpr ⟨mt_1 (List.mem_of_getElem? (i := 235) rfl), rfl⟩
set_option maxRecDepth 100000 in
theorem mw_287 : Cond.fieldLink RX2 22 RX2 "sentOn" "[I" ∈ gw_all := List.mem_filter.mpr ⟨mt_1 (List.mem_of_getElem? (i := 236) rfl), rfl⟩
set_option maxRecDepth 100000 in
theorem mw_288 : Cond.fieldLink RX6 265 RX2 "sentOn" "[I" ∈ gw_all := List.mem_filter.mpr ⟨mt_1 (List.mem_of_getElem? (i := 237) rfl), rfl⟩
set_option maxRecDepth 100000 in
theorem mw_289 : Cond.fieldLink RX2 25 RX2 "answeredOn" "[I" ∈ gw_all := List.mem_filter.mpr ⟨mt_1 (List.mem_of_getElem? (i := 238) rfl), rfl⟩
set_option maxRecDepth 100000 in
theorem mw_290 : Cond.fieldLink RX6 268 RX2 "answeredOn" "[I" ∈ gw_all := List.mem_filter.mpr ⟨mt_1 (List.mem_of_getElem? (i := 239) rfl), rfl⟩
set_option maxRecDepth 100000 in
theorem mw_291 : Cond.fieldLink RX2 30 RX2 "links" "[LHopNet$Link;" ∈ gw_all := List.mem_filter.mpr ⟨mt_2 (List.mem_of_getElem? (i := 0) rfl), rfl⟩
set_option maxRecDepth 100000 in
theorem mw_292 : Cond.fieldLink RX5 124 RX2 "links" "[LHopNet$Link;" ∈ gw_all := List.mem_filter.mpr ⟨mt_2 (List.mem_of_getElem? (i := 1) rfl), rfl⟩
set_option maxRecDepth 100000 in
theorem mw_293 : Cond.fieldLink RX6 368 RX2 "links" "[LHopNet$Link;" ∈ gw_all := List.mem_filter.mpr ⟨mt_2 (List.mem_of_getElem? (i := 2) rfl), rfl⟩
set_option maxRecDepth 100000 in
theorem mw_294 : Cond.fieldLink RX2 34 RX2 "master" "I" ∈ gw_all := List.mem_filter.mpr ⟨mt_2 (List.mem_of_getElem? (i := 3) rfl), rfl⟩
set_option maxRecDepth 100000 in
theorem mw_295 : Cond.fieldLink RX6 84 RX2 "master" "I" ∈ gw_all := List.mem_filter.mpr ⟨mt_2 (List.mem_of_getElem? (i := 4) rfl), rfl⟩
set_option maxRecDepth 100000 in
theorem mw_296 : Cond.fieldLink RX5 57 RX2 "master" "I" ∈ gw_all := List.mem_filter.mpr ⟨mt_2 (List.mem_of_getElem? (i := 5) rfl), rfl⟩
set_option maxRecDepth 100000 in
theorem mw_297 : Cond.fieldLink RX2 38 RX2 "offset" "I" ∈ gw_all := List.mem_filter.mpr ⟨mt_2 (List.mem_of_getElem? (i := 6) rfl), rfl⟩
set_option maxRecDepth 100000 in
theorem mw_298 : Cond.fieldLink RX6 89 RX2 "offset" "I" ∈ gw_all := List.mem_filter.mpr ⟨mt_2 (List.mem_of_getElem? (i := 7) rfl), rfl⟩
set_option maxRecDepth 100000 in
theorem mw_299 : Cond.fieldLink RX5 91 RX2 "offset" "I" ∈ gw_all := List.mem_filter.mpr ⟨mt_2 (List.mem_of_getElem? (i := 8) rfl), rfl⟩
set_option maxRecDepth 100000 in
theorem mw_300 : Cond.fieldLink RX2 42 RX2 "mapAhead" "I" ∈ gw_all := List.mem_filter.mpr ⟨mt_2 (List.mem_of_getElem? (i := 9) rfl), rfl⟩
set_option maxRecDepth 100000 in
theorem mw_301 : Cond.fieldLink RX5 183 RX2 "mapAhead" "I" ∈ gw_all := List.mem_filter.mpr ⟨mt_2 (List.mem_of_getElem? (i := 10) rfl), rfl⟩
set_option maxRecDepth 100000 in
theorem mw_302 : Cond.fieldLink RX6 256 RX2 "mapAhead" "I" ∈ gw_all := List.mem_filter.mpr ⟨mt_2 (List.mem_of_getElem? (i := 11) rfl), rfl⟩
set_option maxRecDepth 100000 in
theorem mw_303 : Cond.fieldLink RX2 45 RX2 "linkCount" "I" ∈ gw_all := List.mem_filter.mpr ⟨mt_2 (List.mem_of_getElem? (i := 12) rfl), rfl⟩
set_option maxRecDepth 100000 in
theorem mw_304 : Cond.fieldLink RX6 92 RX2 "linkCount" "I" ∈ gw_all := List.mem_filter.mpr ⟨mt_2 (List.mem_of_getElem? (i := 13) rfl), rfl⟩
set_option maxRecDepth 100000 in
theorem mw_305 : Cond.fieldLink RX5 121 RX2 "linkCount" "I" ∈ gw_all := List.mem_filter.mpr ⟨mt_2 (List.mem_of_getElem? (i := 14) rfl), rfl⟩
set_option maxRecDepth 100000 in
theorem mw_306 : Cond.fieldLink RX2 48 RX2 "polled" "I" ∈ gw_all := List.mem_filter.mpr ⟨mt_2 (List.mem_of_getElem? (i := 15) rfl), rfl⟩
set_option maxRecDepth 100000 in
theorem mw_307 : Cond.fieldLink RX6 375 RX2 "polled" "I" ∈ gw_all := List.mem_filter.mpr ⟨mt_2 (List.mem_of_getElem? (i := 16) rfl), rfl⟩
set_option maxRecDepth 100000 in
theorem mw_308 : Cond.fieldLink RX2 51 RX2 "pollsInRow" "I" ∈ gw_all := List.mem_filter.mpr ⟨mt_2 (List.mem_of_getElem? (i := 17) rfl), rfl⟩
set_option maxRecDepth 100000 in
theorem mw_309 : Cond.fieldLink RX2 54 RX2 "castCount" "I" ∈ gw_all := List.mem_filter.mpr ⟨mt_2 (List.mem_of_getElem? (i := 18) rfl), rfl⟩
set_option maxRecDepth 100000 in
theorem mw_310 : Cond.fieldLink RX6 181 RX2 "castCount" "I" ∈ gw_all := List.mem_filter.mpr ⟨mt_2 (List.mem_of_getElem? (i := 19) rfl), rfl⟩
set_option maxRecDepth 100000 in
theorem mw_311 : Cond.fieldLink RX5 216 RX2 "castCount" "I" ∈ gw_all := List.mem_filter.mpr ⟨mt_2 (List.mem_of_getElem? (i := 20) rfl), rfl⟩
set_option maxRecDepth 100000 in
theorem mw_312 : Cond.fieldLink RX2 57 RX2 "castBit" "I" ∈ gw_all := List.mem_filter.mpr ⟨mt_2 (List.mem_of_getElem? (i := 21) rfl), rfl⟩
set_option maxRecDepth 100000 in
theorem mw_313 : Cond.fieldLink RX6 381 RX2 "castBit" "I" ∈ gw_all := List.mem_filter.mpr ⟨mt_2 (List.mem_of_getElem? (i := 22) rfl), rfl⟩
set_option maxRecDepth 100000 in
theorem mw_314 : Cond.fieldLink RX2 60 RX2 "firstCastSent" "I" ∈ gw_all := List.mem_filter.mpr ⟨mt_2 (List.mem_of_getElem? (i := 23) rfl), rfl⟩
set_option maxRecDepth 100000 in
theorem mw_315 : Cond.fieldLink RX6 378 RX2 "firstCastSent" "I" ∈ gw_all := List.mem_filter.mpr ⟨mt_2 (List.mem_of_getElem? (i := 24) rfl), rfl⟩
set_option maxRecDepth 100000 in
theorem mw_316 : Cond.fieldLink RX2 63 RX2 "isCasting" "Z" ∈ gw_all := List.mem_filter.mpr ⟨mt_2 (List.mem_of_getElem? (i := 25) rfl), rfl⟩
set_option maxRecDepth 100000 in
theorem mw_317 : Cond.fieldLink RX5 206 RX2 "isCasting" "Z" ∈ gw_all := List.mem_filter.mpr ⟨mt_2 (List.mem_of_getElem? (i := 26) rfl), rfl⟩
set_option maxRecDepth 100000 in
theorem mw_318 : Cond.fieldLink RX6 356 RX2 "isCasting" "Z" ∈ gw_all := List.mem_filter.mpr ⟨mt_2 (List.mem_of_getElem? (i := 27) rfl), rfl⟩
set_option maxRecDepth 100000 in
theorem mw_319 : Cond.fieldLink RX2 67 RX2 "chosen" "I" ∈ gw_all := List.mem_filter.mpr ⟨mt_2 (List.mem_of_getElem? (i := 28) rfl), rfl⟩
set_option maxRecDepth 100000 in
theorem mw_320 : Cond.fieldLink RX5 203 RX2 "chosen" "I" ∈ gw_all := List.mem_filter.mpr ⟨mt_2 (List.mem_of_getElem? (i := 29) rfl), rfl⟩
set_option maxRecDepth 100000 in
theorem mw_321 : Cond.fieldLink RX6 359 RX2 "chosen" "I" ∈ gw_all := List.mem_filter.mpr ⟨mt_2 (List.mem_of_getElem? (i := 30) rfl), rfl⟩
set_option maxRecDepth 100000 in
theorem mw_322 : Cond.fieldLink RX2 70 RX2 "hopInSlot" "I" ∈ gw_all := List.mem_filter.mpr ⟨mt_2 (List.mem_of_getElem? (i := 31) rfl), rfl⟩
set_option maxRecDepth 100000 in
theorem mw_323 : Cond.fieldLink RX5 242 RX2 "hopInSlot" "I" ∈ gw_all := List.mem_filter.mpr ⟨mt_2 (List.mem_of_getElem? (i := 32) rfl), rfl⟩
set_option maxRecDepth 100000 in
theorem mw_324 : Cond.fieldLink RX2 73 RX2 "channelInSlot" "I" ∈ gw_all := List.mem_filter.mpr ⟨mt_2 (List.mem_of_getElem? (i := 33) rfl), rfl⟩
set_option maxRecDepth 100000 in
theorem mw_325 : Cond.fieldLink RX5 226 RX2 "channelInSlot" "I" ∈ gw_all := List.mem_filter.mpr ⟨mt_2 (List.mem_of_getElem? (i := 34) rfl), rfl⟩
set_option maxRecDepth 100000 in
theorem mw_326 : Cond.fieldLink RX2 76 RX2 "masterSentOn" "I" ∈ gw_all := List.mem_filter.mpr ⟨mt_2 (List.mem_of_getElem? (i := 35) rfl), rfl⟩
set_option maxRecDepth 100000 in
theorem mw_327 : Cond.fieldLink RX5 245 RX2 "masterSentOn" "I" ∈ gw_all := List.mem_filter.mpr ⟨mt_2 (List.mem_of_getElem? (i := 36) rfl), rfl⟩
set_option maxRecDepth 100000 in
theorem mw_328 : Cond.fieldLink RX2 79 RX2 "packetHeard" "Z" ∈ gw_all := List.mem_filter.mpr ⟨mt_2 (List.mem_of_getElem? (i := 37) rfl), rfl⟩
set_option maxRecDepth 100000 in
theorem mw_329 : Cond.fieldLink RX5 232 RX2 "packetHeard" "Z" ∈ gw_all := List.mem_filter.mpr ⟨mt_2 (List.mem_of_getElem? (i := 38) rfl), rfl⟩
set_option maxRecDepth 100000 in
theorem mw_330 : Cond.laysFinal RX2 RX2 "plan" "LHopNet$Plan;" ∈ gw_all := List.mem_filter.mpr ⟨mt_2 (List.mem_of_getElem? (i := 39) rfl), rfl⟩
set_option maxRecDepth 100000 in
theorem mw_332 : Cond.laysFinal RX2 RX2 "casts" "[I" ∈ gw_all := List.mem_filter.mpr ⟨mt_2 (List.mem_of_getElem? (i := 41) rfl), rfl⟩
set_option maxRecDepth 100000 in
theorem mw_334 : Cond.laysFinal RX2 RX2 "sentOn" "[I" ∈ gw_all := List.mem_filter.mpr ⟨mt_2 (List.mem_of_getElem? (i := 43) rfl), rfl⟩
set_option maxRecDepth 100000 in
theorem mw_336 : Cond.laysFinal RX2 RX2 "answeredOn" "[I" ∈ gw_all := List.mem_filter.mpr ⟨mt_2 (List.mem_of_getElem? (i := 45) rfl), rfl⟩
set_option maxRecDepth 100000 in
theorem mw_338 : Cond.laysFinal RX2 RX2 "links" "[LHopNet$Link;" ∈ gw_all := List.mem_filter.mpr ⟨mt_2 (List.mem_of_getElem? (i := 47) rfl), rfl⟩
set_option maxRecDepth 100000 in
theorem mw_340 : Cond.lays RX2 RX2 "master" "I" ∈ gw_all := List.mem_filter.mpr ⟨mt_2 (List.mem_of_getElem? (i := 49) rfl), rfl⟩
set_option maxRecDepth 100000 in
theorem mw_342 : Cond.lays RX2 RX2 "offset" "I" ∈ gw_all := List.mem_filter.mpr ⟨mt_2 (List.mem_of_getElem? (i := 51) rfl), rfl⟩
set_option maxRecDepth 100000 in
theorem mw_344 : Cond.lays RX2 RX2 "mapAhead" "I" ∈ gw_all := List.mem_filter.mpr ⟨mt_2 (List.mem_of_getElem? (i := 53) rfl), rfl⟩
set_option maxRecDepth 100000 in
theorem mw_346 : Cond.lays RX2 RX2 "linkCount" "I" ∈ gw_all := List.mem_filter.mpr ⟨mt_2 (List.mem_of_getElem? (i := 55) rfl), rfl⟩
set_option maxRecDepth 100000 in
theorem mw_348 : Cond.lays RX2 RX2 "polled" "I" ∈ gw_all := List.mem_filter.mpr ⟨mt_2 (List.mem_of_getElem? (i := 57) rfl), rfl⟩
set_option maxRecDepth 100000 in
theorem mw_350 : Cond.lays RX2 RX2 "pollsInRow" "I" ∈ gw_all := List.mem_filter.mpr ⟨mt_2 (List.mem_of_getElem? (i := 59) rfl), rfl⟩
set_option maxRecDepth 100000 in
theorem mw_352 : Cond.lays RX2 RX2 "castCount" "I" ∈ gw_all := List.mem_filter.mpr ⟨mt_2 (List.mem_of_getElem? (i := 61) rfl), rfl⟩
set_option maxRecDepth 100000 in
theorem mw_354 : Cond.lays RX2 RX2 "castBit" "I" ∈ gw_all := List.mem_filter.mpr ⟨mt_2 (List.mem_of_getElem? (i := 63) rfl), rfl⟩
set_option maxRecDepth 100000 in
theorem mw_356 : Cond.lays RX2 RX2 "firstCastSent" "I" ∈ gw_all := List.mem_filter.mpr ⟨mt_2 (List.mem_of_getElem? (i := 65) rfl), rfl⟩
set_option maxRecDepth 100000 in
theorem mw_358 : Cond.lays RX2 RX2 "isCasting" "Z" ∈ gw_all := List.mem_filter.mpr ⟨mt_2 (List.mem_of_getElem? (i := 67) rfl), rfl⟩
set_option maxRecDepth 100000 in
theorem mw_360 : Cond.lays RX2 RX2 "chosen" "I" ∈ gw_all := List.mem_filter.mpr ⟨mt_2 (List.mem_of_getElem? (i := 69) rfl), rfl⟩
set_option maxRecDepth 100000 in
theorem mw_362 : Cond.lays RX2 RX2 "hopInSlot" "I" ∈ gw_all := List.mem_filter.mpr ⟨mt_2 (List.mem_of_getElem? (i := 71) rfl), rfl⟩
set_option maxRecDepth 100000 in
theorem mw_364 : Cond.lays RX2 RX2 "channelInSlot" "I" ∈ gw_all := List.mem_filter.mpr ⟨mt_2 (List.mem_of_getElem? (i := 73) rfl), rfl⟩
set_option maxRecDepth 100000 in
theorem mw_366 : Cond.lays RX2 RX2 "masterSentOn" "I" ∈ gw_all := List.mem_filter.mpr ⟨mt_2 (List.mem_of_getElem? (i := 75) rfl), rfl⟩
set_option maxRecDepth 100000 in
theorem mw_368 : Cond.lays RX2 RX2 "packetHeard" "Z" ∈ gw_all := List.mem_filter.mpr ⟨mt_2 (List.mem_of_getElem? (i := 77) rfl), rfl⟩
set_option maxRecDepth 100000 in
theorem mw_371 : Cond.fieldLink RX5 9 RX5 "addresses" "[I" ∈ gw_all := List.mem_filter.mpr ⟨mt_2 (List.mem_of_getElem? (i := 80) rfl), rfl⟩
set_option maxRecDepth 100000 in
theorem mw_372 : Cond.fieldLink RX6 69 RX5 "addresses" "[I" ∈ gw_all := List.mem_filter.mpr ⟨mt_2 (List.mem_of_getElem? (i := 81) rfl), rfl⟩
set_option maxRecDepth 100000 in
theorem mw_373 : Cond.fieldLink RX5 15 RX5 "noises" "[I" ∈ gw_all := List.mem_filter.mpr ⟨mt_2 (List.mem_of_getElem? (i := 82) rfl), rfl⟩
set_option maxRecDepth 100000 in
theorem mw_374 : Cond.fieldLink RX6 116 RX5 "noises" "[I" ∈ gw_all := List.mem_filter.mpr ⟨mt_2 (List.mem_of_getElem? (i := 83) rfl), rfl⟩
set_option maxRecDepth 100000 in
theorem mw_375 : Cond.fieldLink RX5 18 RX5 "tallies" "[I" ∈ gw_all := List.mem_filter.mpr ⟨mt_2 (List.mem_of_getElem? (i := 84) rfl), rfl⟩
set_option maxRecDepth 100000 in
theorem mw_376 : Cond.fieldLink RX6 385 RX5 "tallies" "[I" ∈ gw_all := List.mem_filter.mpr ⟨mt_2 (List.mem_of_getElem? (i := 85) rfl), rfl⟩
set_option maxRecDepth 100000 in
theorem mw_377 : Cond.fieldLink RX5 23 RX5 "nets" "[LHopNet$Net;" ∈ gw_all := List.mem_filter.mpr ⟨mt_2 (List.mem_of_getElem? (i := 86) rfl), rfl⟩
set_option maxRecDepth 100000 in
theorem mw_378 : Cond.fieldLink RX6 80 RX5 "nets" "[LHopNet$Net;" ∈ gw_all := List.mem_filter.mpr ⟨mt_2 (List.mem_of_getElem? (i := 87) rfl), rfl⟩
set_option maxRecDepth 100000 in
theorem mw_379 : Cond.fieldLink RX5 27 RX5 "radioCount" "I" ∈ gw_all := List.mem_filter.mpr ⟨mt_2 (List.mem_of_getElem? (i := 88) rfl), rfl⟩
set_option maxRecDepth 100000 in
theorem mw_380 : Cond.fieldLink RX6 62 RX5 "radioCount" "I" ∈ gw_all := List.mem_filter.mpr ⟨mt_2 (List.mem_of_getElem? (i := 89) rfl), rfl⟩
set_option maxRecDepth 100000 in
theorem mw_381 : Cond.fieldLink RX5 31 RX5 "time" "I" ∈ gw_all := List.mem_filter.mpr ⟨mt_2 (List.mem_of_getElem? (i := 90) rfl), rfl⟩
set_option maxRecDepth 100000 in
theorem mw_382 : Cond.fieldLink RX6 102 RX5 "time" "I" ∈ gw_all := List.mem_filter.mpr ⟨mt_2 (List.mem_of_getElem? (i := 91) rfl), rfl⟩
set_option maxRecDepth 100000 in
theorem mw_383 : Cond.fieldLink RX5 34 RX5 "seed" "I" ∈ gw_all := List.mem_filter.mpr ⟨mt_2 (List.mem_of_getElem? (i := 92) rfl), rfl⟩
set_option maxRecDepth 100000 in
theorem mw_384 : Cond.fieldLink RX6 123 RX5 "seed" "I" ∈ gw_all := List.mem_filter.mpr ⟨mt_2 (List.mem_of_getElem? (i := 93) rfl), rfl⟩
set_option maxRecDepth 100000 in
theorem mw_385 : Cond.fieldLink RX5 37 RX5 "share" "I" ∈ gw_all := List.mem_filter.mpr ⟨mt_2 (List.mem_of_getElem? (i := 94) rfl), rfl⟩
set_option maxRecDepth 100000 in
theorem mw_386 : Cond.fieldLink RX6 126 RX5 "share" "I" ∈ gw_all := List.mem_filter.mpr ⟨mt_2 (List.mem_of_getElem? (i := 95) rfl), rfl⟩
set_option maxRecDepth 100000 in
theorem mw_387 : Cond.fieldLink RX5 40 RX5 "repeats" "I" ∈ gw_all := List.mem_filter.mpr ⟨mt_2 (List.mem_of_getElem? (i := 96) rfl), rfl⟩
set_option maxRecDepth 100000 in
theorem mw_388 : Cond.fieldLink RX6 129 RX5 "repeats" "I" ∈ gw_all := List.mem_filter.mpr ⟨mt_2 (List.mem_of_getElem? (i := 97) rfl), rfl⟩
set_option maxRecDepth 100000 in
theorem mw_389 : Cond.fieldLink RX5 43 RX5 "heardNow" "I" ∈ gw_all := List.mem_filter.mpr ⟨mt_2 (List.mem_of_getElem? (i := 98) rfl), rfl⟩
set_option maxRecDepth 100000 in
theorem mw_390 : Cond.laysFinal RX5 RX5 "addresses" "[I" ∈ gw_all := List.mem_filter.mpr ⟨mt_2 (List.mem_of_getElem? (i := 99) rfl), rfl⟩
set_option maxRecDepth 100000 in
theorem mw_392 : Cond.laysFinal RX5 RX5 "noises" "[I" ∈ gw_all := List.mem_filter.mpr ⟨mt_2 (List.mem_of_getElem? (i := 101) rfl), rfl⟩
set_option maxRecDepth 100000 in
theorem mw_394 : Cond.laysFinal RX5 RX5 "tallies" "[I" ∈ gw_all := List.mem_filter.mpr ⟨mt_2 (List.mem_of_getElem? (i := 103) rfl), rfl⟩
set_option maxRecDepth 100000 in
theorem mw_396 : Cond.laysFinal RX5 RX5 "nets" "[LHopNet$Net;" ∈ gw_all := List.mem_filter.mpr ⟨mt_2 (List.mem_of_getElem? (i := 105) rfl), rfl⟩
set_option maxRecDepth 100000 in
theorem mw_398 : Cond.lays RX5 RX5 "radioCount" "I" ∈ gw_all := List.mem_filter.mpr ⟨mt_2 (List.mem_of_getElem? (i := 107) rfl), rfl⟩
set_option maxRecDepth 100000 in
theorem mw_400 : Cond.lays RX5 RX5 "time" "I" ∈ gw_all := List.mem_filter.mpr ⟨mt_2 (List.mem_of_getElem? (i := 109) rfl), rfl⟩
set_option maxRecDepth 100000 in
theorem mw_402 : Cond.lays RX5 RX5 "seed" "I" ∈ gw_all := List.mem_filter.mpr ⟨mt_2 (List.mem_of_getElem? (i := 111) rfl), rfl⟩
set_option maxRecDepth 100000 in
theorem mw_404 : Cond.lays RX5 RX5 "share" "I" ∈ gw_all := List.mem_filter.mpr ⟨mt_2 (List.mem_of_getElem? (i := 113) rfl), rfl⟩
set_option maxRecDepth 100000 in
theorem mw_406 : Cond.lays RX5 RX5 "repeats" "I" ∈ gw_all := List.mem_filter.mpr ⟨mt_2 (List.mem_of_getElem? (i := 115) rfl), rfl⟩
set_option maxRecDepth 100000 in
theorem mw_408 : Cond.lays RX5 RX5 "heardNow" "I" ∈ gw_all := List.mem_filter.mpr ⟨mt_2 (List.mem_of_getElem? (i := 117) rfl), rfl⟩
set_option maxRecDepth 100000 in
theorem nw_411 : Cond.arrayOver (FieldType.object RX5) ∈ lw_tbl := mt_2 (List.mem_of_getElem? (i := 120) rfl)
set_option maxRecDepth 100000 in
theorem mw_412 : Cond.fieldLink RX6 12 RX6 "world" "LHopNet$World;" ∈ gw_all := List.mem_filter.mpr ⟨mt_2 (List.mem_of_getElem? (i := 121) rfl), rfl⟩
set_option maxRecDepth 100000 in
theorem mw_413 : Cond.fieldLink RX6 16 RX6 "paper" "LHopNet$World;" ∈ gw_all := List.mem_filter.mpr ⟨mt_2 (List.mem_of_getElem? (i := 122) rfl), rfl⟩
set_option maxRecDepth 100000 in
theorem mw_414 : Cond.fieldLink RX6 19 RX6 "images" "[LHopNet$World;" ∈ gw_all := List.mem_filter.mpr ⟨mt_2 (List.mem_of_getElem? (i := 123) rfl), rfl⟩
set_option maxRecDepth 100000 in
theorem mw_415 : Cond.fieldLink RX6 23 RX6 "imageKept" "[Z" ∈ gw_all := List.mem_filter.mpr ⟨mt_2 (List.mem_of_getElem? (i := 124) rfl), rfl⟩
set_option maxRecDepth 100000 in
theorem mw_416 : Cond.fieldLink RX6 27 RX6 "past" "[LHopNet$World;" ∈ gw_all := List.mem_filter.mpr ⟨mt_2 (List.mem_of_getElem? (i := 125) rfl), rfl⟩
set_option maxRecDepth 100000 in
theorem mw_417 : Cond.fieldLink RX6 30 RX6 "pastActs" "[I" ∈ gw_all := List.mem_filter.mpr ⟨mt_2 (List.mem_of_getElem? (i := 126) rfl), rfl⟩
set_option maxRecDepth 100000 in
theorem mw_418 : Cond.fieldLink RX6 34 RX6 "pastNext" "I" ∈ gw_all := List.mem_filter.mpr ⟨mt_2 (List.mem_of_getElem? (i := 127) rfl), rfl⟩
set_option maxRecDepth 100000 in
theorem mw_419 : Cond.fieldLink RX6 38 RX6 "pastCount" "I" ∈ gw_all := List.mem_filter.mpr ⟨mt_2 (List.mem_of_getElem? (i := 128) rfl), rfl⟩
set_option maxRecDepth 100000 in
theorem mw_420 : Cond.fieldLink RX6 41 RX6 "refusals" "[I" ∈ gw_all := List.mem_filter.mpr ⟨mt_2 (List.mem_of_getElem? (i := 129) rfl), rfl⟩
set_option maxRecDepth 100000 in
theorem mw_421 : Cond.fieldLink RX6 44 RX6 "latestRefusal" "I" ∈ gw_all := List.mem_filter.mpr ⟨mt_2 (List.mem_of_getElem? (i := 130) rfl), rfl⟩
set_option maxRecDepth 100000 in
theorem mw_422 : Cond.fieldLink RX6 47 RX6 "hopsOfFirst" "[I" ∈ gw_all := List.mem_filter.mpr ⟨mt_2 (List.mem_of_getElem? (i := 131) rfl), rfl⟩
set_option maxRecDepth 100000 in
theorem mw_423 : Cond.fieldLink RX6 50 RX6 "hopsOfSecond" "[I" ∈ gw_all := List.mem_filter.mpr ⟨mt_2 (List.mem_of_getElem? (i := 132) rfl), rfl⟩
set_option maxRecDepth 100000 in
theorem mw_424 : Cond.laysFinal RX6 RX6 "world" "LHopNet$World;" ∈ gw_all := List.mem_filter.mpr ⟨mt_2 (List.mem_of_getElem? (i := 133) rfl), rfl⟩
set_option maxRecDepth 100000 in
theorem mw_426 : Cond.laysFinal RX6 RX6 "paper" "LHopNet$World;" ∈ gw_all := List.mem_filter.mpr ⟨mt_2 (List.mem_of_getElem? (i := 135) rfl), rfl⟩
set_option maxRecDepth 100000 in
theorem mw_428 : Cond.laysFinal RX6 RX6 "images" "[LHopNet$World;" ∈ gw_all := List.mem_filter.mpr ⟨mt_2 (List.mem_of_getElem? (i := 137) rfl), rfl⟩
set_option maxRecDepth 100000 in
theorem mw_430 : Cond.laysFinal RX6 RX6 "imageKept" "[Z" ∈ gw_all := List.mem_filter.mpr ⟨mt_2 (List.mem_of_getElem? (i := 139) rfl), rfl⟩
set_option maxRecDepth 100000 in
theorem mw_432 : Cond.laysFinal RX6 RX6 "past" "[LHopNet$World;" ∈ gw_all := List.mem_filter.mpr ⟨mt_2 (List.mem_of_getElem? (i := 141) rfl), rfl⟩
set_option maxRecDepth 100000 in
theorem mw_434 : Cond.laysFinal RX6 RX6 "pastActs" "[I" ∈ gw_all := List.mem_filter.mpr ⟨mt_2 (List.mem_of_getElem? (i := 143) rfl), rfl⟩
set_option maxRecDepth 100000 in
theorem mw_436 : Cond.lays RX6 RX6 "pastNext" "I" ∈ gw_all := List.mem_filter.mpr ⟨mt_2 (List.mem_of_getElem? (i := 145) rfl), rfl⟩
set_option maxRecDepth 100000 in
theorem mw_438 : Cond.lays RX6 RX6 "pastCount" "I" ∈ gw_all := List.mem_filter.mpr ⟨mt_2 (List.mem_of_getElem? (i := 147) rfl), rfl⟩
set_option maxRecDepth 100000 in
theorem mw_440 : Cond.laysFinal RX6 RX6 "refusals" "[I" ∈ gw_all := List.mem_filter.mpr ⟨mt_2 (List.mem_of_getElem? (i := 149) rfl), rfl⟩
set_option maxRecDepth 100000 in
theorem mw_442 : Cond.lays RX6 RX6 "latestRefusal" "I" ∈ gw_all := List.mem_filter.mpr ⟨mt_2 (List.mem_of_getElem? (i := 151) rfl), rfl⟩
set_option maxRecDepth 100000 in
theorem mw_444 : Cond.laysFinal RX6 RX6 "hopsOfFirst" "[I" ∈ gw_all := List.mem_filter.mpr ⟨mt_2 (List.mem_of_getElem? (i := 153) rfl), rfl⟩
set_option maxRecDepth 100000 in
theorem mw_446 : Cond.laysFinal RX6 RX6 "hopsOfSecond" "[I" ∈ gw_all := List.mem_filter.mpr ⟨mt_2 (List.mem_of_getElem? (i := 155) rfl), rfl⟩
set_option maxRecDepth 100000 in
theorem mw_449 : Cond.arrayClass FieldType.boolean ∈ gw_all := List.mem_filter.mpr ⟨mt_2 (List.mem_of_getElem? (i := 158) rfl), rfl⟩
set_option maxRecDepth 100000 in
theorem mw_450 : Cond.methodLink RL 13 yX6_radio ∈ gw_all := List.mem_filter.mpr ⟨mt_2 (List.mem_of_getElem? (i := 159) rfl), rfl⟩
set_option maxRecDepth 100000 in
theorem mw_451 : Cond.instanceMethod yX6_radio ∈ gw_all := List.mem_filter.mpr ⟨mt_2 (List.mem_of_getElem? (i := 160) rfl), rfl⟩
set_option maxRecDepth 100000 in
theorem mw_452 : Cond.selects RX6 yX6_radio yX6_radio ∈ gw_all := List.mem_filter.mpr ⟨mt_2 (List.mem_of_getElem? (i := 161) rfl), rfl⟩
set_option maxRecDepth 100000 in
theorem mw_453 : Cond.code yX6_radio cX6_radio 2 (some .int) ∈ gw_all := List.mem_filter.mpr ⟨mt_2 (List.mem_of_getElem? (i := 162) rfl), rfl⟩
set_option maxRecDepth 100000 in
theorem mw_454 : Cond.constant RX6 53 268435455 ∈ gw_all := List.mem_filter.mpr ⟨mt_2 (List.mem_of_getElem? (i := 163) rfl), rfl⟩
set_option maxRecDepth 100000 in
theorem mw_455 : Cond.methodLink RX6 54 yX6_isWithin ∈ gw_all := List.mem_filter.mpr ⟨mt_2 (List.mem_of_getElem? (i := 164) rfl), rfl⟩
set_option maxRecDepth 100000 in
theorem mw_456 : Cond.static yX6_isWithin ∈ gw_all := List.mem_filter.mpr ⟨mt_2 (List.mem_of_getElem? (i := 165) rfl), rfl⟩
set_option maxRecDepth 100000 in
theorem mw_457 : Cond.code yX6_isWithin cX6_isWithin 3 (some .boolean) ∈ gw_all := List.mem_filter.mpr ⟨mt_2 (List.mem_of_getElem? (i := 166) rfl), rfl⟩
set_option maxRecDepth 100000 in
theorem mw_458 : Cond.methodLink RX6 58 yX6_refuse ∈ gw_all := List.mem_filter.mpr ⟨mt_2 (List.mem_of_getElem? (i := 167) rfl), rfl⟩
set_option maxRecDepth 100000 in
theorem mw_460 : Cond.instanceMethod yX6_refuse ∈ gw_all := List.mem_filter.mpr ⟨mt_2 (List.mem_of_getElem? (i := 169) rfl), rfl⟩
set_option maxRecDepth 100000 in
theorem mw_461 : Cond.code yX6_refuse cX6_refuse 3 (some .int) ∈ gw_all := List.mem_filter.mpr ⟨mt_2 (List.mem_of_getElem? (i := 170) rfl), rfl⟩
set_option maxRecDepth 100000 in
theorem mw_462 : Cond.methodLink RX6 65 yX6_keepForUndo ∈ gw_all := List.mem_filter.mpr ⟨mt_2 (List.mem_of_getElem? (i := 171) rfl), rfl⟩
set_option maxRecDepth 100000 in
theorem mw_464 : Cond.instanceMethod yX6_keepForUndo ∈ gw_all := List.mem_filter.mpr ⟨mt_2 (List.mem_of_getElem? (i := 173) rfl), rfl⟩
set_option maxRecDepth 100000 in
theorem mw_465 : Cond.code yX6_keepForUndo cX6_keepForUndo 2 none ∈ gw_all := List.mem_filter.mpr ⟨mt_2 (List.mem_of_getElem? (i := 174) rfl), rfl⟩
set_option maxRecDepth 100000 in
theorem mw_466 : Cond.methodLink RX6 219 yX5_copyFrom ∈ gw_all := List.mem_filter.mpr ⟨mt_2 (List.mem_of_getElem? (i := 175) rfl), rfl⟩
set_option maxRecDepth 100000 in
theorem mw_467 : Cond.instanceMethod yX5_copyFrom ∈ gw_all := List.mem_filter.mpr ⟨mt_2 (List.mem_of_getElem? (i := 176) rfl), rfl⟩
set_option maxRecDepth 100000 in
theorem mw_468 : Cond.selects RX5 yX5_copyFrom yX5_copyFrom ∈ gw_all := List.mem_filter.mpr ⟨mt_2 (List.mem_of_getElem? (i := 177) rfl), rfl⟩
set_option maxRecDepth 100000 in
theorem mw_469 : Cond.code yX5_copyFrom cX5_copyFrom 3 none ∈ gw_all := List.mem_filter.mpr ⟨mt_2 (List.mem_of_getElem? (i := 178) rfl), rfl⟩
set_option maxRecDepth 100000 in
theorem mw_470 : Cond.methodLink RX5 47 arraycopyName ∈ gw_all := List.mem_filter.mpr ⟨mt_2 (List.mem_of_getElem? (i := 179) rfl), rfl⟩
set_option maxRecDepth 100000 in
theorem mw_471 : Cond.static arraycopyName ∈ gw_all := List.mem_filter.mpr ⟨mt_2 (List.mem_of_getElem? (i := 180) rfl), rfl⟩
set_option maxRecDepth 100000 in
theorem mw_472 : Cond.native arraycopyName ∈ gw_all := List.mem_filter.mpr ⟨mt_2 (List.mem_of_getElem? (i := 181) rfl), rfl⟩
set_option maxRecDepth 100000 in
theorem mw_473 : Cond.methodLink RX5 53 yX2_copyFrom ∈ gw_all := List.mem_filter.mpr ⟨mt_2 (List.mem_of_getElem? (i := 182) rfl), rfl⟩
set_option maxRecDepth 100000 in
theorem mw_474 : Cond.instanceMethod yX2_copyFrom ∈ gw_all := List.mem_filter.mpr ⟨mt_2 (List.mem_of_getElem? (i := 183) rfl), rfl⟩
set_option maxRecDepth 100000 in
theorem mw_475 : Cond.selects RX2 yX2_copyFrom yX2_copyFrom ∈ gw_all := List.mem_filter.mpr ⟨mt_2 (List.mem_of_getElem? (i := 184) rfl), rfl⟩
set_option maxRecDepth 100000 in
theorem mw_476 : Cond.code yX2_copyFrom cX2_copyFrom 3 none ∈ gw_all := List.mem_filter.mpr ⟨mt_2 (List.mem_of_getElem? (i := 185) rfl), rfl⟩
set_option maxRecDepth 100000 in
theorem mw_477 : Cond.methodLink RX2 83 yX3_copyFrom ∈ gw_all := List.mem_filter.mpr ⟨mt_2 (List.mem_of_getElem? (i := 186) rfl), rfl⟩
set_option maxRecDepth 100000 in
theorem mw_478 : Cond.instanceMethod yX3_copyFrom ∈ gw_all := List.mem_filter.mpr ⟨mt_2 (List.mem_of_getElem? (i := 187) rfl), rfl⟩
set_option maxRecDepth 100000 in
theorem mw_479 : Cond.selects RX3 yX3_copyFrom yX3_copyFrom ∈ gw_all := List.mem_filter.mpr ⟨mt_2 (List.mem_of_getElem? (i := 188) rfl), rfl⟩
set_option maxRecDepth 100000 in
theorem mw_480 : Cond.code yX3_copyFrom cX3_copyFrom 2 none ∈ gw_all := List.mem_filter.mpr ⟨mt_2 (List.mem_of_getElem? (i := 189) rfl), rfl⟩
set_option maxRecDepth 100000 in
theorem mw_481 : Cond.methodLink RX2 87 arraycopyName ∈ gw_all := List.mem_filter.mpr ⟨mt_2 (List.mem_of_getElem? (i := 190) rfl), rfl⟩
set_option maxRecDepth 100000 in
theorem mw_482 : Cond.methodLink RX2 93 yX1_copyFrom ∈ gw_all := List.mem_filter.mpr ⟨mt_2 (List.mem_of_getElem? (i := 191) rfl), rfl⟩
set_option maxRecDepth 100000 in
theorem mw_483 : Cond.instanceMethod yX1_copyFrom ∈ gw_all := List.mem_filter.mpr ⟨mt_2 (List.mem_of_getElem? (i := 192) rfl), rfl⟩
set_option maxRecDepth 100000 in
theorem mw_484 : Cond.selects RX1 yX1_copyFrom yX1_copyFrom ∈ gw_all := List.mem_filter.mpr ⟨mt_2 (List.mem_of_getElem? (i := 193) rfl), rfl⟩
set_option maxRecDepth 100000 in
theorem mw_485 : Cond.code yX1_copyFrom cX1_copyFrom 2 none ∈ gw_all := List.mem_filter.mpr ⟨mt_2 (List.mem_of_getElem? (i := 194) rfl), rfl⟩
set_option maxRecDepth 100000 in
theorem mw_486 : Cond.methodLink RX1 37 yX3_copyFrom ∈ gw_all := List.mem_filter.mpr ⟨mt_2 (List.mem_of_getElem? (i := 195) rfl), rfl⟩
set_option maxRecDepth 100000 in
theorem mw_487 : Cond.methodLink RX1 88 yX4_copyFrom ∈ gw_all := List.mem_filter.mpr ⟨mt_2 (List.mem_of_getElem? (i := 196) rfl), rfl⟩
set_option maxRecDepth 100000 in
theorem mw_488 : Cond.instanceMethod yX4_copyFrom ∈ gw_all := List.mem_filter.mpr ⟨mt_2 (List.mem_of_getElem? (i := 197) rfl), rfl⟩
set_option maxRecDepth 100000 in
theorem mw_489 : Cond.selects RX4 yX4_copyFrom yX4_copyFrom ∈ gw_all := List.mem_filter.mpr ⟨mt_2 (List.mem_of_getElem? (i := 198) rfl), rfl⟩
set_option maxRecDepth 100000 in
theorem mw_490 : Cond.code yX4_copyFrom cX4_copyFrom 2 none ∈ gw_all := List.mem_filter.mpr ⟨mt_2 (List.mem_of_getElem? (i := 199) rfl), rfl⟩
set_option maxRecDepth 100000 in
theorem mw_491 : Cond.methodLink RX4 37 arraycopyName ∈ gw_all := List.mem_filter.mpr ⟨mt_2 (List.mem_of_getElem? (i := 200) rfl), rfl⟩
set_option maxRecDepth 100000 in
theorem mw_492 : Cond.methodLink RX1 91 yX0_copyFrom ∈ gw_all := List.mem_filter.mpr ⟨mt_2 (List.mem_of_getElem? (i := 201) rfl), rfl⟩
set_option maxRecDepth 100000 in
theorem mw_493 : Cond.instanceMethod yX0_copyFrom ∈ gw_all := List.mem_filter.mpr ⟨mt_2 (List.mem_of_getElem? (i := 202) rfl), rfl⟩
set_option maxRecDepth 100000 in
theorem mw_494 : Cond.selects RX0 yX0_copyFrom yX0_copyFrom ∈ gw_all := List.mem_filter.mpr ⟨mt_2 (List.mem_of_getElem? (i := 203) rfl), rfl⟩
set_option maxRecDepth 100000 in
theorem mw_495 : Cond.code yX0_copyFrom cX0_copyFrom 2 none ∈ gw_all := List.mem_filter.mpr ⟨mt_2 (List.mem_of_getElem? (i := 204) rfl), rfl⟩
set_option maxRecDepth 100000 in
theorem mw_496 : Cond.methodLink RX6 388 yJ9_min_7cf53 ∈ gw_all := List.mem_filter.mpr ⟨mt_2 (List.mem_of_getElem? (i := 205) rfl), rfl⟩
set_option maxRecDepth 100000 in
theorem mw_497 : Cond.static yJ9_min_7cf53 ∈ gw_all := List.mem_filter.mpr ⟨mt_2 (List.mem_of_getElem? (i := 206) rfl), rfl⟩
set_option maxRecDepth 100000 in
theorem mw_498 : Cond.code yJ9_min_7cf53 cJ9_min_7cf53 2 (some .int) ∈ gw_all := List.mem_filter.mpr ⟨mt_2 (List.mem_of_getElem? (i := 207) rfl), rfl⟩
set_option maxRecDepth 100000 in
theorem mw_499 : Cond.methodLink RX6 72 yX6_accept ∈ gw_all := List.mem_filter.mpr ⟨mt_2 (List.mem_of_getElem? (i := 208) rfl), rfl⟩
set_option maxRecDepth 100000 in
theorem mw_501 : Cond.instanceMethod yX6_accept ∈ gw_all := List.mem_filter.mpr ⟨mt_2 (List.mem_of_getElem? (i := 210) rfl), rfl⟩
set_option maxRecDepth 100000 in
theorem mw_502 : Cond.code yX6_accept cX6_accept 2 (some .int) ∈ gw_all := List.mem_filter.mpr ⟨mt_2 (List.mem_of_getElem? (i := 211) rfl), rfl⟩
set_option maxRecDepth 100000 in
theorem mw_503 : Cond.methodLink RL 18 yX6_net ∈ gw_all := List.mem_filter.mpr ⟨mt_2 (List.mem_of_getElem? (i := 212) rfl), rfl⟩
set_option maxRecDepth 100000 in
theorem mw_504 : Cond.instanceMethod yX6_net ∈ gw_all := List.mem_filter.mpr ⟨mt_2 (List.mem_of_getElem? (i := 213) rfl), rfl⟩
set_option maxRecDepth 100000 in
theorem mw_505 : Cond.selects RX6 yX6_net yX6_net ∈ gw_all := List.mem_filter.mpr ⟨mt_2 (List.mem_of_getElem? (i := 214) rfl), rfl⟩
set_option maxRecDepth 100000 in
theorem mw_506 : Cond.code yX6_net cX6_net 4 (some .int) ∈ gw_all := List.mem_filter.mpr ⟨mt_2 (List.mem_of_getElem? (i := 215) rfl), rfl⟩
set_option maxRecDepth 100000 in
theorem mw_507 : Cond.constant RX6 75 65535 ∈ gw_all := List.mem_filter.mpr ⟨mt_2 (List.mem_of_getElem? (i := 216) rfl), rfl⟩
set_option maxRecDepth 100000 in
theorem mw_508 : Cond.methodLink RX6 76 yX5_hasRadio ∈ gw_all := List.mem_filter.mpr ⟨mt_2 (List.mem_of_getElem? (i := 217) rfl), rfl⟩
set_option maxRecDepth 100000 in
theorem mw_509 : Cond.instanceMethod yX5_hasRadio ∈ gw_all := List.mem_filter.mpr ⟨mt_2 (List.mem_of_getElem? (i := 218) rfl), rfl⟩
set_option maxRecDepth 100000 in
theorem mw_510 : Cond.selects RX5 yX5_hasRadio yX5_hasRadio ∈ gw_all := List.mem_filter.mpr ⟨mt_2 (List.mem_of_getElem? (i := 219) rfl), rfl⟩
set_option maxRecDepth 100000 in
theorem mw_511 : Cond.code yX5_hasRadio cX5_hasRadio 2 (some .boolean) ∈ gw_all := List.mem_filter.mpr ⟨mt_2 (List.mem_of_getElem? (i := 220) rfl), rfl⟩
set_option maxRecDepth 100000 in
theorem mw_512 : Cond.methodLink RL 23 yX6_join ∈ gw_all := List.mem_filter.mpr ⟨mt_2 (List.mem_of_getElem? (i := 221) rfl), rfl⟩
set_option maxRecDepth 100000 in
theorem mw_513 : Cond.instanceMethod yX6_join ∈ gw_all := List.mem_filter.mpr ⟨mt_2 (List.mem_of_getElem? (i := 222) rfl), rfl⟩
set_option maxRecDepth 100000 in
theorem mw_514 : Cond.selects RX6 yX6_join yX6_join ∈ gw_all := List.mem_filter.mpr ⟨mt_2 (List.mem_of_getElem? (i := 223) rfl), rfl⟩
set_option maxRecDepth 100000 in
theorem mw_515 : Cond.code yX6_join cX6_join 4 (some .int) ∈ gw_all := List.mem_filter.mpr ⟨mt_2 (List.mem_of_getElem? (i := 224) rfl), rfl⟩
set_option maxRecDepth 100000 in
theorem mw_516 : Cond.methodLink RX6 95 yX5_netAt ∈ gw_all := List.mem_filter.mpr ⟨mt_2 (List.mem_of_getElem? (i := 225) rfl), rfl⟩
set_option maxRecDepth 100000 in
theorem mw_517 : Cond.instanceMethod yX5_netAt ∈ gw_all := List.mem_filter.mpr ⟨mt_2 (List.mem_of_getElem? (i := 226) rfl), rfl⟩
set_option maxRecDepth 100000 in
theorem mw_518 : Cond.selects RX5 yX5_netAt yX5_netAt ∈ gw_all := List.mem_filter.mpr ⟨mt_2 (List.mem_of_getElem? (i := 227) rfl), rfl⟩
set_option maxRecDepth 100000 in
theorem mw_519 : Cond.code yX5_netAt cX5_netAt 2 (some (.object "HopNet$Net")) ∈ gw_all := List.mem_filter.mpr ⟨mt_2 (List.mem_of_getElem? (i := 228) rfl), rfl⟩
set_option maxRecDepth 100000 in
theorem mw_520 : Cond.methodLink RX6 99 yX2_holds ∈ gw_all := List.mem_filter.mpr ⟨mt_2 (List.mem_of_getElem? (i := 229) rfl), rfl⟩
set_option maxRecDepth 100000 in
theorem mw_521 : Cond.instanceMethod yX2_holds ∈ gw_all := List.mem_filter.mpr ⟨mt_2 (List.mem_of_getElem? (i := 230) rfl), rfl⟩
set_option maxRecDepth 100000 in
theorem mw_522 : Cond.selects RX2 yX2_holds yX2_holds ∈ gw_all := List.mem_filter.mpr ⟨mt_2 (List.mem_of_getElem? (i := 231) rfl), rfl⟩
set_option maxRecDepth 100000 in
theorem mw_523 : Cond.code yX2_holds cX2_holds 3 (some .boolean) ∈ gw_all := List.mem_filter.mpr ⟨mt_2 (List.mem_of_getElem? (i := 232) rfl), rfl⟩
set_option maxRecDepth 100000 in
theorem mw_524 : Cond.methodLink RX6 105 yX2_addMember ∈ gw_all := List.mem_filter.mpr ⟨mt_2 (List.mem_of_getElem? (i := 233) rfl), rfl⟩
set_option maxRecDepth 100000 in
theorem mw_525 : Cond.instanceMethod yX2_addMember ∈ gw_all := List.mem_filter.mpr ⟨mt_2 (List.mem_of_getElem? (i := 234) rfl), rfl⟩
set_option maxRecDepth 100000 in
theorem mw_526 : Cond.selects RX2 yX2_addMember yX2_addMember ∈ gw_all := List.mem_filter.mpr ⟨mt_2 (List.mem_of_getElem? (i := 235) rfl), rfl⟩
set_option maxRecDepth 100000 in
theorem mw_527 : Cond.code yX2_addMember cX2_addMember 3 none ∈ gw_all := List.mem_filter.mpr ⟨mt_2 (List.mem_of_getElem? (i := 236) rfl), rfl⟩
set_option maxRecDepth 100000 in
theorem mw_528 : Cond.methodLink RX2 99 yX1_begin ∈ gw_all := List.mem_filter.mpr ⟨mt_2 (List.mem_of_getElem? (i := 237) rfl), rfl⟩
set_option maxRecDepth 100000 in
theorem mw_529 : Cond.instanceMethod yX1_begin ∈ gw_all := List.mem_filter.mpr ⟨mt_2 (List.mem_of_getElem? (i := 238) rfl), rfl⟩
set_option maxRecDepth 100000 in
theorem mw_530 : Cond.selects RX1 yX1_begin yX1_begin ∈ gw_all := List.mem_filter.mpr ⟨mt_2 (List.mem_of_getElem? (i := 239) rfl), rfl⟩
set_option maxRecDepth 100000 in
theorem mw_531 : Cond.code yX1_begin cX1_begin 4 none ∈ gw_all := List.mem_filter.mpr ⟨mt_3 (List.mem_of_getElem? (i := 0) rfl), rfl⟩
set_option maxRecDepth 100000 in
theorem mw_532 : Cond.methodLink RX1 45 yX4_begin ∈ gw_all := List.mem_filter.mpr ⟨mt_3 (List.mem_of_getElem? (i := 1) rfl), rfl⟩
set_option maxRecDepth 100000 in
theorem mw_533 : Cond.instanceMethod yX4_begin ∈ gw_all := List.mem_filter.mpr ⟨mt_3 (List.mem_of_getElem? (i := 2) rfl), rfl⟩
set_option maxRecDepth 100000 in
theorem mw_534 : Cond.selects RX4 yX4_begin yX4_begin ∈ gw_all := List.mem_filter.mpr ⟨mt_3 (List.mem_of_getElem? (i := 3) rfl), rfl⟩
set_option maxRecDepth 100000 in
theorem mw_535 : Cond.code yX4_begin cX4_begin 1 none ∈ gw_all := List.mem_filter.mpr ⟨mt_3 (List.mem_of_getElem? (i := 4) rfl), rfl⟩
set_option maxRecDepth 100000 in
theorem mw_536 : Cond.methodLink RX1 51 yX0_set ∈ gw_all := List.mem_filter.mpr ⟨mt_3 (List.mem_of_getElem? (i := 5) rfl), rfl⟩
set_option maxRecDepth 100000 in
theorem mw_537 : Cond.instanceMethod yX0_set ∈ gw_all := List.mem_filter.mpr ⟨mt_3 (List.mem_of_getElem? (i := 6) rfl), rfl⟩
set_option maxRecDepth 100000 in
theorem mw_538 : Cond.selects RX0 yX0_set yX0_set ∈ gw_all := List.mem_filter.mpr ⟨mt_3 (List.mem_of_getElem? (i := 7) rfl), rfl⟩
set_option maxRecDepth 100000 in
theorem mw_539 : Cond.code yX0_set cX0_set 4 none ∈ gw_all := List.mem_filter.mpr ⟨mt_3 (List.mem_of_getElem? (i := 8) rfl), rfl⟩
set_option maxRecDepth 100000 in
theorem mw_540 : Cond.methodLink RL 28 yX6_leave ∈ gw_all := List.mem_filter.mpr ⟨mt_3 (List.mem_of_getElem? (i := 9) rfl), rfl⟩
set_option maxRecDepth 100000 in
theorem mw_541 : Cond.instanceMethod yX6_leave ∈ gw_all := List.mem_filter.mpr ⟨mt_3 (List.mem_of_getElem? (i := 10) rfl), rfl⟩
set_option maxRecDepth 100000 in
theorem mw_542 : Cond.selects RX6 yX6_leave yX6_leave ∈ gw_all := List.mem_filter.mpr ⟨mt_3 (List.mem_of_getElem? (i := 11) rfl), rfl⟩
set_option maxRecDepth 100000 in
theorem mw_543 : Cond.code yX6_leave cX6_leave 4 (some .int) ∈ gw_all := List.mem_filter.mpr ⟨mt_3 (List.mem_of_getElem? (i := 12) rfl), rfl⟩
set_option maxRecDepth 100000 in
theorem mw_544 : Cond.methodLink RX6 109 yX2_linkAt ∈ gw_all := List.mem_filter.mpr ⟨mt_3 (List.mem_of_getElem? (i := 13) rfl), rfl⟩
set_option maxRecDepth 100000 in
theorem mw_545 : Cond.instanceMethod yX2_linkAt ∈ gw_all := List.mem_filter.mpr ⟨mt_3 (List.mem_of_getElem? (i := 14) rfl), rfl⟩
set_option maxRecDepth 100000 in
theorem mw_546 : Cond.selects RX2 yX2_linkAt yX2_linkAt ∈ gw_all := List.mem_filter.mpr ⟨mt_3 (List.mem_of_getElem? (i := 15) rfl), rfl⟩
set_option maxRecDepth 100000 in
theorem mw_547 : Cond.code yX2_linkAt cX2_linkAt 2 (some (.object "HopNet$Link")) ∈ gw_all := List.mem_filter.mpr ⟨mt_3 (List.mem_of_getElem? (i := 16) rfl), rfl⟩
set_option maxRecDepth 100000 in
theorem mw_548 : Cond.methodLink RX6 113 yX2_removeMember ∈ gw_all := List.mem_filter.mpr ⟨mt_3 (List.mem_of_getElem? (i := 17) rfl), rfl⟩
set_option maxRecDepth 100000 in
theorem mw_549 : Cond.instanceMethod yX2_removeMember ∈ gw_all := List.mem_filter.mpr ⟨mt_3 (List.mem_of_getElem? (i := 18) rfl), rfl⟩
set_option maxRecDepth 100000 in
theorem mw_550 : Cond.selects RX2 yX2_removeMember yX2_removeMember ∈ gw_all := List.mem_filter.mpr ⟨mt_3 (List.mem_of_getElem? (i := 19) rfl), rfl⟩
set_option maxRecDepth 100000 in
theorem mw_551 : Cond.code yX2_removeMember cX2_removeMember 4 none ∈ gw_all := List.mem_filter.mpr ⟨mt_3 (List.mem_of_getElem? (i := 20) rfl), rfl⟩
set_option maxRecDepth 100000 in
theorem mw_552 : Cond.methodLink RX2 103 yX2_linkAt ∈ gw_all := List.mem_filter.mpr ⟨mt_3 (List.mem_of_getElem? (i := 21) rfl), rfl⟩
set_option maxRecDepth 100000 in
theorem mw_553 : Cond.methodLink RL 32 yX6_noise ∈ gw_all := List.mem_filter.mpr ⟨mt_3 (List.mem_of_getElem? (i := 22) rfl), rfl⟩
set_option maxRecDepth 100000 in
theorem mw_554 : Cond.instanceMethod yX6_noise ∈ gw_all := List.mem_filter.mpr ⟨mt_3 (List.mem_of_getElem? (i := 23) rfl), rfl⟩
set_option maxRecDepth 100000 in
theorem mw_555 : Cond.selects RX6 yX6_noise yX6_noise ∈ gw_all := List.mem_filter.mpr ⟨mt_3 (List.mem_of_getElem? (i := 24) rfl), rfl⟩
set_option maxRecDepth 100000 in
theorem mw_556 : Cond.code yX6_noise cX6_noise 4 (some .int) ∈ gw_all := List.mem_filter.mpr ⟨mt_3 (List.mem_of_getElem? (i := 25) rfl), rfl⟩
set_option maxRecDepth 100000 in
theorem mw_557 : Cond.methodLink RL 36 yX6_terms ∈ gw_all := List.mem_filter.mpr ⟨mt_3 (List.mem_of_getElem? (i := 26) rfl), rfl⟩
set_option maxRecDepth 100000 in
theorem mw_558 : Cond.instanceMethod yX6_terms ∈ gw_all := List.mem_filter.mpr ⟨mt_3 (List.mem_of_getElem? (i := 27) rfl), rfl⟩
set_option maxRecDepth 100000 in
theorem mw_559 : Cond.selects RX6 yX6_terms yX6_terms ∈ gw_all := List.mem_filter.mpr ⟨mt_3 (List.mem_of_getElem? (i := 28) rfl), rfl⟩
set_option maxRecDepth 100000 in
theorem mw_560 : Cond.code yX6_terms cX6_terms 4 (some .int) ∈ gw_all := List.mem_filter.mpr ⟨mt_3 (List.mem_of_getElem? (i := 29) rfl), rfl⟩
set_option maxRecDepth 100000 in
theorem mw_561 : Cond.methodLink RX6 119 yX6_isTerm ∈ gw_all := List.mem_filter.mpr ⟨mt_3 (List.mem_of_getElem? (i := 30) rfl), rfl⟩
set_option maxRecDepth 100000 in
theorem mw_562 : Cond.static yX6_isTerm ∈ gw_all := List.mem_filter.mpr ⟨mt_3 (List.mem_of_getElem? (i := 31) rfl), rfl⟩
set_option maxRecDepth 100000 in
theorem mw_563 : Cond.code yX6_isTerm cX6_isTerm 2 (some .boolean) ∈ gw_all := List.mem_filter.mpr ⟨mt_3 (List.mem_of_getElem? (i := 32) rfl), rfl⟩
set_option maxRecDepth 100000 in
theorem mw_564 : Cond.constant RX6 401 1000000 ∈ gw_all := List.mem_filter.mpr ⟨mt_3 (List.mem_of_getElem? (i := 33) rfl), rfl⟩
set_option maxRecDepth 100000 in
theorem mw_565 : Cond.methodLink RX6 156 yX6_isEvenWithin ∈ gw_all := List.mem_filter.mpr ⟨mt_3 (List.mem_of_getElem? (i := 34) rfl), rfl⟩
set_option maxRecDepth 100000 in
theorem mw_566 : Cond.static yX6_isEvenWithin ∈ gw_all := List.mem_filter.mpr ⟨mt_3 (List.mem_of_getElem? (i := 35) rfl), rfl⟩
set_option maxRecDepth 100000 in
theorem mw_567 : Cond.code yX6_isEvenWithin cX6_isEvenWithin 3 (some .boolean) ∈ gw_all := List.mem_filter.mpr ⟨mt_3 (List.mem_of_getElem? (i := 36) rfl), rfl⟩
set_option maxRecDepth 100000 in
theorem mw_568 : Cond.methodLink RL 40 yX6_put ∈ gw_all := List.mem_filter.mpr ⟨mt_3 (List.mem_of_getElem? (i := 37) rfl), rfl⟩
set_option maxRecDepth 100000 in
theorem mw_569 : Cond.instanceMethod yX6_put ∈ gw_all := List.mem_filter.mpr ⟨mt_3 (List.mem_of_getElem? (i := 38) rfl), rfl⟩
set_option maxRecDepth 100000 in
theorem mw_570 : Cond.selects RX6 yX6_put yX6_put ∈ gw_all := List.mem_filter.mpr ⟨mt_3 (List.mem_of_getElem? (i := 39) rfl), rfl⟩
set_option maxRecDepth 100000 in
theorem mw_571 : Cond.code yX6_put cX6_put 7 (some .int) ∈ gw_all := List.mem_filter.mpr ⟨mt_3 (List.mem_of_getElem? (i := 40) rfl), rfl⟩
set_option maxRecDepth 100000 in
theorem mw_572 : Cond.methodLink RX6 132 yX5_linkAt ∈ gw_all := List.mem_filter.mpr ⟨mt_3 (List.mem_of_getElem? (i := 41) rfl), rfl⟩
set_option maxRecDepth 100000 in
theorem mw_573 : Cond.instanceMethod yX5_linkAt ∈ gw_all := List.mem_filter.mpr ⟨mt_3 (List.mem_of_getElem? (i := 42) rfl), rfl⟩
set_option maxRecDepth 100000 in
theorem mw_574 : Cond.selects RX5 yX5_linkAt yX5_linkAt ∈ gw_all := List.mem_filter.mpr ⟨mt_3 (List.mem_of_getElem? (i := 43) rfl), rfl⟩
set_option maxRecDepth 100000 in
theorem mw_575 : Cond.code yX5_linkAt cX5_linkAt 4 (some (.object "HopNet$Link")) ∈ gw_all := List.mem_filter.mpr ⟨mt_3 (List.mem_of_getElem? (i := 44) rfl), rfl⟩
set_option maxRecDepth 100000 in
theorem mw_576 : Cond.methodLink RX5 60 yX5_netAt ∈ gw_all := List.mem_filter.mpr ⟨mt_3 (List.mem_of_getElem? (i := 45) rfl), rfl⟩
set_option maxRecDepth 100000 in
theorem mw_577 : Cond.methodLink RX5 64 yX2_linkAt ∈ gw_all := List.mem_filter.mpr ⟨mt_3 (List.mem_of_getElem? (i := 46) rfl), rfl⟩
set_option maxRecDepth 100000 in
theorem mw_578 : Cond.methodLink RX6 144 yX4_isFull ∈ gw_all := List.mem_filter.mpr ⟨mt_3 (List.mem_of_getElem? (i := 47) rfl), rfl⟩
set_option maxRecDepth 100000 in
theorem mw_579 : Cond.instanceMethod yX4_isFull ∈ gw_all := List.mem_filter.mpr ⟨mt_3 (List.mem_of_getElem? (i := 48) rfl), rfl⟩
set_option maxRecDepth 100000 in
theorem mw_580 : Cond.selects RX4 yX4_isFull yX4_isFull ∈ gw_all := List.mem_filter.mpr ⟨mt_3 (List.mem_of_getElem? (i := 49) rfl), rfl⟩
set_option maxRecDepth 100000 in
theorem mw_581 : Cond.code yX4_isFull cX4_isFull 1 (some .boolean) ∈ gw_all := List.mem_filter.mpr ⟨mt_3 (List.mem_of_getElem? (i := 50) rfl), rfl⟩
set_option maxRecDepth 100000 in
theorem mw_582 : Cond.methodLink RX6 150 yX4_append ∈ gw_all := List.mem_filter.mpr ⟨mt_3 (List.mem_of_getElem? (i := 51) rfl), rfl⟩
set_option maxRecDepth 100000 in
theorem mw_583 : Cond.instanceMethod yX4_append ∈ gw_all := List.mem_filter.mpr ⟨mt_3 (List.mem_of_getElem? (i := 52) rfl), rfl⟩
set_option maxRecDepth 100000 in
theorem mw_584 : Cond.selects RX4 yX4_append yX4_append ∈ gw_all := List.mem_filter.mpr ⟨mt_3 (List.mem_of_getElem? (i := 53) rfl), rfl⟩
set_option maxRecDepth 100000 in
theorem mw_585 : Cond.code yX4_append cX4_append 3 none ∈ gw_all := List.mem_filter.mpr ⟨mt_3 (List.mem_of_getElem? (i := 54) rfl), rfl⟩
set_option maxRecDepth 100000 in
theorem mw_586 : Cond.methodLink RL 45 yX6_reserve ∈ gw_all := List.mem_filter.mpr ⟨mt_3 (List.mem_of_getElem? (i := 55) rfl), rfl⟩
set_option maxRecDepth 100000 in
theorem mw_587 : Cond.instanceMethod yX6_reserve ∈ gw_all := List.mem_filter.mpr ⟨mt_3 (List.mem_of_getElem? (i := 56) rfl), rfl⟩
set_option maxRecDepth 100000 in
theorem mw_588 : Cond.selects RX6 yX6_reserve yX6_reserve ∈ gw_all := List.mem_filter.mpr ⟨mt_3 (List.mem_of_getElem? (i := 57) rfl), rfl⟩
set_option maxRecDepth 100000 in
theorem mw_589 : Cond.code yX6_reserve cX6_reserve 9 (some .int) ∈ gw_all := List.mem_filter.mpr ⟨mt_3 (List.mem_of_getElem? (i := 58) rfl), rfl⟩
set_option maxRecDepth 100000 in
theorem mw_590 : Cond.methodLink RX6 168 yX0_set ∈ gw_all := List.mem_filter.mpr ⟨mt_3 (List.mem_of_getElem? (i := 59) rfl), rfl⟩
set_option maxRecDepth 100000 in
theorem mw_591 : Cond.methodLink RL 50 yX6_sniff ∈ gw_all := List.mem_filter.mpr ⟨mt_3 (List.mem_of_getElem? (i := 60) rfl), rfl⟩
set_option maxRecDepth 100000 in
theorem mw_592 : Cond.instanceMethod yX6_sniff ∈ gw_all := List.mem_filter.mpr ⟨mt_3 (List.mem_of_getElem? (i := 61) rfl), rfl⟩
set_option maxRecDepth 100000 in
theorem mw_593 : Cond.selects RX6 yX6_sniff yX6_sniff ∈ gw_all := List.mem_filter.mpr ⟨mt_3 (List.mem_of_getElem? (i := 62) rfl), rfl⟩
set_option maxRecDepth 100000 in
theorem mw_594 : Cond.code yX6_sniff cX6_sniff 8 (some .int) ∈ gw_all := List.mem_filter.mpr ⟨mt_3 (List.mem_of_getElem? (i := 63) rfl), rfl⟩
set_option maxRecDepth 100000 in
theorem mw_595 : Cond.methodLink RL 54 yX6_weigh ∈ gw_all := List.mem_filter.mpr ⟨mt_3 (List.mem_of_getElem? (i := 64) rfl), rfl⟩
set_option maxRecDepth 100000 in
theorem mw_596 : Cond.instanceMethod yX6_weigh ∈ gw_all := List.mem_filter.mpr ⟨mt_3 (List.mem_of_getElem? (i := 65) rfl), rfl⟩
set_option maxRecDepth 100000 in
theorem mw_597 : Cond.selects RX6 yX6_weigh yX6_weigh ∈ gw_all := List.mem_filter.mpr ⟨mt_3 (List.mem_of_getElem? (i := 66) rfl), rfl⟩
set_option maxRecDepth 100000 in
theorem mw_598 : Cond.code yX6_weigh cX6_weigh 6 (some .int) ∈ gw_all := List.mem_filter.mpr ⟨mt_3 (List.mem_of_getElem? (i := 67) rfl), rfl⟩
set_option maxRecDepth 100000 in
theorem mw_599 : Cond.methodLink RL 58 yX6_cast ∈ gw_all := List.mem_filter.mpr ⟨mt_3 (List.mem_of_getElem? (i := 68) rfl), rfl⟩
set_option maxRecDepth 100000 in
theorem mw_600 : Cond.instanceMethod yX6_cast ∈ gw_all := List.mem_filter.mpr ⟨mt_3 (List.mem_of_getElem? (i := 69) rfl), rfl⟩
set_option maxRecDepth 100000 in
theorem mw_601 : Cond.selects RX6 yX6_cast yX6_cast ∈ gw_all := List.mem_filter.mpr ⟨mt_3 (List.mem_of_getElem? (i := 70) rfl), rfl⟩
set_option maxRecDepth 100000 in
theorem mw_602 : Cond.code yX6_cast cX6_cast 4 (some .int) ∈ gw_all := List.mem_filter.mpr ⟨mt_3 (List.mem_of_getElem? (i := 71) rfl), rfl⟩
set_option maxRecDepth 100000 in
theorem mw_603 : Cond.methodLink RL 62 yX6_map ∈ gw_all := List.mem_filter.mpr ⟨mt_3 (List.mem_of_getElem? (i := 72) rfl), rfl⟩
set_option maxRecDepth 100000 in
theorem mw_604 : Cond.instanceMethod yX6_map ∈ gw_all := List.mem_filter.mpr ⟨mt_3 (List.mem_of_getElem? (i := 73) rfl), rfl⟩
set_option maxRecDepth 100000 in
theorem mw_605 : Cond.selects RX6 yX6_map yX6_map ∈ gw_all := List.mem_filter.mpr ⟨mt_3 (List.mem_of_getElem? (i := 74) rfl), rfl⟩
set_option maxRecDepth 100000 in
theorem mw_606 : Cond.code yX6_map cX6_map 5 (some .int) ∈ gw_all := List.mem_filter.mpr ⟨mt_3 (List.mem_of_getElem? (i := 75) rfl), rfl⟩
set_option maxRecDepth 100000 in
theorem mw_607 : Cond.methodLink RX6 187 yX6_isMap ∈ gw_all := List.mem_filter.mpr ⟨mt_3 (List.mem_of_getElem? (i := 76) rfl), rfl⟩
set_option maxRecDepth 100000 in
theorem mw_608 : Cond.static yX6_isMap ∈ gw_all := List.mem_filter.mpr ⟨mt_3 (List.mem_of_getElem? (i := 77) rfl), rfl⟩
set_option maxRecDepth 100000 in
theorem mw_609 : Cond.code yX6_isMap cX6_isMap 1 (some .boolean) ∈ gw_all := List.mem_filter.mpr ⟨mt_3 (List.mem_of_getElem? (i := 78) rfl), rfl⟩
set_option maxRecDepth 100000 in
theorem mw_610 : Cond.constant RX6 402 (-8388608) ∈ gw_all := List.mem_filter.mpr ⟨mt_3 (List.mem_of_getElem? (i := 79) rfl), rfl⟩
set_option maxRecDepth 100000 in
theorem mw_611 : Cond.methodLink RX6 403 yJ6_bitCount_0f7a4 ∈ gw_all := List.mem_filter.mpr ⟨mt_3 (List.mem_of_getElem? (i := 80) rfl), rfl⟩
set_option maxRecDepth 100000 in
theorem mw_612 : Cond.static yJ6_bitCount_0f7a4 ∈ gw_all := List.mem_filter.mpr ⟨mt_3 (List.mem_of_getElem? (i := 81) rfl), rfl⟩
set_option maxRecDepth 100000 in
theorem mw_613 : Cond.code yJ6_bitCount_0f7a4 cJ6_bitCount_0f7a4 1 (some .int) ∈ gw_all := List.mem_filter.mpr ⟨mt_3 (List.mem_of_getElem? (i := 82) rfl), rfl⟩
set_option maxRecDepth 100000 in
theorem mw_614 : Cond.constant RJ6 265 1431655765 ∈ gw_all := List.mem_filter.mpr ⟨mt_3 (List.mem_of_getElem? (i := 83) rfl), rfl⟩
set_option maxRecDepth 100000 in
theorem mw_615 : Cond.constant RJ6 266 858993459 ∈ gw_all := List.mem_filter.mpr ⟨mt_3 (List.mem_of_getElem? (i := 84) rfl), rfl⟩
set_option maxRecDepth 100000 in
theorem mw_616 : Cond.constant RJ6 267 252645135 ∈ gw_all := List.mem_filter.mpr ⟨mt_3 (List.mem_of_getElem? (i := 85) rfl), rfl⟩
set_option maxRecDepth 100000 in
theorem mw_617 : Cond.methodLink RX6 194 yX3_hasNext ∈ gw_all := List.mem_filter.mpr ⟨mt_3 (List.mem_of_getElem? (i := 86) rfl), rfl⟩
set_option maxRecDepth 100000 in
theorem mw_618 : Cond.instanceMethod yX3_hasNext ∈ gw_all := List.mem_filter.mpr ⟨mt_3 (List.mem_of_getElem? (i := 87) rfl), rfl⟩
set_option maxRecDepth 100000 in
theorem mw_619 : Cond.selects RX3 yX3_hasNext yX3_hasNext ∈ gw_all := List.mem_filter.mpr ⟨mt_3 (List.mem_of_getElem? (i := 88) rfl), rfl⟩
set_option maxRecDepth 100000 in
theorem mw_620 : Cond.code yX3_hasNext cX3_hasNext 1 (some .boolean) ∈ gw_all := List.mem_filter.mpr ⟨mt_3 (List.mem_of_getElem? (i := 89) rfl), rfl⟩
set_option maxRecDepth 100000 in
theorem mw_621 : Cond.methodLink RX6 199 yX6_tellMap ∈ gw_all := List.mem_filter.mpr ⟨mt_3 (List.mem_of_getElem? (i := 90) rfl), rfl⟩
set_option maxRecDepth 100000 in
theorem mw_623 : Cond.instanceMethod yX6_tellMap ∈ gw_all := List.mem_filter.mpr ⟨mt_3 (List.mem_of_getElem? (i := 92) rfl), rfl⟩
set_option maxRecDepth 100000 in
theorem mw_624 : Cond.code yX6_tellMap cX6_tellMap 4 (some .int) ∈ gw_all := List.mem_filter.mpr ⟨mt_3 (List.mem_of_getElem? (i := 93) rfl), rfl⟩
set_option maxRecDepth 100000 in
theorem mw_625 : Cond.methodLink RX6 393 yX2_tellMap ∈ gw_all := List.mem_filter.mpr ⟨mt_3 (List.mem_of_getElem? (i := 94) rfl), rfl⟩
set_option maxRecDepth 100000 in
theorem mw_626 : Cond.instanceMethod yX2_tellMap ∈ gw_all := List.mem_filter.mpr ⟨mt_3 (List.mem_of_getElem? (i := 95) rfl), rfl⟩
set_option maxRecDepth 100000 in
theorem mw_627 : Cond.selects RX2 yX2_tellMap yX2_tellMap ∈ gw_all := List.mem_filter.mpr ⟨mt_3 (List.mem_of_getElem? (i := 96) rfl), rfl⟩
set_option maxRecDepth 100000 in
theorem mw_628 : Cond.code yX2_tellMap cX2_tellMap 4 none ∈ gw_all := List.mem_filter.mpr ⟨mt_3 (List.mem_of_getElem? (i := 97) rfl), rfl⟩
set_option maxRecDepth 100000 in
theorem mw_629 : Cond.methodLink RX2 107 yX3_expect ∈ gw_all := List.mem_filter.mpr ⟨mt_3 (List.mem_of_getElem? (i := 98) rfl), rfl⟩
set_option maxRecDepth 100000 in
theorem mw_630 : Cond.instanceMethod yX3_expect ∈ gw_all := List.mem_filter.mpr ⟨mt_3 (List.mem_of_getElem? (i := 99) rfl), rfl⟩
set_option maxRecDepth 100000 in
theorem mw_631 : Cond.selects RX3 yX3_expect yX3_expect ∈ gw_all := List.mem_filter.mpr ⟨mt_3 (List.mem_of_getElem? (i := 100) rfl), rfl⟩
set_option maxRecDepth 100000 in
theorem mw_632 : Cond.code yX3_expect cX3_expect 3 none ∈ gw_all := List.mem_filter.mpr ⟨mt_3 (List.mem_of_getElem? (i := 101) rfl), rfl⟩
set_option maxRecDepth 100000 in
theorem mw_633 : Cond.methodLink RL 66 yX6_adapt ∈ gw_all := List.mem_filter.mpr ⟨mt_3 (List.mem_of_getElem? (i := 102) rfl), rfl⟩
set_option maxRecDepth 100000 in
theorem mw_634 : Cond.instanceMethod yX6_adapt ∈ gw_all := List.mem_filter.mpr ⟨mt_3 (List.mem_of_getElem? (i := 103) rfl), rfl⟩
set_option maxRecDepth 100000 in
theorem mw_635 : Cond.selects RX6 yX6_adapt yX6_adapt ∈ gw_all := List.mem_filter.mpr ⟨mt_3 (List.mem_of_getElem? (i := 104) rfl), rfl⟩
set_option maxRecDepth 100000 in
theorem mw_636 : Cond.code yX6_adapt cX6_adapt 7 (some .int) ∈ gw_all := List.mem_filter.mpr ⟨mt_3 (List.mem_of_getElem? (i := 105) rfl), rfl⟩
set_option maxRecDepth 100000 in
theorem mw_637 : Cond.methodLink RX6 203 yX2_badChannels ∈ gw_all := List.mem_filter.mpr ⟨mt_3 (List.mem_of_getElem? (i := 106) rfl), rfl⟩
set_option maxRecDepth 100000 in
theorem mw_638 : Cond.instanceMethod yX2_badChannels ∈ gw_all := List.mem_filter.mpr ⟨mt_3 (List.mem_of_getElem? (i := 107) rfl), rfl⟩
set_option maxRecDepth 100000 in
theorem mw_639 : Cond.selects RX2 yX2_badChannels yX2_badChannels ∈ gw_all := List.mem_filter.mpr ⟨mt_3 (List.mem_of_getElem? (i := 108) rfl), rfl⟩
set_option maxRecDepth 100000 in
theorem mw_640 : Cond.code yX2_badChannels cX2_badChannels 5 (some .int) ∈ gw_all := List.mem_filter.mpr ⟨mt_3 (List.mem_of_getElem? (i := 109) rfl), rfl⟩
set_option maxRecDepth 100000 in
theorem mw_641 : Cond.methodLink RX6 209 yX2_mostAnswered ∈ gw_all := List.mem_filter.mpr ⟨mt_3 (List.mem_of_getElem? (i := 110) rfl), rfl⟩
set_option maxRecDepth 100000 in
theorem mw_642 : Cond.instanceMethod yX2_mostAnswered ∈ gw_all := List.mem_filter.mpr ⟨mt_3 (List.mem_of_getElem? (i := 111) rfl), rfl⟩
set_option maxRecDepth 100000 in
theorem mw_643 : Cond.selects RX2 yX2_mostAnswered yX2_mostAnswered ∈ gw_all := List.mem_filter.mpr ⟨mt_3 (List.mem_of_getElem? (i := 112) rfl), rfl⟩
set_option maxRecDepth 100000 in
theorem mw_644 : Cond.code yX2_mostAnswered cX2_mostAnswered 6 (some .int) ∈ gw_all := List.mem_filter.mpr ⟨mt_3 (List.mem_of_getElem? (i := 113) rfl), rfl⟩
set_option maxRecDepth 100000 in
theorem mw_645 : Cond.methodLink RL 70 yX6_run ∈ gw_all := List.mem_filter.mpr ⟨mt_3 (List.mem_of_getElem? (i := 114) rfl), rfl⟩
set_option maxRecDepth 100000 in
theorem mw_646 : Cond.instanceMethod yX6_run ∈ gw_all := List.mem_filter.mpr ⟨mt_3 (List.mem_of_getElem? (i := 115) rfl), rfl⟩
set_option maxRecDepth 100000 in
theorem mw_647 : Cond.selects RX6 yX6_run yX6_run ∈ gw_all := List.mem_filter.mpr ⟨mt_3 (List.mem_of_getElem? (i := 116) rfl), rfl⟩
set_option maxRecDepth 100000 in
theorem mw_648 : Cond.code yX6_run cX6_run 2 (some .int) ∈ gw_all := List.mem_filter.mpr ⟨mt_3 (List.mem_of_getElem? (i := 117) rfl), rfl⟩
set_option maxRecDepth 100000 in
theorem mw_649 : Cond.methodLink RX6 213 yX6_hasTimeFor ∈ gw_all := List.mem_filter.mpr ⟨mt_3 (List.mem_of_getElem? (i := 118) rfl), rfl⟩
set_option maxRecDepth 100000 in
theorem mw_651 : Cond.instanceMethod yX6_hasTimeFor ∈ gw_all := List.mem_filter.mpr ⟨mt_3 (List.mem_of_getElem? (i := 120) rfl), rfl⟩
set_option maxRecDepth 100000 in
theorem mw_652 : Cond.code yX6_hasTimeFor cX6_hasTimeFor 2 (some .boolean) ∈ gw_all := List.mem_filter.mpr ⟨mt_3 (List.mem_of_getElem? (i := 121) rfl), rfl⟩
set_option maxRecDepth 100000 in
theorem mw_653 : Cond.constant RX6 338 99998 ∈ gw_all := List.mem_filter.mpr ⟨mt_3 (List.mem_of_getElem? (i := 122) rfl), rfl⟩
set_option maxRecDepth 100000 in
theorem mw_654 : Cond.methodLink RX6 216 yX5_heardInTurns ∈ gw_all := List.mem_filter.mpr ⟨mt_3 (List.mem_of_getElem? (i := 123) rfl), rfl⟩
set_option maxRecDepth 100000 in
theorem mw_655 : Cond.instanceMethod yX5_heardInTurns ∈ gw_all := List.mem_filter.mpr ⟨mt_3 (List.mem_of_getElem? (i := 124) rfl), rfl⟩
set_option maxRecDepth 100000 in
theorem mw_656 : Cond.selects RX5 yX5_heardInTurns yX5_heardInTurns ∈ gw_all := List.mem_filter.mpr ⟨mt_3 (List.mem_of_getElem? (i := 125) rfl), rfl⟩
set_option maxRecDepth 100000 in
theorem mw_657 : Cond.code yX5_heardInTurns cX5_heardInTurns 3 (some .int) ∈ gw_all := List.mem_filter.mpr ⟨mt_3 (List.mem_of_getElem? (i := 126) rfl), rfl⟩
set_option maxRecDepth 100000 in
theorem mw_658 : Cond.methodLink RX5 149 yX5_goOneTurn ∈ gw_all := List.mem_filter.mpr ⟨mt_3 (List.mem_of_getElem? (i := 127) rfl), rfl⟩
set_option maxRecDepth 100000 in
theorem mw_659 : Cond.instanceMethod yX5_goOneTurn ∈ gw_all := List.mem_filter.mpr ⟨mt_3 (List.mem_of_getElem? (i := 128) rfl), rfl⟩
set_option maxRecDepth 100000 in
theorem mw_660 : Cond.selects RX5 yX5_goOneTurn yX5_goOneTurn ∈ gw_all := List.mem_filter.mpr ⟨mt_3 (List.mem_of_getElem? (i := 129) rfl), rfl⟩
set_option maxRecDepth 100000 in
theorem mw_661 : Cond.code yX5_goOneTurn cX5_goOneTurn 2 none ∈ gw_all := List.mem_filter.mpr ⟨mt_3 (List.mem_of_getElem? (i := 130) rfl), rfl⟩
set_option maxRecDepth 100000 in
theorem mw_662 : Cond.methodLink RX5 152 yX5_changeMaps ∈ gw_all := List.mem_filter.mpr ⟨mt_3 (List.mem_of_getElem? (i := 131) rfl), rfl⟩
set_option maxRecDepth 100000 in
theorem mw_663 : Cond.instanceMethod yX5_changeMaps ∈ gw_all := List.mem_filter.mpr ⟨mt_3 (List.mem_of_getElem? (i := 132) rfl), rfl⟩
set_option maxRecDepth 100000 in
theorem mw_664 : Cond.selects RX5 yX5_changeMaps yX5_changeMaps ∈ gw_all := List.mem_filter.mpr ⟨mt_3 (List.mem_of_getElem? (i := 133) rfl), rfl⟩
set_option maxRecDepth 100000 in
theorem mw_665 : Cond.code yX5_changeMaps cX5_changeMaps 4 none ∈ gw_all := List.mem_filter.mpr ⟨mt_3 (List.mem_of_getElem? (i := 134) rfl), rfl⟩
set_option maxRecDepth 100000 in
theorem mw_666 : Cond.methodLink RX5 180 yX3_changesAt ∈ gw_all := List.mem_filter.mpr ⟨mt_3 (List.mem_of_getElem? (i := 135) rfl), rfl⟩
set_option maxRecDepth 100000 in
theorem mw_667 : Cond.instanceMethod yX3_changesAt ∈ gw_all := List.mem_filter.mpr ⟨mt_3 (List.mem_of_getElem? (i := 136) rfl), rfl⟩
set_option maxRecDepth 100000 in
theorem mw_668 : Cond.selects RX3 yX3_changesAt yX3_changesAt ∈ gw_all := List.mem_filter.mpr ⟨mt_3 (List.mem_of_getElem? (i := 137) rfl), rfl⟩
set_option maxRecDepth 100000 in
theorem mw_669 : Cond.code yX3_changesAt cX3_changesAt 2 (some .boolean) ∈ gw_all := List.mem_filter.mpr ⟨mt_3 (List.mem_of_getElem? (i := 138) rfl), rfl⟩
set_option maxRecDepth 100000 in
theorem mw_670 : Cond.methodLink RX3 22 yX3_takeAtOnce ∈ gw_all := List.mem_filter.mpr ⟨mt_3 (List.mem_of_getElem? (i := 139) rfl), rfl⟩
set_option maxRecDepth 100000 in
theorem mw_671 : Cond.instanceMethod yX3_takeAtOnce ∈ gw_all := List.mem_filter.mpr ⟨mt_3 (List.mem_of_getElem? (i := 140) rfl), rfl⟩
set_option maxRecDepth 100000 in
theorem mw_672 : Cond.selects RX3 yX3_takeAtOnce yX3_takeAtOnce ∈ gw_all := List.mem_filter.mpr ⟨mt_3 (List.mem_of_getElem? (i := 141) rfl), rfl⟩
set_option maxRecDepth 100000 in
theorem mw_673 : Cond.code yX3_takeAtOnce cX3_takeAtOnce 2 none ∈ gw_all := List.mem_filter.mpr ⟨mt_3 (List.mem_of_getElem? (i := 142) rfl), rfl⟩
set_option maxRecDepth 100000 in
theorem mw_674 : Cond.methodLink RX5 155 yX5_beginTurnOfLinks ∈ gw_all := List.mem_filter.mpr ⟨mt_3 (List.mem_of_getElem? (i := 143) rfl), rfl⟩
set_option maxRecDepth 100000 in
theorem mw_675 : Cond.instanceMethod yX5_beginTurnOfLinks ∈ gw_all := List.mem_filter.mpr ⟨mt_3 (List.mem_of_getElem? (i := 144) rfl), rfl⟩
set_option maxRecDepth 100000 in
theorem mw_676 : Cond.selects RX5 yX5_beginTurnOfLinks yX5_beginTurnOfLinks ∈ gw_all := List.mem_filter.mpr ⟨mt_3 (List.mem_of_getElem? (i := 145) rfl), rfl⟩
set_option maxRecDepth 100000 in
theorem mw_677 : Cond.code yX5_beginTurnOfLinks cX5_beginTurnOfLinks 4 none ∈ gw_all := List.mem_filter.mpr ⟨mt_3 (List.mem_of_getElem? (i := 146) rfl), rfl⟩
set_option maxRecDepth 100000 in
theorem mw_678 : Cond.methodLink RX5 186 yX0_openAt ∈ gw_all := List.mem_filter.mpr ⟨mt_3 (List.mem_of_getElem? (i := 147) rfl), rfl⟩
set_option maxRecDepth 100000 in
theorem mw_679 : Cond.instanceMethod yX0_openAt ∈ gw_all := List.mem_filter.mpr ⟨mt_3 (List.mem_of_getElem? (i := 148) rfl), rfl⟩
set_option maxRecDepth 100000 in
theorem mw_680 : Cond.selects RX0 yX0_openAt yX0_openAt ∈ gw_all := List.mem_filter.mpr ⟨mt_3 (List.mem_of_getElem? (i := 149) rfl), rfl⟩
set_option maxRecDepth 100000 in
theorem mw_681 : Cond.code yX0_openAt cX0_openAt 2 none ∈ gw_all := List.mem_filter.mpr ⟨mt_3 (List.mem_of_getElem? (i := 150) rfl), rfl⟩
set_option maxRecDepth 100000 in
theorem mw_682 : Cond.methodLink RX0 28 yX0_isDue ∈ gw_all := List.mem_filter.mpr ⟨mt_3 (List.mem_of_getElem? (i := 151) rfl), rfl⟩
set_option maxRecDepth 100000 in
theorem mw_683 : Cond.instanceMethod yX0_isDue ∈ gw_all := List.mem_filter.mpr ⟨mt_3 (List.mem_of_getElem? (i := 152) rfl), rfl⟩
set_option maxRecDepth 100000 in
theorem mw_684 : Cond.selects RX0 yX0_isDue yX0_isDue ∈ gw_all := List.mem_filter.mpr ⟨mt_3 (List.mem_of_getElem? (i := 153) rfl), rfl⟩
set_option maxRecDepth 100000 in
theorem mw_685 : Cond.code yX0_isDue cX0_isDue 2 (some .boolean) ∈ gw_all := List.mem_filter.mpr ⟨mt_3 (List.mem_of_getElem? (i := 154) rfl), rfl⟩
set_option maxRecDepth 100000 in
theorem mw_686 : Cond.methodLink RX5 189 yX5_isReadyAt ∈ gw_all := List.mem_filter.mpr ⟨mt_3 (List.mem_of_getElem? (i := 155) rfl), rfl⟩
set_option maxRecDepth 100000 in
theorem mw_687 : Cond.instanceMethod yX5_isReadyAt ∈ gw_all := List.mem_filter.mpr ⟨mt_3 (List.mem_of_getElem? (i := 156) rfl), rfl⟩
set_option maxRecDepth 100000 in
theorem mw_688 : Cond.selects RX5 yX5_isReadyAt yX5_isReadyAt ∈ gw_all := List.mem_filter.mpr ⟨mt_3 (List.mem_of_getElem? (i := 157) rfl), rfl⟩
set_option maxRecDepth 100000 in
theorem mw_689 : Cond.code yX5_isReadyAt cX5_isReadyAt 4 (some .boolean) ∈ gw_all := List.mem_filter.mpr ⟨mt_3 (List.mem_of_getElem? (i := 158) rfl), rfl⟩
set_option maxRecDepth 100000 in
theorem mw_690 : Cond.methodLink RX5 77 yX5_isPresent ∈ gw_all := List.mem_filter.mpr ⟨mt_3 (List.mem_of_getElem? (i := 159) rfl), rfl⟩
set_option maxRecDepth 100000 in
theorem mw_691 : Cond.instanceMethod yX5_isPresent ∈ gw_all := List.mem_filter.mpr ⟨mt_3 (List.mem_of_getElem? (i := 160) rfl), rfl⟩
set_option maxRecDepth 100000 in
theorem mw_692 : Cond.selects RX5 yX5_isPresent yX5_isPresent ∈ gw_all := List.mem_filter.mpr ⟨mt_3 (List.mem_of_getElem? (i := 161) rfl), rfl⟩
set_option maxRecDepth 100000 in
theorem mw_693 : Cond.code yX5_isPresent cX5_isPresent 4 (some .boolean) ∈ gw_all := List.mem_filter.mpr ⟨mt_3 (List.mem_of_getElem? (i := 162) rfl), rfl⟩
set_option maxRecDepth 100000 in
theorem mw_694 : Cond.methodLink RX5 68 yX2_holds ∈ gw_all := List.mem_filter.mpr ⟨mt_3 (List.mem_of_getElem? (i := 163) rfl), rfl⟩
set_option maxRecDepth 100000 in
theorem mw_695 : Cond.methodLink RX5 81 yX1_isAwake ∈ gw_all := List.mem_filter.mpr ⟨mt_3 (List.mem_of_getElem? (i := 164) rfl), rfl⟩
set_option maxRecDepth 100000 in
theorem mw_696 : Cond.instanceMethod yX1_isAwake ∈ gw_all := List.mem_filter.mpr ⟨mt_3 (List.mem_of_getElem? (i := 165) rfl), rfl⟩
set_option maxRecDepth 100000 in
theorem mw_697 : Cond.selects RX1 yX1_isAwake yX1_isAwake ∈ gw_all := List.mem_filter.mpr ⟨mt_3 (List.mem_of_getElem? (i := 166) rfl), rfl⟩
set_option maxRecDepth 100000 in
theorem mw_698 : Cond.code yX1_isAwake cX1_isAwake 2 (some .boolean) ∈ gw_all := List.mem_filter.mpr ⟨mt_3 (List.mem_of_getElem? (i := 167) rfl), rfl⟩
set_option maxRecDepth 100000 in
theorem mw_699 : Cond.methodLink RX5 159 yX5_chooseIn ∈ gw_all := List.mem_filter.mpr ⟨mt_3 (List.mem_of_getElem? (i := 168) rfl), rfl⟩
set_option maxRecDepth 100000 in
theorem mw_700 : Cond.instanceMethod yX5_chooseIn ∈ gw_all := List.mem_filter.mpr ⟨mt_3 (List.mem_of_getElem? (i := 169) rfl), rfl⟩
set_option maxRecDepth 100000 in
theorem mw_701 : Cond.selects RX5 yX5_chooseIn yX5_chooseIn ∈ gw_all := List.mem_filter.mpr ⟨mt_3 (List.mem_of_getElem? (i := 170) rfl), rfl⟩
set_option maxRecDepth 100000 in
theorem mw_702 : Cond.code yX5_chooseIn cX5_chooseIn 4 none ∈ gw_all := List.mem_filter.mpr ⟨mt_3 (List.mem_of_getElem? (i := 171) rfl), rfl⟩
set_option maxRecDepth 100000 in
theorem mw_703 : Cond.methodLink RX5 209 yX2_firstWithOpenFrame ∈ gw_all := List.mem_filter.mpr ⟨mt_3 (List.mem_of_getElem? (i := 172) rfl), rfl⟩
set_option maxRecDepth 100000 in
theorem mw_704 : Cond.instanceMethod yX2_firstWithOpenFrame ∈ gw_all := List.mem_filter.mpr ⟨mt_3 (List.mem_of_getElem? (i := 173) rfl), rfl⟩
set_option maxRecDepth 100000 in
theorem mw_705 : Cond.selects RX2 yX2_firstWithOpenFrame yX2_firstWithOpenFrame ∈ gw_all := List.mem_filter.mpr ⟨mt_3 (List.mem_of_getElem? (i := 174) rfl), rfl⟩
set_option maxRecDepth 100000 in
theorem mw_706 : Cond.code yX2_firstWithOpenFrame cX2_firstWithOpenFrame 2 (some .int) ∈ gw_all := List.mem_filter.mpr ⟨mt_3 (List.mem_of_getElem? (i := 175) rfl), rfl⟩
set_option maxRecDepth 100000 in
theorem mw_707 : Cond.methodLink RX5 213 yX2_firstNotKnown ∈ gw_all := List.mem_filter.mpr ⟨mt_3 (List.mem_of_getElem? (i := 176) rfl), rfl⟩
set_option maxRecDepth 100000 in
theorem mw_708 : Cond.instanceMethod yX2_firstNotKnown ∈ gw_all := List.mem_filter.mpr ⟨mt_3 (List.mem_of_getElem? (i := 177) rfl), rfl⟩
set_option maxRecDepth 100000 in
theorem mw_709 : Cond.selects RX2 yX2_firstNotKnown yX2_firstNotKnown ∈ gw_all := List.mem_filter.mpr ⟨mt_3 (List.mem_of_getElem? (i := 178) rfl), rfl⟩
set_option maxRecDepth 100000 in
theorem mw_710 : Cond.code yX2_firstNotKnown cX2_firstNotKnown 2 (some .int) ∈ gw_all := List.mem_filter.mpr ⟨mt_3 (List.mem_of_getElem? (i := 179) rfl), rfl⟩
set_option maxRecDepth 100000 in
theorem mw_711 : Cond.methodLink RX5 219 yX2_nextPolled ∈ gw_all := List.mem_filter.mpr ⟨mt_3 (List.mem_of_getElem? (i := 180) rfl), rfl⟩
set_option maxRecDepth 100000 in
theorem mw_712 : Cond.instanceMethod yX2_nextPolled ∈ gw_all := List.mem_filter.mpr ⟨mt_3 (List.mem_of_getElem? (i := 181) rfl), rfl⟩
set_option maxRecDepth 100000 in
theorem mw_713 : Cond.selects RX2 yX2_nextPolled yX2_nextPolled ∈ gw_all := List.mem_filter.mpr ⟨mt_3 (List.mem_of_getElem? (i := 182) rfl), rfl⟩
set_option maxRecDepth 100000 in
theorem mw_714 : Cond.code yX2_nextPolled cX2_nextPolled 6 (some .int) ∈ gw_all := List.mem_filter.mpr ⟨mt_3 (List.mem_of_getElem? (i := 183) rfl), rfl⟩
set_option maxRecDepth 100000 in
theorem mw_715 : Cond.methodLink RX5 162 yX5_tunePacket ∈ gw_all := List.mem_filter.mpr ⟨mt_3 (List.mem_of_getElem? (i := 184) rfl), rfl⟩
set_option maxRecDepth 100000 in
theorem mw_716 : Cond.instanceMethod yX5_tunePacket ∈ gw_all := List.mem_filter.mpr ⟨mt_3 (List.mem_of_getElem? (i := 185) rfl), rfl⟩
set_option maxRecDepth 100000 in
theorem mw_717 : Cond.selects RX5 yX5_tunePacket yX5_tunePacket ∈ gw_all := List.mem_filter.mpr ⟨mt_3 (List.mem_of_getElem? (i := 186) rfl), rfl⟩
set_option maxRecDepth 100000 in
theorem mw_718 : Cond.code yX5_tunePacket cX5_tunePacket 5 none ∈ gw_all := List.mem_filter.mpr ⟨mt_3 (List.mem_of_getElem? (i := 187) rfl), rfl⟩
set_option maxRecDepth 100000 in
theorem mw_719 : Cond.methodLink RX5 238 yX3_hasNext ∈ gw_all := List.mem_filter.mpr ⟨mt_3 (List.mem_of_getElem? (i := 188) rfl), rfl⟩
set_option maxRecDepth 100000 in
theorem mw_720 : Cond.methodLink RX5 98 yX5_hopIn ∈ gw_all := List.mem_filter.mpr ⟨mt_3 (List.mem_of_getElem? (i := 189) rfl), rfl⟩
set_option maxRecDepth 100000 in
theorem mw_721 : Cond.instanceMethod yX5_hopIn ∈ gw_all := List.mem_filter.mpr ⟨mt_3 (List.mem_of_getElem? (i := 190) rfl), rfl⟩
set_option maxRecDepth 100000 in
theorem mw_722 : Cond.selects RX5 yX5_hopIn yX5_hopIn ∈ gw_all := List.mem_filter.mpr ⟨mt_3 (List.mem_of_getElem? (i := 191) rfl), rfl⟩
set_option maxRecDepth 100000 in
theorem mw_723 : Cond.code yX5_hopIn cX5_hopIn 3 (some .int) ∈ gw_all := List.mem_filter.mpr ⟨mt_3 (List.mem_of_getElem? (i := 192) rfl), rfl⟩
set_option maxRecDepth 100000 in
theorem mw_724 : Cond.methodLink RX5 87 yX5_addressOf ∈ gw_all := List.mem_filter.mpr ⟨mt_3 (List.mem_of_getElem? (i := 193) rfl), rfl⟩
set_option maxRecDepth 100000 in
theorem mw_725 : Cond.instanceMethod yX5_addressOf ∈ gw_all := List.mem_filter.mpr ⟨mt_3 (List.mem_of_getElem? (i := 194) rfl), rfl⟩
set_option maxRecDepth 100000 in
theorem mw_726 : Cond.selects RX5 yX5_addressOf yX5_addressOf ∈ gw_all := List.mem_filter.mpr ⟨mt_3 (List.mem_of_getElem? (i := 195) rfl), rfl⟩
set_option maxRecDepth 100000 in
theorem mw_727 : Cond.code yX5_addressOf cX5_addressOf 2 (some .int) ∈ gw_all := List.mem_filter.mpr ⟨mt_3 (List.mem_of_getElem? (i := 196) rfl), rfl⟩
set_option maxRecDepth 100000 in
theorem mw_728 : Cond.methodLink RX5 84 yX5_hasRadio ∈ gw_all := List.mem_filter.mpr ⟨mt_3 (List.mem_of_getElem? (i := 197) rfl), rfl⟩
set_option maxRecDepth 100000 in
theorem nw_729 : Cond.methodLinkNest RX5 94 yX6_hopOf RX6 ∈ lw_tbl := mt_3 (List.mem_of_getElem? (i := 198) rfl)
set_option maxRecDepth 100000 in
theorem mw_730 : Cond.static yX6_hopOf ∈ gw_all := List.mem_filter.mpr ⟨mt_3 (List.mem_of_getElem? (i := 199) rfl), rfl⟩
set_option maxRecDepth 100000 in
theorem mw_731 : Cond.code yX6_hopOf cX6_hopOf 8 (some .int) ∈ gw_all := List.mem_filter.mpr ⟨mt_3 (List.mem_of_getElem? (i := 200) rfl), rfl⟩
set_option maxRecDepth 100000 in
theorem mw_732 : Cond.fieldLink RX6 408 RX6 "EXCHANGE_ONE" "[I" ∈ gw_all := List.mem_filter.mpr ⟨mt_3 (List.mem_of_getElem? (i := 201) rfl), rfl⟩
set_option maxRecDepth 100000 in
theorem nw_733 : Cond.laysStatic RX6 "EXCHANGE_ONE" "[I" ∈ lw_tbl := mt_3 (List.mem_of_getElem? (i := 202) rfl)
set_option maxRecDepth 100000 in
theorem mw_734 : Cond.fieldLink RX6 411 RX6 "EXCHANGE_OTHER" "[I" ∈ gw_all := List.mem_filter.mpr ⟨mt_3 (List.mem_of_getElem? (i := 203) rfl), rfl⟩
set_option maxRecDepth 100000 in
theorem nw_735 : Cond.laysStatic RX6 "EXCHANGE_OTHER" "[I" ∈ lw_tbl := mt_3 (List.mem_of_getElem? (i := 204) rfl)
set_option maxRecDepth 100000 in
theorem nw_736 : Cond.methodLinkNest RX5 101 yX6_byMap RX6 ∈ lw_tbl := mt_3 (List.mem_of_getElem? (i := 205) rfl)
set_option maxRecDepth 100000 in
theorem mw_737 : Cond.static yX6_byMap ∈ gw_all := List.mem_filter.mpr ⟨mt_3 (List.mem_of_getElem? (i := 206) rfl), rfl⟩
set_option maxRecDepth 100000 in
theorem mw_738 : Cond.code yX6_byMap cX6_byMap 5 (some .int) ∈ gw_all := List.mem_filter.mpr ⟨mt_3 (List.mem_of_getElem? (i := 207) rfl), rfl⟩
set_option maxRecDepth 100000 in
theorem mw_739 : Cond.methodLink RX5 165 yX5_sendPacket ∈ gw_all := List.mem_filter.mpr ⟨mt_3 (List.mem_of_getElem? (i := 208) rfl), rfl⟩
set_option maxRecDepth 100000 in
theorem mw_740 : Cond.instanceMethod yX5_sendPacket ∈ gw_all := List.mem_filter.mpr ⟨mt_3 (List.mem_of_getElem? (i := 209) rfl), rfl⟩
set_option maxRecDepth 100000 in
theorem mw_741 : Cond.selects RX5 yX5_sendPacket yX5_sendPacket ∈ gw_all := List.mem_filter.mpr ⟨mt_3 (List.mem_of_getElem? (i := 210) rfl), rfl⟩
set_option maxRecDepth 100000 in
theorem mw_742 : Cond.code yX5_sendPacket cX5_sendPacket 5 none ∈ gw_all := List.mem_filter.mpr ⟨mt_3 (List.mem_of_getElem? (i := 211) rfl), rfl⟩
set_option maxRecDepth 100000 in
theorem mw_743 : Cond.methodLink RX5 248 yX5_lossOnAir ∈ gw_all := List.mem_filter.mpr ⟨mt_3 (List.mem_of_getElem? (i := 212) rfl), rfl⟩
set_option maxRecDepth 100000 in
theorem mw_744 : Cond.instanceMethod yX5_lossOnAir ∈ gw_all := List.mem_filter.mpr ⟨mt_3 (List.mem_of_getElem? (i := 213) rfl), rfl⟩
set_option maxRecDepth 100000 in
theorem mw_745 : Cond.selects RX5 yX5_lossOnAir yX5_lossOnAir ∈ gw_all := List.mem_filter.mpr ⟨mt_3 (List.mem_of_getElem? (i := 214) rfl), rfl⟩
set_option maxRecDepth 100000 in
theorem mw_746 : Cond.code yX5_lossOnAir cX5_lossOnAir 3 (some .int) ∈ gw_all := List.mem_filter.mpr ⟨mt_3 (List.mem_of_getElem? (i := 215) rfl), rfl⟩
set_option maxRecDepth 100000 in
theorem mw_747 : Cond.methodLink RX5 229 yX5_draw ∈ gw_all := List.mem_filter.mpr ⟨mt_3 (List.mem_of_getElem? (i := 216) rfl), rfl⟩
set_option maxRecDepth 100000 in
theorem mw_748 : Cond.instanceMethod yX5_draw ∈ gw_all := List.mem_filter.mpr ⟨mt_3 (List.mem_of_getElem? (i := 217) rfl), rfl⟩
set_option maxRecDepth 100000 in
theorem mw_749 : Cond.selects RX5 yX5_draw yX5_draw ∈ gw_all := List.mem_filter.mpr ⟨mt_3 (List.mem_of_getElem? (i := 218) rfl), rfl⟩
set_option maxRecDepth 100000 in
theorem mw_750 : Cond.code yX5_draw cX5_draw 1 (some .int) ∈ gw_all := List.mem_filter.mpr ⟨mt_3 (List.mem_of_getElem? (i := 219) rfl), rfl⟩
set_option maxRecDepth 100000 in
theorem mw_751 : Cond.constant RX5 225 1000003 ∈ gw_all := List.mem_filter.mpr ⟨mt_3 (List.mem_of_getElem? (i := 220) rfl), rfl⟩
set_option maxRecDepth 100000 in
theorem mw_752 : Cond.methodLink RX5 118 yX5_noiseOn ∈ gw_all := List.mem_filter.mpr ⟨mt_3 (List.mem_of_getElem? (i := 221) rfl), rfl⟩
set_option maxRecDepth 100000 in
theorem mw_753 : Cond.instanceMethod yX5_noiseOn ∈ gw_all := List.mem_filter.mpr ⟨mt_3 (List.mem_of_getElem? (i := 222) rfl), rfl⟩
set_option maxRecDepth 100000 in
theorem mw_754 : Cond.selects RX5 yX5_noiseOn yX5_noiseOn ∈ gw_all := List.mem_filter.mpr ⟨mt_3 (List.mem_of_getElem? (i := 223) rfl), rfl⟩
set_option maxRecDepth 100000 in
theorem mw_755 : Cond.code yX5_noiseOn cX5_noiseOn 2 (some .int) ∈ gw_all := List.mem_filter.mpr ⟨mt_3 (List.mem_of_getElem? (i := 224) rfl), rfl⟩
set_option maxRecDepth 100000 in
theorem mw_756 : Cond.methodLink RX5 251 yX2_tallySent ∈ gw_all := List.mem_filter.mpr ⟨mt_3 (List.mem_of_getElem? (i := 225) rfl), rfl⟩
set_option maxRecDepth 100000 in
theorem mw_757 : Cond.instanceMethod yX2_tallySent ∈ gw_all := List.mem_filter.mpr ⟨mt_3 (List.mem_of_getElem? (i := 226) rfl), rfl⟩
set_option maxRecDepth 100000 in
theorem mw_758 : Cond.selects RX2 yX2_tallySent yX2_tallySent ∈ gw_all := List.mem_filter.mpr ⟨mt_3 (List.mem_of_getElem? (i := 227) rfl), rfl⟩
set_option maxRecDepth 100000 in
theorem mw_759 : Cond.code yX2_tallySent cX2_tallySent 1 none ∈ gw_all := List.mem_filter.mpr ⟨mt_3 (List.mem_of_getElem? (i := 228) rfl), rfl⟩
set_option maxRecDepth 100000 in
theorem mw_760 : Cond.methodLink RX5 168 yX5_hearPacket ∈ gw_all := List.mem_filter.mpr ⟨mt_3 (List.mem_of_getElem? (i := 229) rfl), rfl⟩
set_option maxRecDepth 100000 in
theorem mw_761 : Cond.instanceMethod yX5_hearPacket ∈ gw_all := List.mem_filter.mpr ⟨mt_3 (List.mem_of_getElem? (i := 230) rfl), rfl⟩
set_option maxRecDepth 100000 in
theorem mw_762 : Cond.selects RX5 yX5_hearPacket yX5_hearPacket ∈ gw_all := List.mem_filter.mpr ⟨mt_3 (List.mem_of_getElem? (i := 231) rfl), rfl⟩
set_option maxRecDepth 100000 in
theorem mw_763 : Cond.code yX5_hearPacket cX5_hearPacket 4 none ∈ gw_all := List.mem_filter.mpr ⟨mt_3 (List.mem_of_getElem? (i := 232) rfl), rfl⟩
set_option maxRecDepth 100000 in
theorem mw_764 : Cond.methodLink RX5 257 yX2_endCastTurn ∈ gw_all := List.mem_filter.mpr ⟨mt_3 (List.mem_of_getElem? (i := 233) rfl), rfl⟩
set_option maxRecDepth 100000 in
theorem mw_765 : Cond.instanceMethod yX2_endCastTurn ∈ gw_all := List.mem_filter.mpr ⟨mt_3 (List.mem_of_getElem? (i := 234) rfl), rfl⟩
set_option maxRecDepth 100000 in
theorem mw_766 : Cond.selects RX2 yX2_endCastTurn yX2_endCastTurn ∈ gw_all := List.mem_filter.mpr ⟨mt_3 (List.mem_of_getElem? (i := 235) rfl), rfl⟩
set_option maxRecDepth 100000 in
theorem mw_767 : Cond.code yX2_endCastTurn cX2_endCastTurn 3 none ∈ gw_all := List.mem_filter.mpr ⟨mt_3 (List.mem_of_getElem? (i := 236) rfl), rfl⟩
set_option maxRecDepth 100000 in
theorem nw_768 : Cond.methodLinkNest RX2 133 yX6_byMap RX6 ∈ lw_tbl := mt_3 (List.mem_of_getElem? (i := 237) rfl)
set_option maxRecDepth 100000 in
theorem mw_769 : Cond.methodLink RX2 137 yX1_hearCast ∈ gw_all := List.mem_filter.mpr ⟨mt_3 (List.mem_of_getElem? (i := 238) rfl), rfl⟩
set_option maxRecDepth 100000 in
theorem mw_770 : Cond.instanceMethod yX1_hearCast ∈ gw_all := List.mem_filter.mpr ⟨mt_3 (List.mem_of_getElem? (i := 239) rfl), rfl⟩
set_option maxRecDepth 100000 in
theorem mw_771 : Cond.selects RX1 yX1_hearCast yX1_hearCast ∈ gw_all := List.mem_filter.mpr ⟨mt_4 (List.mem_of_getElem? (i := 0) rfl), rfl⟩
set_option maxRecDepth 100000 in
theorem mw_772 : Cond.code yX1_hearCast cX1_hearCast 3 none ∈ gw_all := List.mem_filter.mpr ⟨mt_4 (List.mem_of_getElem? (i := 1) rfl), rfl⟩
set_option maxRecDepth 100000 in
theorem mw_773 : Cond.methodLink RX2 140 yX2_dropFirstCast ∈ gw_all := List.mem_filter.mpr ⟨mt_4 (List.mem_of_getElem? (i := 2) rfl), rfl⟩
set_option maxRecDepth 100000 in
theorem mw_774 : Cond.instanceMethod yX2_dropFirstCast ∈ gw_all := List.mem_filter.mpr ⟨mt_4 (List.mem_of_getElem? (i := 3) rfl), rfl⟩
set_option maxRecDepth 100000 in
theorem mw_775 : Cond.selects RX2 yX2_dropFirstCast yX2_dropFirstCast ∈ gw_all := List.mem_filter.mpr ⟨mt_4 (List.mem_of_getElem? (i := 4) rfl), rfl⟩
set_option maxRecDepth 100000 in
theorem mw_776 : Cond.code yX2_dropFirstCast cX2_dropFirstCast 2 none ∈ gw_all := List.mem_filter.mpr ⟨mt_4 (List.mem_of_getElem? (i := 5) rfl), rfl⟩
set_option maxRecDepth 100000 in
theorem mw_777 : Cond.methodLink RX5 263 yX4_takeFirst ∈ gw_all := List.mem_filter.mpr ⟨mt_4 (List.mem_of_getElem? (i := 6) rfl), rfl⟩
set_option maxRecDepth 100000 in
theorem mw_778 : Cond.instanceMethod yX4_takeFirst ∈ gw_all := List.mem_filter.mpr ⟨mt_4 (List.mem_of_getElem? (i := 7) rfl), rfl⟩
set_option maxRecDepth 100000 in
theorem mw_779 : Cond.selects RX4 yX4_takeFirst yX4_takeFirst ∈ gw_all := List.mem_filter.mpr ⟨mt_4 (List.mem_of_getElem? (i := 8) rfl), rfl⟩
set_option maxRecDepth 100000 in
theorem mw_780 : Cond.code yX4_takeFirst cX4_takeFirst 3 none ∈ gw_all := List.mem_filter.mpr ⟨mt_4 (List.mem_of_getElem? (i := 9) rfl), rfl⟩
set_option maxRecDepth 100000 in
theorem mw_781 : Cond.methodLink RX4 43 yJ9_max_7cf53 ∈ gw_all := List.mem_filter.mpr ⟨mt_4 (List.mem_of_getElem? (i := 10) rfl), rfl⟩
set_option maxRecDepth 100000 in
theorem mw_782 : Cond.static yJ9_max_7cf53 ∈ gw_all := List.mem_filter.mpr ⟨mt_4 (List.mem_of_getElem? (i := 11) rfl), rfl⟩
set_option maxRecDepth 100000 in
theorem mw_783 : Cond.code yJ9_max_7cf53 cJ9_max_7cf53 2 (some .int) ∈ gw_all := List.mem_filter.mpr ⟨mt_4 (List.mem_of_getElem? (i := 12) rfl), rfl⟩
set_option maxRecDepth 100000 in
theorem mw_784 : Cond.methodLink RX5 266 yX4_hearFirst ∈ gw_all := List.mem_filter.mpr ⟨mt_4 (List.mem_of_getElem? (i := 13) rfl), rfl⟩
set_option maxRecDepth 100000 in
theorem mw_785 : Cond.instanceMethod yX4_hearFirst ∈ gw_all := List.mem_filter.mpr ⟨mt_4 (List.mem_of_getElem? (i := 14) rfl), rfl⟩
set_option maxRecDepth 100000 in
theorem mw_786 : Cond.selects RX4 yX4_hearFirst yX4_hearFirst ∈ gw_all := List.mem_filter.mpr ⟨mt_4 (List.mem_of_getElem? (i := 15) rfl), rfl⟩
set_option maxRecDepth 100000 in
theorem mw_787 : Cond.code yX4_hearFirst cX4_hearFirst 1 (some .boolean) ∈ gw_all := List.mem_filter.mpr ⟨mt_4 (List.mem_of_getElem? (i := 16) rfl), rfl⟩
set_option maxRecDepth 100000 in
theorem mw_788 : Cond.methodLink RX5 269 yX5_passOn ∈ gw_all := List.mem_filter.mpr ⟨mt_4 (List.mem_of_getElem? (i := 17) rfl), rfl⟩
set_option maxRecDepth 100000 in
theorem mw_789 : Cond.instanceMethod yX5_passOn ∈ gw_all := List.mem_filter.mpr ⟨mt_4 (List.mem_of_getElem? (i := 18) rfl), rfl⟩
set_option maxRecDepth 100000 in
theorem mw_790 : Cond.selects RX5 yX5_passOn yX5_passOn ∈ gw_all := List.mem_filter.mpr ⟨mt_4 (List.mem_of_getElem? (i := 19) rfl), rfl⟩
set_option maxRecDepth 100000 in
theorem mw_791 : Cond.code yX5_passOn cX5_passOn 5 none ∈ gw_all := List.mem_filter.mpr ⟨mt_4 (List.mem_of_getElem? (i := 20) rfl), rfl⟩
set_option maxRecDepth 100000 in
theorem mw_792 : Cond.methodLink RX5 280 yX2_linkOfRadio ∈ gw_all := List.mem_filter.mpr ⟨mt_4 (List.mem_of_getElem? (i := 21) rfl), rfl⟩
set_option maxRecDepth 100000 in
theorem mw_793 : Cond.instanceMethod yX2_linkOfRadio ∈ gw_all := List.mem_filter.mpr ⟨mt_4 (List.mem_of_getElem? (i := 22) rfl), rfl⟩
set_option maxRecDepth 100000 in
theorem mw_794 : Cond.selects RX2 yX2_linkOfRadio yX2_linkOfRadio ∈ gw_all := List.mem_filter.mpr ⟨mt_4 (List.mem_of_getElem? (i := 23) rfl), rfl⟩
set_option maxRecDepth 100000 in
theorem mw_795 : Cond.code yX2_linkOfRadio cX2_linkOfRadio 3 (some (.object "HopNet$Link")) ∈ gw_all := List.mem_filter.mpr ⟨mt_4 (List.mem_of_getElem? (i := 24) rfl), rfl⟩
set_option maxRecDepth 100000 in
theorem mw_796 : Cond.methodLink RX5 283 yX4_isFull ∈ gw_all := List.mem_filter.mpr ⟨mt_4 (List.mem_of_getElem? (i := 25) rfl), rfl⟩
set_option maxRecDepth 100000 in
theorem mw_797 : Cond.methodLink RX5 286 yX4_append ∈ gw_all := List.mem_filter.mpr ⟨mt_4 (List.mem_of_getElem? (i := 26) rfl), rfl⟩
set_option maxRecDepth 100000 in
theorem mw_798 : Cond.methodLink RX5 273 yX1_hearMapOf ∈ gw_all := List.mem_filter.mpr ⟨mt_4 (List.mem_of_getElem? (i := 27) rfl), rfl⟩
set_option maxRecDepth 100000 in
theorem mw_799 : Cond.instanceMethod yX1_hearMapOf ∈ gw_all := List.mem_filter.mpr ⟨mt_4 (List.mem_of_getElem? (i := 28) rfl), rfl⟩
set_option maxRecDepth 100000 in
theorem mw_800 : Cond.selects RX1 yX1_hearMapOf yX1_hearMapOf ∈ gw_all := List.mem_filter.mpr ⟨mt_4 (List.mem_of_getElem? (i := 29) rfl), rfl⟩
set_option maxRecDepth 100000 in
theorem mw_801 : Cond.code yX1_hearMapOf cX1_hearMapOf 2 none ∈ gw_all := List.mem_filter.mpr ⟨mt_4 (List.mem_of_getElem? (i := 30) rfl), rfl⟩
set_option maxRecDepth 100000 in
theorem mw_802 : Cond.methodLink RX1 94 yX3_hasNext ∈ gw_all := List.mem_filter.mpr ⟨mt_4 (List.mem_of_getElem? (i := 31) rfl), rfl⟩
set_option maxRecDepth 100000 in
theorem mw_803 : Cond.methodLink RX1 104 yX3_expect ∈ gw_all := List.mem_filter.mpr ⟨mt_4 (List.mem_of_getElem? (i := 32) rfl), rfl⟩
set_option maxRecDepth 100000 in
theorem mw_804 : Cond.methodLink RX1 111 yX3_takeAtOnce ∈ gw_all := List.mem_filter.mpr ⟨mt_4 (List.mem_of_getElem? (i := 33) rfl), rfl⟩
set_option maxRecDepth 100000 in
theorem mw_805 : Cond.methodLink RX5 171 yX5_tuneAnswer ∈ gw_all := List.mem_filter.mpr ⟨mt_4 (List.mem_of_getElem? (i := 34) rfl), rfl⟩
set_option maxRecDepth 100000 in
theorem mw_806 : Cond.instanceMethod yX5_tuneAnswer ∈ gw_all := List.mem_filter.mpr ⟨mt_4 (List.mem_of_getElem? (i := 35) rfl), rfl⟩
set_option maxRecDepth 100000 in
theorem mw_807 : Cond.selects RX5 yX5_tuneAnswer yX5_tuneAnswer ∈ gw_all := List.mem_filter.mpr ⟨mt_4 (List.mem_of_getElem? (i := 36) rfl), rfl⟩
set_option maxRecDepth 100000 in
theorem mw_808 : Cond.code yX5_tuneAnswer cX5_tuneAnswer 4 none ∈ gw_all := List.mem_filter.mpr ⟨mt_4 (List.mem_of_getElem? (i := 37) rfl), rfl⟩
set_option maxRecDepth 100000 in
theorem mw_809 : Cond.methodLink RX5 174 yX5_sendAnswer ∈ gw_all := List.mem_filter.mpr ⟨mt_4 (List.mem_of_getElem? (i := 38) rfl), rfl⟩
set_option maxRecDepth 100000 in
theorem mw_810 : Cond.instanceMethod yX5_sendAnswer ∈ gw_all := List.mem_filter.mpr ⟨mt_4 (List.mem_of_getElem? (i := 39) rfl), rfl⟩
set_option maxRecDepth 100000 in
theorem mw_811 : Cond.selects RX5 yX5_sendAnswer yX5_sendAnswer ∈ gw_all := List.mem_filter.mpr ⟨mt_4 (List.mem_of_getElem? (i := 40) rfl), rfl⟩
set_option maxRecDepth 100000 in
theorem mw_812 : Cond.code yX5_sendAnswer cX5_sendAnswer 5 none ∈ gw_all := List.mem_filter.mpr ⟨mt_4 (List.mem_of_getElem? (i := 41) rfl), rfl⟩
set_option maxRecDepth 100000 in
theorem mw_813 : Cond.methodLink RX5 290 yX5_hearAnswer ∈ gw_all := List.mem_filter.mpr ⟨mt_4 (List.mem_of_getElem? (i := 42) rfl), rfl⟩
set_option maxRecDepth 100000 in
theorem mw_814 : Cond.instanceMethod yX5_hearAnswer ∈ gw_all := List.mem_filter.mpr ⟨mt_4 (List.mem_of_getElem? (i := 43) rfl), rfl⟩
set_option maxRecDepth 100000 in
theorem mw_815 : Cond.selects RX5 yX5_hearAnswer yX5_hearAnswer ∈ gw_all := List.mem_filter.mpr ⟨mt_4 (List.mem_of_getElem? (i := 44) rfl), rfl⟩
set_option maxRecDepth 100000 in
theorem mw_816 : Cond.code yX5_hearAnswer cX5_hearAnswer 3 none ∈ gw_all := List.mem_filter.mpr ⟨mt_4 (List.mem_of_getElem? (i := 45) rfl), rfl⟩
set_option maxRecDepth 100000 in
theorem mw_817 : Cond.methodLink RX5 294 yX2_tallyAnswered ∈ gw_all := List.mem_filter.mpr ⟨mt_4 (List.mem_of_getElem? (i := 46) rfl), rfl⟩
set_option maxRecDepth 100000 in
theorem mw_818 : Cond.instanceMethod yX2_tallyAnswered ∈ gw_all := List.mem_filter.mpr ⟨mt_4 (List.mem_of_getElem? (i := 47) rfl), rfl⟩
set_option maxRecDepth 100000 in
theorem mw_819 : Cond.selects RX2 yX2_tallyAnswered yX2_tallyAnswered ∈ gw_all := List.mem_filter.mpr ⟨mt_4 (List.mem_of_getElem? (i := 48) rfl), rfl⟩
set_option maxRecDepth 100000 in
theorem mw_820 : Cond.code yX2_tallyAnswered cX2_tallyAnswered 1 none ∈ gw_all := List.mem_filter.mpr ⟨mt_4 (List.mem_of_getElem? (i := 49) rfl), rfl⟩
set_option maxRecDepth 100000 in
theorem mw_821 : Cond.methodLink RX5 303 yX0_answer ∈ gw_all := List.mem_filter.mpr ⟨mt_4 (List.mem_of_getElem? (i := 50) rfl), rfl⟩
set_option maxRecDepth 100000 in
theorem mw_822 : Cond.instanceMethod yX0_answer ∈ gw_all := List.mem_filter.mpr ⟨mt_4 (List.mem_of_getElem? (i := 51) rfl), rfl⟩
set_option maxRecDepth 100000 in
theorem mw_823 : Cond.selects RX0 yX0_answer yX0_answer ∈ gw_all := List.mem_filter.mpr ⟨mt_4 (List.mem_of_getElem? (i := 52) rfl), rfl⟩
set_option maxRecDepth 100000 in
theorem mw_824 : Cond.code yX0_answer cX0_answer 1 none ∈ gw_all := List.mem_filter.mpr ⟨mt_4 (List.mem_of_getElem? (i := 53) rfl), rfl⟩
set_option maxRecDepth 100000 in
theorem mw_825 : Cond.methodLink RX5 177 yX5_endTurnOfLinks ∈ gw_all := List.mem_filter.mpr ⟨mt_4 (List.mem_of_getElem? (i := 54) rfl), rfl⟩
set_option maxRecDepth 100000 in
theorem mw_826 : Cond.instanceMethod yX5_endTurnOfLinks ∈ gw_all := List.mem_filter.mpr ⟨mt_4 (List.mem_of_getElem? (i := 55) rfl), rfl⟩
set_option maxRecDepth 100000 in
theorem mw_827 : Cond.selects RX5 yX5_endTurnOfLinks yX5_endTurnOfLinks ∈ gw_all := List.mem_filter.mpr ⟨mt_4 (List.mem_of_getElem? (i := 56) rfl), rfl⟩
set_option maxRecDepth 100000 in
theorem mw_828 : Cond.code yX5_endTurnOfLinks cX5_endTurnOfLinks 3 none ∈ gw_all := List.mem_filter.mpr ⟨mt_4 (List.mem_of_getElem? (i := 57) rfl), rfl⟩
set_option maxRecDepth 100000 in
theorem mw_829 : Cond.methodLink RX5 200 yX0_endTurn ∈ gw_all := List.mem_filter.mpr ⟨mt_4 (List.mem_of_getElem? (i := 58) rfl), rfl⟩
set_option maxRecDepth 100000 in
theorem mw_830 : Cond.instanceMethod yX0_endTurn ∈ gw_all := List.mem_filter.mpr ⟨mt_4 (List.mem_of_getElem? (i := 59) rfl), rfl⟩
set_option maxRecDepth 100000 in
theorem mw_831 : Cond.selects RX0 yX0_endTurn yX0_endTurn ∈ gw_all := List.mem_filter.mpr ⟨mt_4 (List.mem_of_getElem? (i := 60) rfl), rfl⟩
set_option maxRecDepth 100000 in
theorem mw_832 : Cond.code yX0_endTurn cX0_endTurn 1 none ∈ gw_all := List.mem_filter.mpr ⟨mt_4 (List.mem_of_getElem? (i := 61) rfl), rfl⟩
set_option maxRecDepth 100000 in
theorem mw_833 : Cond.methodLink RL 74 yX6_undo ∈ gw_all := List.mem_filter.mpr ⟨mt_4 (List.mem_of_getElem? (i := 62) rfl), rfl⟩
set_option maxRecDepth 100000 in
theorem mw_834 : Cond.instanceMethod yX6_undo ∈ gw_all := List.mem_filter.mpr ⟨mt_4 (List.mem_of_getElem? (i := 63) rfl), rfl⟩
set_option maxRecDepth 100000 in
theorem mw_835 : Cond.selects RX6 yX6_undo yX6_undo ∈ gw_all := List.mem_filter.mpr ⟨mt_4 (List.mem_of_getElem? (i := 64) rfl), rfl⟩
set_option maxRecDepth 100000 in
theorem mw_836 : Cond.code yX6_undo cX6_undo 1 (some .int) ∈ gw_all := List.mem_filter.mpr ⟨mt_4 (List.mem_of_getElem? (i := 65) rfl), rfl⟩
set_option maxRecDepth 100000 in
theorem mw_837 : Cond.methodLink RL 79 yX6_image ∈ gw_all := List.mem_filter.mpr ⟨mt_4 (List.mem_of_getElem? (i := 66) rfl), rfl⟩
set_option maxRecDepth 100000 in
theorem mw_838 : Cond.instanceMethod yX6_image ∈ gw_all := List.mem_filter.mpr ⟨mt_4 (List.mem_of_getElem? (i := 67) rfl), rfl⟩
set_option maxRecDepth 100000 in
theorem mw_839 : Cond.selects RX6 yX6_image yX6_image ∈ gw_all := List.mem_filter.mpr ⟨mt_4 (List.mem_of_getElem? (i := 68) rfl), rfl⟩
set_option maxRecDepth 100000 in
theorem mw_840 : Cond.code yX6_image cX6_image 2 (some .int) ∈ gw_all := List.mem_filter.mpr ⟨mt_4 (List.mem_of_getElem? (i := 69) rfl), rfl⟩
set_option maxRecDepth 100000 in
theorem mw_841 : Cond.methodLink RL 83 yX6_back ∈ gw_all := List.mem_filter.mpr ⟨mt_4 (List.mem_of_getElem? (i := 70) rfl), rfl⟩
set_option maxRecDepth 100000 in
theorem mw_842 : Cond.instanceMethod yX6_back ∈ gw_all := List.mem_filter.mpr ⟨mt_4 (List.mem_of_getElem? (i := 71) rfl), rfl⟩
set_option maxRecDepth 100000 in
theorem mw_843 : Cond.selects RX6 yX6_back yX6_back ∈ gw_all := List.mem_filter.mpr ⟨mt_4 (List.mem_of_getElem? (i := 72) rfl), rfl⟩
set_option maxRecDepth 100000 in
theorem mw_844 : Cond.code yX6_back cX6_back 2 (some .int) ∈ gw_all := List.mem_filter.mpr ⟨mt_4 (List.mem_of_getElem? (i := 73) rfl), rfl⟩
set_option maxRecDepth 100000 in
theorem mw_845 : Cond.methodLink RL 87 yX6_kernel ∈ gw_all := List.mem_filter.mpr ⟨mt_4 (List.mem_of_getElem? (i := 74) rfl), rfl⟩
set_option maxRecDepth 100000 in
theorem mw_846 : Cond.instanceMethod yX6_kernel ∈ gw_all := List.mem_filter.mpr ⟨mt_4 (List.mem_of_getElem? (i := 75) rfl), rfl⟩
set_option maxRecDepth 100000 in
theorem mw_847 : Cond.selects RX6 yX6_kernel yX6_kernel ∈ gw_all := List.mem_filter.mpr ⟨mt_4 (List.mem_of_getElem? (i := 76) rfl), rfl⟩
set_option maxRecDepth 100000 in
theorem mw_848 : Cond.code yX6_kernel cX6_kernel 3 (some .int) ∈ gw_all := List.mem_filter.mpr ⟨mt_4 (List.mem_of_getElem? (i := 77) rfl), rfl⟩
set_option maxRecDepth 100000 in
theorem mw_849 : Cond.constant RX6 223 999999 ∈ gw_all := List.mem_filter.mpr ⟨mt_4 (List.mem_of_getElem? (i := 78) rfl), rfl⟩
set_option maxRecDepth 100000 in
theorem mw_850 : Cond.methodLink RX6 224 yX6_hopOf ∈ gw_all := List.mem_filter.mpr ⟨mt_4 (List.mem_of_getElem? (i := 79) rfl), rfl⟩
set_option maxRecDepth 100000 in
theorem mw_851 : Cond.methodLink RL 91 yX6_hop ∈ gw_all := List.mem_filter.mpr ⟨mt_4 (List.mem_of_getElem? (i := 80) rfl), rfl⟩
set_option maxRecDepth 100000 in
theorem mw_852 : Cond.instanceMethod yX6_hop ∈ gw_all := List.mem_filter.mpr ⟨mt_4 (List.mem_of_getElem? (i := 81) rfl), rfl⟩
set_option maxRecDepth 100000 in
theorem mw_853 : Cond.selects RX6 yX6_hop yX6_hop ∈ gw_all := List.mem_filter.mpr ⟨mt_4 (List.mem_of_getElem? (i := 82) rfl), rfl⟩
set_option maxRecDepth 100000 in
theorem mw_854 : Cond.code yX6_hop cX6_hop 5 (some .int) ∈ gw_all := List.mem_filter.mpr ⟨mt_4 (List.mem_of_getElem? (i := 83) rfl), rfl⟩
set_option maxRecDepth 100000 in
theorem mw_855 : Cond.methodLink RX6 228 yX6_planOf ∈ gw_all := List.mem_filter.mpr ⟨mt_4 (List.mem_of_getElem? (i := 84) rfl), rfl⟩
set_option maxRecDepth 100000 in
theorem mw_857 : Cond.instanceMethod yX6_planOf ∈ gw_all := List.mem_filter.mpr ⟨mt_4 (List.mem_of_getElem? (i := 86) rfl), rfl⟩
set_option maxRecDepth 100000 in
theorem mw_858 : Cond.code yX6_planOf cX6_planOf 5 (some (.object "HopNet$Plan")) ∈ gw_all := List.mem_filter.mpr ⟨mt_4 (List.mem_of_getElem? (i := 87) rfl), rfl⟩
set_option maxRecDepth 100000 in
theorem mw_859 : Cond.constant RX6 232 199999 ∈ gw_all := List.mem_filter.mpr ⟨mt_4 (List.mem_of_getElem? (i := 88) rfl), rfl⟩
set_option maxRecDepth 100000 in
theorem mw_860 : Cond.methodLink RX6 233 yX5_channelBy ∈ gw_all := List.mem_filter.mpr ⟨mt_4 (List.mem_of_getElem? (i := 89) rfl), rfl⟩
set_option maxRecDepth 100000 in
theorem mw_861 : Cond.instanceMethod yX5_channelBy ∈ gw_all := List.mem_filter.mpr ⟨mt_4 (List.mem_of_getElem? (i := 90) rfl), rfl⟩
set_option maxRecDepth 100000 in
theorem mw_862 : Cond.selects RX5 yX5_channelBy yX5_channelBy ∈ gw_all := List.mem_filter.mpr ⟨mt_4 (List.mem_of_getElem? (i := 91) rfl), rfl⟩
set_option maxRecDepth 100000 in
theorem mw_863 : Cond.code yX5_channelBy cX5_channelBy 4 (some .int) ∈ gw_all := List.mem_filter.mpr ⟨mt_4 (List.mem_of_getElem? (i := 92) rfl), rfl⟩
set_option maxRecDepth 100000 in
theorem mw_864 : Cond.methodLink RL 95 yX6_alike ∈ gw_all := List.mem_filter.mpr ⟨mt_4 (List.mem_of_getElem? (i := 93) rfl), rfl⟩
set_option maxRecDepth 100000 in
theorem mw_865 : Cond.instanceMethod yX6_alike ∈ gw_all := List.mem_filter.mpr ⟨mt_4 (List.mem_of_getElem? (i := 94) rfl), rfl⟩
set_option maxRecDepth 100000 in
theorem mw_866 : Cond.selects RX6 yX6_alike yX6_alike ∈ gw_all := List.mem_filter.mpr ⟨mt_4 (List.mem_of_getElem? (i := 95) rfl), rfl⟩
set_option maxRecDepth 100000 in
theorem mw_867 : Cond.code yX6_alike cX6_alike 6 (some .int) ∈ gw_all := List.mem_filter.mpr ⟨mt_4 (List.mem_of_getElem? (i := 96) rfl), rfl⟩
set_option maxRecDepth 100000 in
theorem mw_868 : Cond.methodLink RX6 238 yX3_isLike ∈ gw_all := List.mem_filter.mpr ⟨mt_4 (List.mem_of_getElem? (i := 97) rfl), rfl⟩
set_option maxRecDepth 100000 in
theorem mw_869 : Cond.instanceMethod yX3_isLike ∈ gw_all := List.mem_filter.mpr ⟨mt_4 (List.mem_of_getElem? (i := 98) rfl), rfl⟩
set_option maxRecDepth 100000 in
theorem mw_870 : Cond.selects RX3 yX3_isLike yX3_isLike ∈ gw_all := List.mem_filter.mpr ⟨mt_4 (List.mem_of_getElem? (i := 99) rfl), rfl⟩
set_option maxRecDepth 100000 in
theorem mw_871 : Cond.code yX3_isLike cX3_isLike 2 (some .boolean) ∈ gw_all := List.mem_filter.mpr ⟨mt_4 (List.mem_of_getElem? (i := 100) rfl), rfl⟩
set_option maxRecDepth 100000 in
theorem mw_872 : Cond.methodLink RX6 242 yX6_bit ∈ gw_all := List.mem_filter.mpr ⟨mt_4 (List.mem_of_getElem? (i := 101) rfl), rfl⟩
set_option maxRecDepth 100000 in
theorem mw_873 : Cond.static yX6_bit ∈ gw_all := List.mem_filter.mpr ⟨mt_4 (List.mem_of_getElem? (i := 102) rfl), rfl⟩
set_option maxRecDepth 100000 in
theorem mw_874 : Cond.code yX6_bit cX6_bit 1 (some .int) ∈ gw_all := List.mem_filter.mpr ⟨mt_4 (List.mem_of_getElem? (i := 103) rfl), rfl⟩
set_option maxRecDepth 100000 in
theorem mw_875 : Cond.methodLink RL 99 yX6_mapOf ∈ gw_all := List.mem_filter.mpr ⟨mt_4 (List.mem_of_getElem? (i := 104) rfl), rfl⟩
set_option maxRecDepth 100000 in
theorem mw_876 : Cond.instanceMethod yX6_mapOf ∈ gw_all := List.mem_filter.mpr ⟨mt_4 (List.mem_of_getElem? (i := 105) rfl), rfl⟩
set_option maxRecDepth 100000 in
theorem mw_877 : Cond.selects RX6 yX6_mapOf yX6_mapOf ∈ gw_all := List.mem_filter.mpr ⟨mt_4 (List.mem_of_getElem? (i := 106) rfl), rfl⟩
set_option maxRecDepth 100000 in
theorem mw_878 : Cond.code yX6_mapOf cX6_mapOf 5 (some .int) ∈ gw_all := List.mem_filter.mpr ⟨mt_4 (List.mem_of_getElem? (i := 107) rfl), rfl⟩
set_option maxRecDepth 100000 in
theorem mw_879 : Cond.methodLink RL 103 yX6_meets ∈ gw_all := List.mem_filter.mpr ⟨mt_4 (List.mem_of_getElem? (i := 108) rfl), rfl⟩
set_option maxRecDepth 100000 in
theorem mw_880 : Cond.instanceMethod yX6_meets ∈ gw_all := List.mem_filter.mpr ⟨mt_4 (List.mem_of_getElem? (i := 109) rfl), rfl⟩
set_option maxRecDepth 100000 in
theorem mw_881 : Cond.selects RX6 yX6_meets yX6_meets ∈ gw_all := List.mem_filter.mpr ⟨mt_4 (List.mem_of_getElem? (i := 110) rfl), rfl⟩
set_option maxRecDepth 100000 in
theorem mw_882 : Cond.code yX6_meets cX6_meets 2 (some .int) ∈ gw_all := List.mem_filter.mpr ⟨mt_4 (List.mem_of_getElem? (i := 111) rfl), rfl⟩
set_option maxRecDepth 100000 in
theorem mw_883 : Cond.methodLink RX6 259 yX5_hasBothNets ∈ gw_all := List.mem_filter.mpr ⟨mt_4 (List.mem_of_getElem? (i := 112) rfl), rfl⟩
set_option maxRecDepth 100000 in
theorem mw_884 : Cond.instanceMethod yX5_hasBothNets ∈ gw_all := List.mem_filter.mpr ⟨mt_4 (List.mem_of_getElem? (i := 113) rfl), rfl⟩
set_option maxRecDepth 100000 in
theorem mw_885 : Cond.selects RX5 yX5_hasBothNets yX5_hasBothNets ∈ gw_all := List.mem_filter.mpr ⟨mt_4 (List.mem_of_getElem? (i := 114) rfl), rfl⟩
set_option maxRecDepth 100000 in
theorem mw_886 : Cond.code yX5_hasBothNets cX5_hasBothNets 1 (some .boolean) ∈ gw_all := List.mem_filter.mpr ⟨mt_4 (List.mem_of_getElem? (i := 115) rfl), rfl⟩
set_option maxRecDepth 100000 in
theorem mw_887 : Cond.methodLink RX6 262 yX5_mastersMeet ∈ gw_all := List.mem_filter.mpr ⟨mt_4 (List.mem_of_getElem? (i := 116) rfl), rfl⟩
set_option maxRecDepth 100000 in
theorem mw_888 : Cond.instanceMethod yX5_mastersMeet ∈ gw_all := List.mem_filter.mpr ⟨mt_4 (List.mem_of_getElem? (i := 117) rfl), rfl⟩
set_option maxRecDepth 100000 in
theorem mw_889 : Cond.selects RX5 yX5_mastersMeet yX5_mastersMeet ∈ gw_all := List.mem_filter.mpr ⟨mt_4 (List.mem_of_getElem? (i := 118) rfl), rfl⟩
set_option maxRecDepth 100000 in
theorem mw_890 : Cond.code yX5_mastersMeet cX5_mastersMeet 2 (some .boolean) ∈ gw_all := List.mem_filter.mpr ⟨mt_4 (List.mem_of_getElem? (i := 119) rfl), rfl⟩
set_option maxRecDepth 100000 in
theorem mw_891 : Cond.methodLink RX5 113 yX5_channelBy ∈ gw_all := List.mem_filter.mpr ⟨mt_4 (List.mem_of_getElem? (i := 120) rfl), rfl⟩
set_option maxRecDepth 100000 in
theorem mw_892 : Cond.methodLink RL 107 yX6_used ∈ gw_all := List.mem_filter.mpr ⟨mt_4 (List.mem_of_getElem? (i := 121) rfl), rfl⟩
set_option maxRecDepth 100000 in
theorem mw_893 : Cond.instanceMethod yX6_used ∈ gw_all := List.mem_filter.mpr ⟨mt_4 (List.mem_of_getElem? (i := 122) rfl), rfl⟩
set_option maxRecDepth 100000 in
theorem mw_894 : Cond.selects RX6 yX6_used yX6_used ∈ gw_all := List.mem_filter.mpr ⟨mt_4 (List.mem_of_getElem? (i := 123) rfl), rfl⟩
set_option maxRecDepth 100000 in
theorem mw_895 : Cond.code yX6_used cX6_used 7 (some .int) ∈ gw_all := List.mem_filter.mpr ⟨mt_4 (List.mem_of_getElem? (i := 124) rfl), rfl⟩
set_option maxRecDepth 100000 in
theorem mw_896 : Cond.methodLink RL 111 yX6_bad ∈ gw_all := List.mem_filter.mpr ⟨mt_4 (List.mem_of_getElem? (i := 125) rfl), rfl⟩
set_option maxRecDepth 100000 in
theorem mw_897 : Cond.instanceMethod yX6_bad ∈ gw_all := List.mem_filter.mpr ⟨mt_4 (List.mem_of_getElem? (i := 126) rfl), rfl⟩
set_option maxRecDepth 100000 in
theorem mw_898 : Cond.selects RX6 yX6_bad yX6_bad ∈ gw_all := List.mem_filter.mpr ⟨mt_4 (List.mem_of_getElem? (i := 127) rfl), rfl⟩
set_option maxRecDepth 100000 in
theorem mw_899 : Cond.code yX6_bad cX6_bad 4 (some .int) ∈ gw_all := List.mem_filter.mpr ⟨mt_4 (List.mem_of_getElem? (i := 128) rfl), rfl⟩
set_option maxRecDepth 100000 in
theorem mw_900 : Cond.methodLink RL 115 yX6_sent ∈ gw_all := List.mem_filter.mpr ⟨mt_4 (List.mem_of_getElem? (i := 129) rfl), rfl⟩
set_option maxRecDepth 100000 in
theorem mw_901 : Cond.instanceMethod yX6_sent ∈ gw_all := List.mem_filter.mpr ⟨mt_4 (List.mem_of_getElem? (i := 130) rfl), rfl⟩
set_option maxRecDepth 100000 in
theorem mw_902 : Cond.selects RX6 yX6_sent yX6_sent ∈ gw_all := List.mem_filter.mpr ⟨mt_4 (List.mem_of_getElem? (i := 131) rfl), rfl⟩
set_option maxRecDepth 100000 in
theorem mw_903 : Cond.code yX6_sent cX6_sent 5 (some .int) ∈ gw_all := List.mem_filter.mpr ⟨mt_4 (List.mem_of_getElem? (i := 132) rfl), rfl⟩
set_option maxRecDepth 100000 in
theorem mw_904 : Cond.methodLink RL 119 yX6_link ∈ gw_all := List.mem_filter.mpr ⟨mt_4 (List.mem_of_getElem? (i := 133) rfl), rfl⟩
set_option maxRecDepth 100000 in
theorem mw_905 : Cond.instanceMethod yX6_link ∈ gw_all := List.mem_filter.mpr ⟨mt_4 (List.mem_of_getElem? (i := 134) rfl), rfl⟩
set_option maxRecDepth 100000 in
theorem mw_906 : Cond.selects RX6 yX6_link yX6_link ∈ gw_all := List.mem_filter.mpr ⟨mt_4 (List.mem_of_getElem? (i := 135) rfl), rfl⟩
set_option maxRecDepth 100000 in
theorem mw_907 : Cond.code yX6_link cX6_link 5 (some .int) ∈ gw_all := List.mem_filter.mpr ⟨mt_4 (List.mem_of_getElem? (i := 136) rfl), rfl⟩
set_option maxRecDepth 100000 in
theorem mw_908 : Cond.methodLink RL 123 yX6_hash ∈ gw_all := List.mem_filter.mpr ⟨mt_4 (List.mem_of_getElem? (i := 137) rfl), rfl⟩
set_option maxRecDepth 100000 in
theorem mw_909 : Cond.instanceMethod yX6_hash ∈ gw_all := List.mem_filter.mpr ⟨mt_4 (List.mem_of_getElem? (i := 138) rfl), rfl⟩
set_option maxRecDepth 100000 in
theorem mw_910 : Cond.selects RX6 yX6_hash yX6_hash ∈ gw_all := List.mem_filter.mpr ⟨mt_4 (List.mem_of_getElem? (i := 139) rfl), rfl⟩
set_option maxRecDepth 100000 in
theorem mw_911 : Cond.code yX6_hash cX6_hash 5 (some .int) ∈ gw_all := List.mem_filter.mpr ⟨mt_4 (List.mem_of_getElem? (i := 140) rfl), rfl⟩
set_option maxRecDepth 100000 in
theorem mw_912 : Cond.methodLink RL 127 yX6_reserved ∈ gw_all := List.mem_filter.mpr ⟨mt_4 (List.mem_of_getElem? (i := 141) rfl), rfl⟩
set_option maxRecDepth 100000 in
theorem mw_913 : Cond.instanceMethod yX6_reserved ∈ gw_all := List.mem_filter.mpr ⟨mt_4 (List.mem_of_getElem? (i := 142) rfl), rfl⟩
set_option maxRecDepth 100000 in
theorem mw_914 : Cond.selects RX6 yX6_reserved yX6_reserved ∈ gw_all := List.mem_filter.mpr ⟨mt_4 (List.mem_of_getElem? (i := 143) rfl), rfl⟩
set_option maxRecDepth 100000 in
theorem mw_915 : Cond.code yX6_reserved cX6_reserved 5 (some .int) ∈ gw_all := List.mem_filter.mpr ⟨mt_4 (List.mem_of_getElem? (i := 144) rfl), rfl⟩
set_option maxRecDepth 100000 in
theorem mw_916 : Cond.methodLink RL 131 yX6_isThere ∈ gw_all := List.mem_filter.mpr ⟨mt_4 (List.mem_of_getElem? (i := 145) rfl), rfl⟩
set_option maxRecDepth 100000 in
theorem mw_917 : Cond.instanceMethod yX6_isThere ∈ gw_all := List.mem_filter.mpr ⟨mt_4 (List.mem_of_getElem? (i := 146) rfl), rfl⟩
set_option maxRecDepth 100000 in
theorem mw_918 : Cond.selects RX6 yX6_isThere yX6_isThere ∈ gw_all := List.mem_filter.mpr ⟨mt_4 (List.mem_of_getElem? (i := 147) rfl), rfl⟩
set_option maxRecDepth 100000 in
theorem mw_919 : Cond.code yX6_isThere cX6_isThere 5 (some .int) ∈ gw_all := List.mem_filter.mpr ⟨mt_4 (List.mem_of_getElem? (i := 148) rfl), rfl⟩
set_option maxRecDepth 100000 in
theorem mw_920 : Cond.methodLink RX6 322 yX5_isPresent ∈ gw_all := List.mem_filter.mpr ⟨mt_4 (List.mem_of_getElem? (i := 149) rfl), rfl⟩
set_option maxRecDepth 100000 in
theorem mw_921 : Cond.methodLink RL 135 yX6_odds ∈ gw_all := List.mem_filter.mpr ⟨mt_4 (List.mem_of_getElem? (i := 150) rfl), rfl⟩
set_option maxRecDepth 100000 in
theorem mw_922 : Cond.instanceMethod yX6_odds ∈ gw_all := List.mem_filter.mpr ⟨mt_4 (List.mem_of_getElem? (i := 151) rfl), rfl⟩
set_option maxRecDepth 100000 in
theorem mw_923 : Cond.selects RX6 yX6_odds yX6_odds ∈ gw_all := List.mem_filter.mpr ⟨mt_4 (List.mem_of_getElem? (i := 152) rfl), rfl⟩
set_option maxRecDepth 100000 in
theorem mw_924 : Cond.code yX6_odds cX6_odds 9 (some .int) ∈ gw_all := List.mem_filter.mpr ⟨mt_4 (List.mem_of_getElem? (i := 153) rfl), rfl⟩
set_option maxRecDepth 100000 in
theorem mw_925 : Cond.methodLink RX6 325 yX5_clearOf ∈ gw_all := List.mem_filter.mpr ⟨mt_4 (List.mem_of_getElem? (i := 154) rfl), rfl⟩
set_option maxRecDepth 100000 in
theorem mw_926 : Cond.instanceMethod yX5_clearOf ∈ gw_all := List.mem_filter.mpr ⟨mt_4 (List.mem_of_getElem? (i := 155) rfl), rfl⟩
set_option maxRecDepth 100000 in
theorem mw_927 : Cond.selects RX5 yX5_clearOf yX5_clearOf ∈ gw_all := List.mem_filter.mpr ⟨mt_4 (List.mem_of_getElem? (i := 156) rfl), rfl⟩
set_option maxRecDepth 100000 in
theorem mw_928 : Cond.code yX5_clearOf cX5_clearOf 7 (some .int) ∈ gw_all := List.mem_filter.mpr ⟨mt_4 (List.mem_of_getElem? (i := 157) rfl), rfl⟩
set_option maxRecDepth 100000 in
theorem mw_929 : Cond.methodLink RX6 329 yX6_greatestDivisor ∈ gw_all := List.mem_filter.mpr ⟨mt_4 (List.mem_of_getElem? (i := 158) rfl), rfl⟩
set_option maxRecDepth 100000 in
theorem mw_930 : Cond.static yX6_greatestDivisor ∈ gw_all := List.mem_filter.mpr ⟨mt_4 (List.mem_of_getElem? (i := 159) rfl), rfl⟩
set_option maxRecDepth 100000 in
theorem mw_931 : Cond.code yX6_greatestDivisor cX6_greatestDivisor 6 (some .int) ∈ gw_all := List.mem_filter.mpr ⟨mt_4 (List.mem_of_getElem? (i := 160) rfl), rfl⟩
set_option maxRecDepth 100000 in
theorem mw_932 : Cond.methodLink RL 139 yX6_clashes ∈ gw_all := List.mem_filter.mpr ⟨mt_4 (List.mem_of_getElem? (i := 161) rfl), rfl⟩
set_option maxRecDepth 100000 in
theorem mw_933 : Cond.instanceMethod yX6_clashes ∈ gw_all := List.mem_filter.mpr ⟨mt_4 (List.mem_of_getElem? (i := 162) rfl), rfl⟩
set_option maxRecDepth 100000 in
theorem mw_934 : Cond.selects RX6 yX6_clashes yX6_clashes ∈ gw_all := List.mem_filter.mpr ⟨mt_4 (List.mem_of_getElem? (i := 163) rfl), rfl⟩
set_option maxRecDepth 100000 in
theorem mw_935 : Cond.code yX6_clashes cX6_clashes 4 (some .int) ∈ gw_all := List.mem_filter.mpr ⟨mt_4 (List.mem_of_getElem? (i := 164) rfl), rfl⟩
set_option maxRecDepth 100000 in
theorem mw_936 : Cond.methodLink RL 143 yX6_bestOffset ∈ gw_all := List.mem_filter.mpr ⟨mt_4 (List.mem_of_getElem? (i := 165) rfl), rfl⟩
set_option maxRecDepth 100000 in
theorem mw_937 : Cond.instanceMethod yX6_bestOffset ∈ gw_all := List.mem_filter.mpr ⟨mt_4 (List.mem_of_getElem? (i := 166) rfl), rfl⟩
set_option maxRecDepth 100000 in
theorem mw_938 : Cond.selects RX6 yX6_bestOffset yX6_bestOffset ∈ gw_all := List.mem_filter.mpr ⟨mt_4 (List.mem_of_getElem? (i := 167) rfl), rfl⟩
set_option maxRecDepth 100000 in
theorem mw_939 : Cond.code yX6_bestOffset cX6_bestOffset 6 (some .int) ∈ gw_all := List.mem_filter.mpr ⟨mt_4 (List.mem_of_getElem? (i := 168) rfl), rfl⟩
set_option maxRecDepth 100000 in
theorem mw_940 : Cond.methodLink RX6 332 yX6_noteHops ∈ gw_all := List.mem_filter.mpr ⟨mt_4 (List.mem_of_getElem? (i := 169) rfl), rfl⟩
set_option maxRecDepth 100000 in
theorem mw_942 : Cond.instanceMethod yX6_noteHops ∈ gw_all := List.mem_filter.mpr ⟨mt_4 (List.mem_of_getElem? (i := 171) rfl), rfl⟩
set_option maxRecDepth 100000 in
theorem mw_943 : Cond.code yX6_noteHops cX6_noteHops 4 none ∈ gw_all := List.mem_filter.mpr ⟨mt_4 (List.mem_of_getElem? (i := 172) rfl), rfl⟩
set_option maxRecDepth 100000 in
theorem mw_944 : Cond.methodLink RX6 395 yX5_addressOf ∈ gw_all := List.mem_filter.mpr ⟨mt_4 (List.mem_of_getElem? (i := 173) rfl), rfl⟩
set_option maxRecDepth 100000 in
theorem mw_945 : Cond.methodLink RX6 398 yX6_byMap ∈ gw_all := List.mem_filter.mpr ⟨mt_4 (List.mem_of_getElem? (i := 174) rfl), rfl⟩
set_option maxRecDepth 100000 in
theorem mw_946 : Cond.methodLink RX6 335 yX6_clashesAt ∈ gw_all := List.mem_filter.mpr ⟨mt_4 (List.mem_of_getElem? (i := 175) rfl), rfl⟩
set_option maxRecDepth 100000 in
theorem mw_948 : Cond.instanceMethod yX6_clashesAt ∈ gw_all := List.mem_filter.mpr ⟨mt_4 (List.mem_of_getElem? (i := 177) rfl), rfl⟩
set_option maxRecDepth 100000 in
theorem mw_949 : Cond.code yX6_clashesAt cX6_clashesAt 5 (some .int) ∈ gw_all := List.mem_filter.mpr ⟨mt_4 (List.mem_of_getElem? (i := 178) rfl), rfl⟩
set_option maxRecDepth 100000 in
theorem mw_950 : Cond.methodLink RL 147 yX6_drain ∈ gw_all := List.mem_filter.mpr ⟨mt_4 (List.mem_of_getElem? (i := 179) rfl), rfl⟩
set_option maxRecDepth 100000 in
theorem mw_951 : Cond.instanceMethod yX6_drain ∈ gw_all := List.mem_filter.mpr ⟨mt_4 (List.mem_of_getElem? (i := 180) rfl), rfl⟩
set_option maxRecDepth 100000 in
theorem mw_952 : Cond.selects RX6 yX6_drain yX6_drain ∈ gw_all := List.mem_filter.mpr ⟨mt_4 (List.mem_of_getElem? (i := 181) rfl), rfl⟩
set_option maxRecDepth 100000 in
theorem mw_953 : Cond.code yX6_drain cX6_drain 5 (some .int) ∈ gw_all := List.mem_filter.mpr ⟨mt_4 (List.mem_of_getElem? (i := 182) rfl), rfl⟩
set_option maxRecDepth 100000 in
theorem mw_954 : Cond.methodLink RX6 339 yX5_goOneTurn ∈ gw_all := List.mem_filter.mpr ⟨mt_4 (List.mem_of_getElem? (i := 183) rfl), rfl⟩
set_option maxRecDepth 100000 in
theorem mw_955 : Cond.methodLink RL 151 yX6_would ∈ gw_all := List.mem_filter.mpr ⟨mt_4 (List.mem_of_getElem? (i := 184) rfl), rfl⟩
set_option maxRecDepth 100000 in
theorem mw_956 : Cond.instanceMethod yX6_would ∈ gw_all := List.mem_filter.mpr ⟨mt_4 (List.mem_of_getElem? (i := 185) rfl), rfl⟩
set_option maxRecDepth 100000 in
theorem mw_957 : Cond.selects RX6 yX6_would yX6_would ∈ gw_all := List.mem_filter.mpr ⟨mt_4 (List.mem_of_getElem? (i := 186) rfl), rfl⟩
set_option maxRecDepth 100000 in
theorem mw_958 : Cond.code yX6_would cX6_would 6 (some .int) ∈ gw_all := List.mem_filter.mpr ⟨mt_4 (List.mem_of_getElem? (i := 187) rfl), rfl⟩
set_option maxRecDepth 100000 in
theorem mw_959 : Cond.methodLink RX6 342 yX6_paperWith ∈ gw_all := List.mem_filter.mpr ⟨mt_4 (List.mem_of_getElem? (i := 188) rfl), rfl⟩
set_option maxRecDepth 100000 in
theorem mw_961 : Cond.instanceMethod yX6_paperWith ∈ gw_all := List.mem_filter.mpr ⟨mt_4 (List.mem_of_getElem? (i := 190) rfl), rfl⟩
set_option maxRecDepth 100000 in
theorem mw_962 : Cond.code yX6_paperWith cX6_paperWith 2 (some (.object "HopNet$World")) ∈ gw_all := List.mem_filter.mpr ⟨mt_4 (List.mem_of_getElem? (i := 191) rfl), rfl⟩
set_option maxRecDepth 100000 in
theorem mw_963 : Cond.methodLink RX6 346 yX5_framesMissed ∈ gw_all := List.mem_filter.mpr ⟨mt_4 (List.mem_of_getElem? (i := 192) rfl), rfl⟩
set_option maxRecDepth 100000 in
theorem mw_964 : Cond.instanceMethod yX5_framesMissed ∈ gw_all := List.mem_filter.mpr ⟨mt_4 (List.mem_of_getElem? (i := 193) rfl), rfl⟩
set_option maxRecDepth 100000 in
theorem mw_965 : Cond.selects RX5 yX5_framesMissed yX5_framesMissed ∈ gw_all := List.mem_filter.mpr ⟨mt_4 (List.mem_of_getElem? (i := 194) rfl), rfl⟩
set_option maxRecDepth 100000 in
theorem mw_966 : Cond.code yX5_framesMissed cX5_framesMissed 4 (some .int) ∈ gw_all := List.mem_filter.mpr ⟨mt_4 (List.mem_of_getElem? (i := 195) rfl), rfl⟩
set_option maxRecDepth 100000 in
theorem mw_967 : Cond.methodLink RX6 349 yX5_linksOfOtherMap ∈ gw_all := List.mem_filter.mpr ⟨mt_4 (List.mem_of_getElem? (i := 196) rfl), rfl⟩
set_option maxRecDepth 100000 in
theorem mw_968 : Cond.instanceMethod yX5_linksOfOtherMap ∈ gw_all := List.mem_filter.mpr ⟨mt_4 (List.mem_of_getElem? (i := 197) rfl), rfl⟩
set_option maxRecDepth 100000 in
theorem mw_969 : Cond.selects RX5 yX5_linksOfOtherMap yX5_linksOfOtherMap ∈ gw_all := List.mem_filter.mpr ⟨mt_4 (List.mem_of_getElem? (i := 198) rfl), rfl⟩
set_option maxRecDepth 100000 in
theorem mw_970 : Cond.code yX5_linksOfOtherMap cX5_linksOfOtherMap 4 (some .int) ∈ gw_all := List.mem_filter.mpr ⟨mt_4 (List.mem_of_getElem? (i := 199) rfl), rfl⟩
set_option maxRecDepth 100000 in
theorem mw_971 : Cond.methodLink RL 155 yX6_ready ∈ gw_all := List.mem_filter.mpr ⟨mt_4 (List.mem_of_getElem? (i := 200) rfl), rfl⟩
set_option maxRecDepth 100000 in
theorem mw_972 : Cond.instanceMethod yX6_ready ∈ gw_all := List.mem_filter.mpr ⟨mt_4 (List.mem_of_getElem? (i := 201) rfl), rfl⟩
set_option maxRecDepth 100000 in
theorem mw_973 : Cond.selects RX6 yX6_ready yX6_ready ∈ gw_all := List.mem_filter.mpr ⟨mt_4 (List.mem_of_getElem? (i := 202) rfl), rfl⟩
set_option maxRecDepth 100000 in
theorem mw_974 : Cond.code yX6_ready cX6_ready 5 (some .int) ∈ gw_all := List.mem_filter.mpr ⟨mt_4 (List.mem_of_getElem? (i := 203) rfl), rfl⟩
set_option maxRecDepth 100000 in
theorem mw_975 : Cond.methodLink RX6 352 yX5_isReadyAt ∈ gw_all := List.mem_filter.mpr ⟨mt_4 (List.mem_of_getElem? (i := 204) rfl), rfl⟩
set_option maxRecDepth 100000 in
theorem mw_976 : Cond.methodLink RL 159 yX6_bothReady ∈ gw_all := List.mem_filter.mpr ⟨mt_4 (List.mem_of_getElem? (i := 205) rfl), rfl⟩
set_option maxRecDepth 100000 in
theorem mw_977 : Cond.instanceMethod yX6_bothReady ∈ gw_all := List.mem_filter.mpr ⟨mt_4 (List.mem_of_getElem? (i := 206) rfl), rfl⟩
set_option maxRecDepth 100000 in
theorem mw_978 : Cond.selects RX6 yX6_bothReady yX6_bothReady ∈ gw_all := List.mem_filter.mpr ⟨mt_4 (List.mem_of_getElem? (i := 207) rfl), rfl⟩
set_option maxRecDepth 100000 in
theorem mw_979 : Cond.code yX6_bothReady cX6_bothReady 10 (some .int) ∈ gw_all := List.mem_filter.mpr ⟨mt_4 (List.mem_of_getElem? (i := 208) rfl), rfl⟩
set_option maxRecDepth 100000 in
theorem mw_980 : Cond.methodLink RL 163 yX6_ahead ∈ gw_all := List.mem_filter.mpr ⟨mt_4 (List.mem_of_getElem? (i := 209) rfl), rfl⟩
set_option maxRecDepth 100000 in
theorem mw_981 : Cond.instanceMethod yX6_ahead ∈ gw_all := List.mem_filter.mpr ⟨mt_4 (List.mem_of_getElem? (i := 210) rfl), rfl⟩
set_option maxRecDepth 100000 in
theorem mw_982 : Cond.selects RX6 yX6_ahead yX6_ahead ∈ gw_all := List.mem_filter.mpr ⟨mt_4 (List.mem_of_getElem? (i := 211) rfl), rfl⟩
set_option maxRecDepth 100000 in
theorem mw_983 : Cond.code yX6_ahead cX6_ahead 4 (some .int) ∈ gw_all := List.mem_filter.mpr ⟨mt_4 (List.mem_of_getElem? (i := 212) rfl), rfl⟩
set_option maxRecDepth 100000 in
theorem mw_984 : Cond.methodLink RL 167 yX6_together ∈ gw_all := List.mem_filter.mpr ⟨mt_4 (List.mem_of_getElem? (i := 213) rfl), rfl⟩
set_option maxRecDepth 100000 in
theorem mw_985 : Cond.instanceMethod yX6_together ∈ gw_all := List.mem_filter.mpr ⟨mt_4 (List.mem_of_getElem? (i := 214) rfl), rfl⟩
set_option maxRecDepth 100000 in
theorem mw_986 : Cond.selects RX6 yX6_together yX6_together ∈ gw_all := List.mem_filter.mpr ⟨mt_4 (List.mem_of_getElem? (i := 215) rfl), rfl⟩
set_option maxRecDepth 100000 in
theorem mw_987 : Cond.code yX6_together cX6_together 8 (some .int) ∈ gw_all := List.mem_filter.mpr ⟨mt_4 (List.mem_of_getElem? (i := 216) rfl), rfl⟩
set_option maxRecDepth 100000 in
theorem mw_988 : Cond.methodLink RX6 362 yX0_isDue ∈ gw_all := List.mem_filter.mpr ⟨mt_4 (List.mem_of_getElem? (i := 217) rfl), rfl⟩
set_option maxRecDepth 100000 in
theorem mw_989 : Cond.methodLink RL 171 yX6_ranked ∈ gw_all := List.mem_filter.mpr ⟨mt_4 (List.mem_of_getElem? (i := 218) rfl), rfl⟩
set_option maxRecDepth 100000 in
theorem mw_990 : Cond.instanceMethod yX6_ranked ∈ gw_all := List.mem_filter.mpr ⟨mt_4 (List.mem_of_getElem? (i := 219) rfl), rfl⟩
set_option maxRecDepth 100000 in
theorem mw_991 : Cond.selects RX6 yX6_ranked yX6_ranked ∈ gw_all := List.mem_filter.mpr ⟨mt_4 (List.mem_of_getElem? (i := 220) rfl), rfl⟩
set_option maxRecDepth 100000 in
theorem mw_992 : Cond.code yX6_ranked cX6_ranked 5 (some .int) ∈ gw_all := List.mem_filter.mpr ⟨mt_4 (List.mem_of_getElem? (i := 221) rfl), rfl⟩
set_option maxRecDepth 100000 in
theorem mw_993 : Cond.methodLink RX6 365 yX2_rankOf ∈ gw_all := List.mem_filter.mpr ⟨mt_4 (List.mem_of_getElem? (i := 222) rfl), rfl⟩
set_option maxRecDepth 100000 in
theorem mw_994 : Cond.instanceMethod yX2_rankOf ∈ gw_all := List.mem_filter.mpr ⟨mt_4 (List.mem_of_getElem? (i := 223) rfl), rfl⟩
set_option maxRecDepth 100000 in
theorem mw_995 : Cond.selects RX2 yX2_rankOf yX2_rankOf ∈ gw_all := List.mem_filter.mpr ⟨mt_4 (List.mem_of_getElem? (i := 224) rfl), rfl⟩
set_option maxRecDepth 100000 in
theorem mw_996 : Cond.code yX2_rankOf cX2_rankOf 8 (some .int) ∈ gw_all := List.mem_filter.mpr ⟨mt_4 (List.mem_of_getElem? (i := 225) rfl), rfl⟩
set_option maxRecDepth 100000 in
theorem mw_997 : Cond.methodLink RL 175 yX6_quiet ∈ gw_all := List.mem_filter.mpr ⟨mt_4 (List.mem_of_getElem? (i := 226) rfl), rfl⟩
set_option maxRecDepth 100000 in
theorem mw_998 : Cond.instanceMethod yX6_quiet ∈ gw_all := List.mem_filter.mpr ⟨mt_4 (List.mem_of_getElem? (i := 227) rfl), rfl⟩
set_option maxRecDepth 100000 in
theorem mw_999 : Cond.selects RX6 yX6_quiet yX6_quiet ∈ gw_all := List.mem_filter.mpr ⟨mt_4 (List.mem_of_getElem? (i := 228) rfl), rfl⟩
set_option maxRecDepth 100000 in
theorem mw_1000 : Cond.code yX6_quiet cX6_quiet 6 (some .int) ∈ gw_all := List.mem_filter.mpr ⟨mt_4 (List.mem_of_getElem? (i := 229) rfl), rfl⟩
set_option maxRecDepth 100000 in
theorem mw_1001 : Cond.methodLink RL 179 yX6_bestShare ∈ gw_all := List.mem_filter.mpr ⟨mt_4 (List.mem_of_getElem? (i := 230) rfl), rfl⟩
set_option maxRecDepth 100000 in
theorem mw_1002 : Cond.instanceMethod yX6_bestShare ∈ gw_all := List.mem_filter.mpr ⟨mt_4 (List.mem_of_getElem? (i := 231) rfl), rfl⟩
set_option maxRecDepth 100000 in
theorem mw_1003 : Cond.selects RX6 yX6_bestShare yX6_bestShare ∈ gw_all := List.mem_filter.mpr ⟨mt_4 (List.mem_of_getElem? (i := 232) rfl), rfl⟩
set_option maxRecDepth 100000 in
theorem mw_1004 : Cond.code yX6_bestShare cX6_bestShare 6 (some .int) ∈ gw_all := List.mem_filter.mpr ⟨mt_4 (List.mem_of_getElem? (i := 233) rfl), rfl⟩
set_option maxRecDepth 100000 in
theorem mw_1005 : Cond.methodLink RL 183 yX6_ofNet ∈ gw_all := List.mem_filter.mpr ⟨mt_4 (List.mem_of_getElem? (i := 234) rfl), rfl⟩
set_option maxRecDepth 100000 in
theorem mw_1006 : Cond.instanceMethod yX6_ofNet ∈ gw_all := List.mem_filter.mpr ⟨mt_4 (List.mem_of_getElem? (i := 235) rfl), rfl⟩
set_option maxRecDepth 100000 in
theorem mw_1007 : Cond.selects RX6 yX6_ofNet yX6_ofNet ∈ gw_all := List.mem_filter.mpr ⟨mt_4 (List.mem_of_getElem? (i := 236) rfl), rfl⟩
set_option maxRecDepth 100000 in
theorem mw_1008 : Cond.code yX6_ofNet cX6_ofNet 4 (some .int) ∈ gw_all := List.mem_filter.mpr ⟨mt_4 (List.mem_of_getElem? (i := 237) rfl), rfl⟩
set_option maxRecDepth 100000 in
theorem mw_1009 : Cond.methodLink RL 187 yX6_count ∈ gw_all := List.mem_filter.mpr ⟨mt_4 (List.mem_of_getElem? (i := 238) rfl), rfl⟩
set_option maxRecDepth 100000 in
theorem mw_1010 : Cond.instanceMethod yX6_count ∈ gw_all := List.mem_filter.mpr ⟨mt_4 (List.mem_of_getElem? (i := 239) rfl), rfl⟩
set_option maxRecDepth 100000 in
theorem mw_1011 : Cond.selects RX6 yX6_count yX6_count ∈ gw_all := List.mem_filter.mpr ⟨mt_5 (List.mem_of_getElem? (i := 0) rfl), rfl⟩
set_option maxRecDepth 100000 in
theorem mw_1012 : Cond.code yX6_count cX6_count 2 (some .int) ∈ gw_all := List.mem_filter.mpr ⟨mt_5 (List.mem_of_getElem? (i := 1) rfl), rfl⟩
set_option maxRecDepth 100000 in
theorem mw_1013 : Cond.methodLink RX6 382 yX5_heardOfAll ∈ gw_all := List.mem_filter.mpr ⟨mt_5 (List.mem_of_getElem? (i := 2) rfl), rfl⟩
set_option maxRecDepth 100000 in
theorem mw_1014 : Cond.instanceMethod yX5_heardOfAll ∈ gw_all := List.mem_filter.mpr ⟨mt_5 (List.mem_of_getElem? (i := 3) rfl), rfl⟩
set_option maxRecDepth 100000 in
theorem mw_1015 : Cond.selects RX5 yX5_heardOfAll yX5_heardOfAll ∈ gw_all := List.mem_filter.mpr ⟨mt_5 (List.mem_of_getElem? (i := 4) rfl), rfl⟩
set_option maxRecDepth 100000 in
theorem mw_1016 : Cond.code yX5_heardOfAll cX5_heardOfAll 4 (some .int) ∈ gw_all := List.mem_filter.mpr ⟨mt_5 (List.mem_of_getElem? (i := 5) rfl), rfl⟩
set_option maxRecDepth 100000 in
theorem mw_1017 : Cond.methodLink RL 191 yX6_status ∈ gw_all := List.mem_filter.mpr ⟨mt_5 (List.mem_of_getElem? (i := 6) rfl), rfl⟩
set_option maxRecDepth 100000 in
theorem mw_1018 : Cond.instanceMethod yX6_status ∈ gw_all := List.mem_filter.mpr ⟨mt_5 (List.mem_of_getElem? (i := 7) rfl), rfl⟩
set_option maxRecDepth 100000 in
theorem mw_1019 : Cond.selects RX6 yX6_status yX6_status ∈ gw_all := List.mem_filter.mpr ⟨mt_5 (List.mem_of_getElem? (i := 8) rfl), rfl⟩
set_option maxRecDepth 100000 in
theorem mw_1020 : Cond.code yX6_status cX6_status 1 (some .int) ∈ gw_all := List.mem_filter.mpr ⟨mt_5 (List.mem_of_getElem? (i := 9) rfl), rfl⟩
set_option maxRecDepth 100000 in
theorem mw_1021 : Cond.classLink RL 10 RX7 ∈ gw_all := List.mem_filter.mpr ⟨mt_5 (List.mem_of_getElem? (i := 10) rfl), rfl⟩
set_option maxRecDepth 100000 in
theorem mw_1022 : Cond.instantiable RX7 18 ∈ gw_all := List.mem_filter.mpr ⟨mt_5 (List.mem_of_getElem? (i := 11) rfl), rfl⟩
set_option maxRecDepth 100000 in
theorem mw_1023 : Cond.methodLink RL 12 yX7_init ∈ gw_all := List.mem_filter.mpr ⟨mt_5 (List.mem_of_getElem? (i := 12) rfl), rfl⟩
set_option maxRecDepth 100000 in
theorem mw_1024 : Cond.instanceMethod yX7_init ∈ gw_all := List.mem_filter.mpr ⟨mt_5 (List.mem_of_getElem? (i := 13) rfl), rfl⟩
set_option maxRecDepth 100000 in
theorem mw_1025 : Cond.code yX7_init cX7_init 1 none ∈ gw_all := List.mem_filter.mpr ⟨mt_5 (List.mem_of_getElem? (i := 14) rfl), rfl⟩
set_option maxRecDepth 100000 in
theorem mw_1026 : Cond.methodLink RX7 1 objectInit ∈ gw_all := List.mem_filter.mpr ⟨mt_5 (List.mem_of_getElem? (i := 15) rfl), rfl⟩
set_option maxRecDepth 100000 in
theorem mw_1027 : Cond.fieldLink RX7 50 RX7 "thrown" "I" ∈ gw_all := List.mem_filter.mpr ⟨mt_5 (List.mem_of_getElem? (i := 16) rfl), rfl⟩
set_option maxRecDepth 100000 in
theorem mw_1028 : Cond.fieldLink RX7 54 RX7 "status" "I" ∈ gw_all := List.mem_filter.mpr ⟨mt_5 (List.mem_of_getElem? (i := 17) rfl), rfl⟩
set_option maxRecDepth 100000 in
theorem mw_1029 : Cond.fieldLink RX7 7 RX7 "refusals" "[I" ∈ gw_all := List.mem_filter.mpr ⟨mt_5 (List.mem_of_getElem? (i := 18) rfl), rfl⟩
set_option maxRecDepth 100000 in
theorem mw_1030 : Cond.fieldLink RX7 13 RX7 "row" "[I" ∈ gw_all := List.mem_filter.mpr ⟨mt_5 (List.mem_of_getElem? (i := 19) rfl), rfl⟩
set_option maxRecDepth 100000 in
theorem mw_1031 : Cond.fieldLink RX7 16 RX7 "undos" "[I" ∈ gw_all := List.mem_filter.mpr ⟨mt_5 (List.mem_of_getElem? (i := 20) rfl), rfl⟩
set_option maxRecDepth 100000 in
theorem mw_1032 : Cond.fieldLink RX7 19 RX7 "sorts" "[I" ∈ gw_all := List.mem_filter.mpr ⟨mt_5 (List.mem_of_getElem? (i := 21) rfl), rfl⟩
set_option maxRecDepth 100000 in
theorem mw_1033 : Cond.fieldLink RX7 57 RX7 "nUndo" "I" ∈ gw_all := List.mem_filter.mpr ⟨mt_5 (List.mem_of_getElem? (i := 22) rfl), rfl⟩
set_option maxRecDepth 100000 in
theorem mw_1034 : Cond.fieldLink RX7 22 RX7 "images" "[I" ∈ gw_all := List.mem_filter.mpr ⟨mt_5 (List.mem_of_getElem? (i := 23) rfl), rfl⟩
set_option maxRecDepth 100000 in
theorem mw_1035 : Cond.fieldLink RX7 25 RX7 "isKept" "[Z" ∈ gw_all := List.mem_filter.mpr ⟨mt_5 (List.mem_of_getElem? (i := 24) rfl), rfl⟩
set_option maxRecDepth 100000 in
theorem mw_1036 : Cond.fieldLink RX7 29 RX7 "ahead" "[I" ∈ gw_all := List.mem_filter.mpr ⟨mt_5 (List.mem_of_getElem? (i := 25) rfl), rfl⟩
set_option maxRecDepth 100000 in
theorem mw_1037 : Cond.fieldLink RX7 32 RX7 "chosen" "[I" ∈ gw_all := List.mem_filter.mpr ⟨mt_5 (List.mem_of_getElem? (i := 26) rfl), rfl⟩
set_option maxRecDepth 100000 in
theorem mw_1038 : Cond.fieldLink RX7 35 RX7 "channel" "[I" ∈ gw_all := List.mem_filter.mpr ⟨mt_5 (List.mem_of_getElem? (i := 27) rfl), rfl⟩
set_option maxRecDepth 100000 in
theorem mw_1039 : Cond.fieldLink RX7 38 RX7 "firstChannel" "[I" ∈ gw_all := List.mem_filter.mpr ⟨mt_5 (List.mem_of_getElem? (i := 28) rfl), rfl⟩
set_option maxRecDepth 100000 in
theorem mw_1040 : Cond.fieldLink RX7 41 RX7 "sentNumber" "[Z" ∈ gw_all := List.mem_filter.mpr ⟨mt_5 (List.mem_of_getElem? (i := 29) rfl), rfl⟩
set_option maxRecDepth 100000 in
theorem mw_1041 : Cond.fieldLink RX7 44 RX7 "sentMap" "[Z" ∈ gw_all := List.mem_filter.mpr ⟨mt_5 (List.mem_of_getElem? (i := 30) rfl), rfl⟩
set_option maxRecDepth 100000 in
theorem mw_1042 : Cond.fieldLink RX7 47 RX7 "isHeard" "[Z" ∈ gw_all := List.mem_filter.mpr ⟨mt_5 (List.mem_of_getElem? (i := 31) rfl), rfl⟩
set_option maxRecDepth 100000 in
theorem mw_1043 : Cond.fieldLink RX7 189 RX7 "heardMany" "I" ∈ gw_all := List.mem_filter.mpr ⟨mt_5 (List.mem_of_getElem? (i := 32) rfl), rfl⟩
set_option maxRecDepth 100000 in
theorem mw_1044 : Cond.fieldLink RX7 233 RX7 "missedMany" "I" ∈ gw_all := List.mem_filter.mpr ⟨mt_5 (List.mem_of_getElem? (i := 33) rfl), rfl⟩
set_option maxRecDepth 100000 in
theorem mw_1045 : Cond.lays RX7 RX7 "thrown" "I" ∈ gw_all := List.mem_filter.mpr ⟨mt_5 (List.mem_of_getElem? (i := 34) rfl), rfl⟩
set_option maxRecDepth 100000 in
theorem mw_1047 : Cond.lays RX7 RX7 "status" "I" ∈ gw_all := List.mem_filter.mpr ⟨mt_5 (List.mem_of_getElem? (i := 36) rfl), rfl⟩
set_option maxRecDepth 100000 in
theorem mw_1049 : Cond.laysFinal RX7 RX7 "refusals" "[I" ∈ gw_all := List.mem_filter.mpr ⟨mt_5 (List.mem_of_getElem? (i := 38) rfl), rfl⟩
set_option maxRecDepth 100000 in
theorem mw_1051 : Cond.laysFinal RX7 RX7 "row" "[I" ∈ gw_all := List.mem_filter.mpr ⟨mt_5 (List.mem_of_getElem? (i := 40) rfl), rfl⟩
set_option maxRecDepth 100000 in
theorem mw_1053 : Cond.laysFinal RX7 RX7 "undos" "[I" ∈ gw_all := List.mem_filter.mpr ⟨mt_5 (List.mem_of_getElem? (i := 42) rfl), rfl⟩
set_option maxRecDepth 100000 in
theorem mw_1055 : Cond.laysFinal RX7 RX7 "sorts" "[I" ∈ gw_all := List.mem_filter.mpr ⟨mt_5 (List.mem_of_getElem? (i := 44) rfl), rfl⟩
set_option maxRecDepth 100000 in
theorem mw_1057 : Cond.lays RX7 RX7 "nUndo" "I" ∈ gw_all := List.mem_filter.mpr ⟨mt_5 (List.mem_of_getElem? (i := 46) rfl), rfl⟩
set_option maxRecDepth 100000 in
theorem mw_1059 : Cond.laysFinal RX7 RX7 "images" "[I" ∈ gw_all := List.mem_filter.mpr ⟨mt_5 (List.mem_of_getElem? (i := 48) rfl), rfl⟩
set_option maxRecDepth 100000 in
theorem mw_1061 : Cond.laysFinal RX7 RX7 "isKept" "[Z" ∈ gw_all := List.mem_filter.mpr ⟨mt_5 (List.mem_of_getElem? (i := 50) rfl), rfl⟩
set_option maxRecDepth 100000 in
theorem mw_1063 : Cond.laysFinal RX7 RX7 "ahead" "[I" ∈ gw_all := List.mem_filter.mpr ⟨mt_5 (List.mem_of_getElem? (i := 52) rfl), rfl⟩
set_option maxRecDepth 100000 in
theorem mw_1065 : Cond.laysFinal RX7 RX7 "chosen" "[I" ∈ gw_all := List.mem_filter.mpr ⟨mt_5 (List.mem_of_getElem? (i := 54) rfl), rfl⟩
set_option maxRecDepth 100000 in
theorem mw_1067 : Cond.laysFinal RX7 RX7 "channel" "[I" ∈ gw_all := List.mem_filter.mpr ⟨mt_5 (List.mem_of_getElem? (i := 56) rfl), rfl⟩
set_option maxRecDepth 100000 in
theorem mw_1069 : Cond.laysFinal RX7 RX7 "firstChannel" "[I" ∈ gw_all := List.mem_filter.mpr ⟨mt_5 (List.mem_of_getElem? (i := 58) rfl), rfl⟩
set_option maxRecDepth 100000 in
theorem mw_1071 : Cond.laysFinal RX7 RX7 "sentNumber" "[Z" ∈ gw_all := List.mem_filter.mpr ⟨mt_5 (List.mem_of_getElem? (i := 60) rfl), rfl⟩
set_option maxRecDepth 100000 in
theorem mw_1073 : Cond.laysFinal RX7 RX7 "sentMap" "[Z" ∈ gw_all := List.mem_filter.mpr ⟨mt_5 (List.mem_of_getElem? (i := 62) rfl), rfl⟩
set_option maxRecDepth 100000 in
theorem mw_1075 : Cond.laysFinal RX7 RX7 "isHeard" "[Z" ∈ gw_all := List.mem_filter.mpr ⟨mt_5 (List.mem_of_getElem? (i := 64) rfl), rfl⟩
set_option maxRecDepth 100000 in
theorem mw_1077 : Cond.lays RX7 RX7 "heardMany" "I" ∈ gw_all := List.mem_filter.mpr ⟨mt_5 (List.mem_of_getElem? (i := 66) rfl), rfl⟩
set_option maxRecDepth 100000 in
theorem mw_1079 : Cond.lays RX7 RX7 "missedMany" "I" ∈ gw_all := List.mem_filter.mpr ⟨mt_5 (List.mem_of_getElem? (i := 68) rfl), rfl⟩
set_option maxRecDepth 100000 in
theorem mw_1082 : Cond.methodLink RL 78 yX7_undo ∈ gw_all := List.mem_filter.mpr ⟨mt_5 (List.mem_of_getElem? (i := 71) rfl), rfl⟩
set_option maxRecDepth 100000 in
theorem mw_1083 : Cond.instanceMethod yX7_undo ∈ gw_all := List.mem_filter.mpr ⟨mt_5 (List.mem_of_getElem? (i := 72) rfl), rfl⟩
set_option maxRecDepth 100000 in
theorem mw_1084 : Cond.selects RX7 yX7_undo yX7_undo ∈ gw_all := List.mem_filter.mpr ⟨mt_5 (List.mem_of_getElem? (i := 73) rfl), rfl⟩
set_option maxRecDepth 100000 in
theorem mw_1085 : Cond.code yX7_undo cX7_undo 1 (some .int) ∈ gw_all := List.mem_filter.mpr ⟨mt_5 (List.mem_of_getElem? (i := 74) rfl), rfl⟩
set_option maxRecDepth 100000 in
theorem mw_1086 : Cond.methodLink RX7 64 yX7_refuse ∈ gw_all := List.mem_filter.mpr ⟨mt_5 (List.mem_of_getElem? (i := 75) rfl), rfl⟩
set_option maxRecDepth 100000 in
theorem mw_1088 : Cond.instanceMethod yX7_refuse ∈ gw_all := List.mem_filter.mpr ⟨mt_5 (List.mem_of_getElem? (i := 77) rfl), rfl⟩
set_option maxRecDepth 100000 in
theorem mw_1089 : Cond.code yX7_refuse cX7_refuse 2 (some .int) ∈ gw_all := List.mem_filter.mpr ⟨mt_5 (List.mem_of_getElem? (i := 78) rfl), rfl⟩
set_option maxRecDepth 100000 in
theorem mw_1090 : Cond.methodLink RX7 60 yX7_copy ∈ gw_all := List.mem_filter.mpr ⟨mt_5 (List.mem_of_getElem? (i := 79) rfl), rfl⟩
set_option maxRecDepth 100000 in
theorem mw_1091 : Cond.static yX7_copy ∈ gw_all := List.mem_filter.mpr ⟨mt_5 (List.mem_of_getElem? (i := 80) rfl), rfl⟩
set_option maxRecDepth 100000 in
theorem mw_1092 : Cond.code yX7_copy cX7_copy 5 none ∈ gw_all := List.mem_filter.mpr ⟨mt_5 (List.mem_of_getElem? (i := 81) rfl), rfl⟩
set_option maxRecDepth 100000 in
theorem mw_1093 : Cond.methodLink RX7 68 yX7_tell ∈ gw_all := List.mem_filter.mpr ⟨mt_5 (List.mem_of_getElem? (i := 82) rfl), rfl⟩
set_option maxRecDepth 100000 in
theorem mw_1095 : Cond.instanceMethod yX7_tell ∈ gw_all := List.mem_filter.mpr ⟨mt_5 (List.mem_of_getElem? (i := 84) rfl), rfl⟩
set_option maxRecDepth 100000 in
theorem mw_1096 : Cond.code yX7_tell cX7_tell 2 (some .int) ∈ gw_all := List.mem_filter.mpr ⟨mt_5 (List.mem_of_getElem? (i := 85) rfl), rfl⟩
set_option maxRecDepth 100000 in
theorem mw_1097 : Cond.methodLink RL 82 yX7_image ∈ gw_all := List.mem_filter.mpr ⟨mt_5 (List.mem_of_getElem? (i := 86) rfl), rfl⟩
set_option maxRecDepth 100000 in
theorem mw_1098 : Cond.instanceMethod yX7_image ∈ gw_all := List.mem_filter.mpr ⟨mt_5 (List.mem_of_getElem? (i := 87) rfl), rfl⟩
set_option maxRecDepth 100000 in
theorem mw_1099 : Cond.selects RX7 yX7_image yX7_image ∈ gw_all := List.mem_filter.mpr ⟨mt_5 (List.mem_of_getElem? (i := 88) rfl), rfl⟩
set_option maxRecDepth 100000 in
theorem mw_1100 : Cond.code yX7_image cX7_image 2 (some .int) ∈ gw_all := List.mem_filter.mpr ⟨mt_5 (List.mem_of_getElem? (i := 89) rfl), rfl⟩
set_option maxRecDepth 100000 in
theorem mw_1101 : Cond.methodLink RX7 71 yX7_in ∈ gw_all := List.mem_filter.mpr ⟨mt_5 (List.mem_of_getElem? (i := 90) rfl), rfl⟩
set_option maxRecDepth 100000 in
theorem mw_1102 : Cond.static yX7_in ∈ gw_all := List.mem_filter.mpr ⟨mt_5 (List.mem_of_getElem? (i := 91) rfl), rfl⟩
set_option maxRecDepth 100000 in
theorem mw_1103 : Cond.code yX7_in cX7_in 6 (some .boolean) ∈ gw_all := List.mem_filter.mpr ⟨mt_5 (List.mem_of_getElem? (i := 92) rfl), rfl⟩
set_option maxRecDepth 100000 in
theorem mw_1104 : Cond.methodLink RL 86 yX7_back ∈ gw_all := List.mem_filter.mpr ⟨mt_5 (List.mem_of_getElem? (i := 93) rfl), rfl⟩
set_option maxRecDepth 100000 in
theorem mw_1105 : Cond.instanceMethod yX7_back ∈ gw_all := List.mem_filter.mpr ⟨mt_5 (List.mem_of_getElem? (i := 94) rfl), rfl⟩
set_option maxRecDepth 100000 in
theorem mw_1106 : Cond.selects RX7 yX7_back yX7_back ∈ gw_all := List.mem_filter.mpr ⟨mt_5 (List.mem_of_getElem? (i := 95) rfl), rfl⟩
set_option maxRecDepth 100000 in
theorem mw_1107 : Cond.code yX7_back cX7_back 2 (some .int) ∈ gw_all := List.mem_filter.mpr ⟨mt_5 (List.mem_of_getElem? (i := 96) rfl), rfl⟩
set_option maxRecDepth 100000 in
theorem mw_1108 : Cond.methodLink RL 90 yX7_kernel ∈ gw_all := List.mem_filter.mpr ⟨mt_5 (List.mem_of_getElem? (i := 97) rfl), rfl⟩
set_option maxRecDepth 100000 in
theorem mw_1109 : Cond.instanceMethod yX7_kernel ∈ gw_all := List.mem_filter.mpr ⟨mt_5 (List.mem_of_getElem? (i := 98) rfl), rfl⟩
set_option maxRecDepth 100000 in
theorem mw_1110 : Cond.selects RX7 yX7_kernel yX7_kernel ∈ gw_all := List.mem_filter.mpr ⟨mt_5 (List.mem_of_getElem? (i := 99) rfl), rfl⟩
set_option maxRecDepth 100000 in
theorem mw_1111 : Cond.code yX7_kernel cX7_kernel 3 (some .int) ∈ gw_all := List.mem_filter.mpr ⟨mt_5 (List.mem_of_getElem? (i := 100) rfl), rfl⟩
set_option maxRecDepth 100000 in
theorem mw_1112 : Cond.constantLong RX7 102 268435455 ∈ gw_all := List.mem_filter.mpr ⟨mt_5 (List.mem_of_getElem? (i := 101) rfl), rfl⟩
set_option maxRecDepth 100000 in
theorem mw_1113 : Cond.constantLong RX7 104 999999 ∈ gw_all := List.mem_filter.mpr ⟨mt_5 (List.mem_of_getElem? (i := 102) rfl), rfl⟩
set_option maxRecDepth 100000 in
theorem mw_1114 : Cond.methodLink RX7 96 yX7_kernelOf ∈ gw_all := List.mem_filter.mpr ⟨mt_5 (List.mem_of_getElem? (i := 103) rfl), rfl⟩
set_option maxRecDepth 100000 in
theorem mw_1115 : Cond.static yX7_kernelOf ∈ gw_all := List.mem_filter.mpr ⟨mt_5 (List.mem_of_getElem? (i := 104) rfl), rfl⟩
set_option maxRecDepth 100000 in
theorem mw_1116 : Cond.code yX7_kernelOf cX7_kernelOf 8 (some .int) ∈ gw_all := List.mem_filter.mpr ⟨mt_5 (List.mem_of_getElem? (i := 105) rfl), rfl⟩
set_option maxRecDepth 100000 in
theorem mw_1117 : Cond.fieldLink RX7 90 RX7 "PAIRS" "[I" ∈ gw_all := List.mem_filter.mpr ⟨mt_5 (List.mem_of_getElem? (i := 106) rfl), rfl⟩
set_option maxRecDepth 100000 in
theorem nw_1118 : Cond.laysStatic RX7 "PAIRS" "[I" ∈ lw_tbl := mt_5 (List.mem_of_getElem? (i := 107) rfl)
set_option maxRecDepth 100000 in
theorem mw_1119 : Cond.methodLink RL 94 yX7_hop ∈ gw_all := List.mem_filter.mpr ⟨mt_5 (List.mem_of_getElem? (i := 108) rfl), rfl⟩
set_option maxRecDepth 100000 in
theorem mw_1120 : Cond.instanceMethod yX7_hop ∈ gw_all := List.mem_filter.mpr ⟨mt_5 (List.mem_of_getElem? (i := 109) rfl), rfl⟩
set_option maxRecDepth 100000 in
theorem mw_1121 : Cond.selects RX7 yX7_hop yX7_hop ∈ gw_all := List.mem_filter.mpr ⟨mt_5 (List.mem_of_getElem? (i := 110) rfl), rfl⟩
set_option maxRecDepth 100000 in
theorem mw_1122 : Cond.code yX7_hop cX7_hop 4 (some .int) ∈ gw_all := List.mem_filter.mpr ⟨mt_5 (List.mem_of_getElem? (i := 111) rfl), rfl⟩
set_option maxRecDepth 100000 in
theorem mw_1123 : Cond.methodLink RX7 78 yX7_isNet ∈ gw_all := List.mem_filter.mpr ⟨mt_5 (List.mem_of_getElem? (i := 112) rfl), rfl⟩
set_option maxRecDepth 100000 in
theorem mw_1125 : Cond.instanceMethod yX7_isNet ∈ gw_all := List.mem_filter.mpr ⟨mt_5 (List.mem_of_getElem? (i := 114) rfl), rfl⟩
set_option maxRecDepth 100000 in
theorem mw_1126 : Cond.code yX7_isNet cX7_isNet 2 (some .boolean) ∈ gw_all := List.mem_filter.mpr ⟨mt_5 (List.mem_of_getElem? (i := 115) rfl), rfl⟩
set_option maxRecDepth 100000 in
theorem mw_1127 : Cond.methodLink RX7 75 yX7_netAt ∈ gw_all := List.mem_filter.mpr ⟨mt_5 (List.mem_of_getElem? (i := 116) rfl), rfl⟩
set_option maxRecDepth 100000 in
theorem mw_1128 : Cond.static yX7_netAt ∈ gw_all := List.mem_filter.mpr ⟨mt_5 (List.mem_of_getElem? (i := 117) rfl), rfl⟩
set_option maxRecDepth 100000 in
theorem mw_1129 : Cond.code yX7_netAt cX7_netAt 1 (some .int) ∈ gw_all := List.mem_filter.mpr ⟨mt_5 (List.mem_of_getElem? (i := 118) rfl), rfl⟩
set_option maxRecDepth 100000 in
theorem mw_1130 : Cond.methodLink RX7 106 yX7_isLink ∈ gw_all := List.mem_filter.mpr ⟨mt_5 (List.mem_of_getElem? (i := 119) rfl), rfl⟩
set_option maxRecDepth 100000 in
theorem mw_1132 : Cond.instanceMethod yX7_isLink ∈ gw_all := List.mem_filter.mpr ⟨mt_5 (List.mem_of_getElem? (i := 121) rfl), rfl⟩
set_option maxRecDepth 100000 in
theorem mw_1133 : Cond.code yX7_isLink cX7_isLink 3 (some .boolean) ∈ gw_all := List.mem_filter.mpr ⟨mt_5 (List.mem_of_getElem? (i := 122) rfl), rfl⟩
set_option maxRecDepth 100000 in
theorem mw_1134 : Cond.constantLong RX7 109 199999 ∈ gw_all := List.mem_filter.mpr ⟨mt_5 (List.mem_of_getElem? (i := 123) rfl), rfl⟩
set_option maxRecDepth 100000 in
theorem mw_1135 : Cond.methodLink RX7 111 yX7_mapHeld ∈ gw_all := List.mem_filter.mpr ⟨mt_5 (List.mem_of_getElem? (i := 124) rfl), rfl⟩
set_option maxRecDepth 100000 in
theorem mw_1137 : Cond.instanceMethod yX7_mapHeld ∈ gw_all := List.mem_filter.mpr ⟨mt_5 (List.mem_of_getElem? (i := 126) rfl), rfl⟩
set_option maxRecDepth 100000 in
theorem mw_1138 : Cond.code yX7_mapHeld cX7_mapHeld 3 (some .int) ∈ gw_all := List.mem_filter.mpr ⟨mt_5 (List.mem_of_getElem? (i := 127) rfl), rfl⟩
set_option maxRecDepth 100000 in
theorem mw_1139 : Cond.methodLink RX7 82 yX7_linkAt ∈ gw_all := List.mem_filter.mpr ⟨mt_5 (List.mem_of_getElem? (i := 128) rfl), rfl⟩
set_option maxRecDepth 100000 in
theorem mw_1140 : Cond.static yX7_linkAt ∈ gw_all := List.mem_filter.mpr ⟨mt_5 (List.mem_of_getElem? (i := 129) rfl), rfl⟩
set_option maxRecDepth 100000 in
theorem mw_1141 : Cond.code yX7_linkAt cX7_linkAt 2 (some .int) ∈ gw_all := List.mem_filter.mpr ⟨mt_5 (List.mem_of_getElem? (i := 130) rfl), rfl⟩
set_option maxRecDepth 100000 in
theorem mw_1142 : Cond.methodLink RX7 114 yX7_hopOf ∈ gw_all := List.mem_filter.mpr ⟨mt_5 (List.mem_of_getElem? (i := 131) rfl), rfl⟩
set_option maxRecDepth 100000 in
theorem mw_1144 : Cond.instanceMethod yX7_hopOf ∈ gw_all := List.mem_filter.mpr ⟨mt_5 (List.mem_of_getElem? (i := 133) rfl), rfl⟩
set_option maxRecDepth 100000 in
theorem mw_1145 : Cond.code yX7_hopOf cX7_hopOf 5 (some .int) ∈ gw_all := List.mem_filter.mpr ⟨mt_5 (List.mem_of_getElem? (i := 134) rfl), rfl⟩
set_option maxRecDepth 100000 in
theorem mw_1146 : Cond.methodLink RX7 99 yX7_byMap ∈ gw_all := List.mem_filter.mpr ⟨mt_5 (List.mem_of_getElem? (i := 135) rfl), rfl⟩
set_option maxRecDepth 100000 in
theorem mw_1147 : Cond.static yX7_byMap ∈ gw_all := List.mem_filter.mpr ⟨mt_5 (List.mem_of_getElem? (i := 136) rfl), rfl⟩
set_option maxRecDepth 100000 in
theorem mw_1148 : Cond.code yX7_byMap cX7_byMap 4 (some .int) ∈ gw_all := List.mem_filter.mpr ⟨mt_5 (List.mem_of_getElem? (i := 137) rfl), rfl⟩
set_option maxRecDepth 100000 in
theorem mw_1149 : Cond.methodLink RX7 93 yX7_bits ∈ gw_all := List.mem_filter.mpr ⟨mt_5 (List.mem_of_getElem? (i := 138) rfl), rfl⟩
set_option maxRecDepth 100000 in
theorem mw_1150 : Cond.static yX7_bits ∈ gw_all := List.mem_filter.mpr ⟨mt_5 (List.mem_of_getElem? (i := 139) rfl), rfl⟩
set_option maxRecDepth 100000 in
theorem mw_1151 : Cond.code yX7_bits cX7_bits 3 (some .int) ∈ gw_all := List.mem_filter.mpr ⟨mt_5 (List.mem_of_getElem? (i := 140) rfl), rfl⟩
set_option maxRecDepth 100000 in
theorem mw_1152 : Cond.methodLink RL 17 yX7_radio ∈ gw_all := List.mem_filter.mpr ⟨mt_5 (List.mem_of_getElem? (i := 141) rfl), rfl⟩
set_option maxRecDepth 100000 in
theorem mw_1153 : Cond.instanceMethod yX7_radio ∈ gw_all := List.mem_filter.mpr ⟨mt_5 (List.mem_of_getElem? (i := 142) rfl), rfl⟩
set_option maxRecDepth 100000 in
theorem mw_1154 : Cond.selects RX7 yX7_radio yX7_radio ∈ gw_all := List.mem_filter.mpr ⟨mt_5 (List.mem_of_getElem? (i := 143) rfl), rfl⟩
set_option maxRecDepth 100000 in
theorem mw_1155 : Cond.code yX7_radio cX7_radio 3 (some .int) ∈ gw_all := List.mem_filter.mpr ⟨mt_5 (List.mem_of_getElem? (i := 144) rfl), rfl⟩
set_option maxRecDepth 100000 in
theorem mw_1156 : Cond.methodLink RX7 118 yX7_remember ∈ gw_all := List.mem_filter.mpr ⟨mt_5 (List.mem_of_getElem? (i := 145) rfl), rfl⟩
set_option maxRecDepth 100000 in
theorem mw_1158 : Cond.instanceMethod yX7_remember ∈ gw_all := List.mem_filter.mpr ⟨mt_5 (List.mem_of_getElem? (i := 147) rfl), rfl⟩
set_option maxRecDepth 100000 in
theorem mw_1159 : Cond.code yX7_remember cX7_remember 3 none ∈ gw_all := List.mem_filter.mpr ⟨mt_5 (List.mem_of_getElem? (i := 148) rfl), rfl⟩
set_option maxRecDepth 100000 in
theorem mw_1160 : Cond.methodLink RL 22 yX7_net ∈ gw_all := List.mem_filter.mpr ⟨mt_5 (List.mem_of_getElem? (i := 149) rfl), rfl⟩
set_option maxRecDepth 100000 in
theorem mw_1161 : Cond.instanceMethod yX7_net ∈ gw_all := List.mem_filter.mpr ⟨mt_5 (List.mem_of_getElem? (i := 150) rfl), rfl⟩
set_option maxRecDepth 100000 in
theorem mw_1162 : Cond.selects RX7 yX7_net yX7_net ∈ gw_all := List.mem_filter.mpr ⟨mt_5 (List.mem_of_getElem? (i := 151) rfl), rfl⟩
set_option maxRecDepth 100000 in
theorem mw_1163 : Cond.code yX7_net cX7_net 6 (some .int) ∈ gw_all := List.mem_filter.mpr ⟨mt_5 (List.mem_of_getElem? (i := 152) rfl), rfl⟩
set_option maxRecDepth 100000 in
theorem mw_1164 : Cond.constantLong RX7 122 65535 ∈ gw_all := List.mem_filter.mpr ⟨mt_5 (List.mem_of_getElem? (i := 153) rfl), rfl⟩
set_option maxRecDepth 100000 in
theorem mw_1165 : Cond.methodLink RX7 124 yX7_isRadio ∈ gw_all := List.mem_filter.mpr ⟨mt_5 (List.mem_of_getElem? (i := 154) rfl), rfl⟩
set_option maxRecDepth 100000 in
theorem mw_1167 : Cond.instanceMethod yX7_isRadio ∈ gw_all := List.mem_filter.mpr ⟨mt_5 (List.mem_of_getElem? (i := 156) rfl), rfl⟩
set_option maxRecDepth 100000 in
theorem mw_1168 : Cond.code yX7_isRadio cX7_isRadio 2 (some .boolean) ∈ gw_all := List.mem_filter.mpr ⟨mt_5 (List.mem_of_getElem? (i := 157) rfl), rfl⟩
set_option maxRecDepth 100000 in
theorem mw_1169 : Cond.constant RX7 127 8388607 ∈ gw_all := List.mem_filter.mpr ⟨mt_5 (List.mem_of_getElem? (i := 158) rfl), rfl⟩
set_option maxRecDepth 100000 in
theorem mw_1170 : Cond.methodLink RL 27 yX7_join ∈ gw_all := List.mem_filter.mpr ⟨mt_5 (List.mem_of_getElem? (i := 159) rfl), rfl⟩
set_option maxRecDepth 100000 in
theorem mw_1171 : Cond.instanceMethod yX7_join ∈ gw_all := List.mem_filter.mpr ⟨mt_5 (List.mem_of_getElem? (i := 160) rfl), rfl⟩
set_option maxRecDepth 100000 in
theorem mw_1172 : Cond.selects RX7 yX7_join yX7_join ∈ gw_all := List.mem_filter.mpr ⟨mt_5 (List.mem_of_getElem? (i := 161) rfl), rfl⟩
set_option maxRecDepth 100000 in
theorem mw_1173 : Cond.code yX7_join cX7_join 7 (some .int) ∈ gw_all := List.mem_filter.mpr ⟨mt_5 (List.mem_of_getElem? (i := 162) rfl), rfl⟩
set_option maxRecDepth 100000 in
theorem mw_1174 : Cond.methodLink RX7 86 yX7_isIn ∈ gw_all := List.mem_filter.mpr ⟨mt_5 (List.mem_of_getElem? (i := 163) rfl), rfl⟩
set_option maxRecDepth 100000 in
theorem mw_1176 : Cond.instanceMethod yX7_isIn ∈ gw_all := List.mem_filter.mpr ⟨mt_5 (List.mem_of_getElem? (i := 165) rfl), rfl⟩
set_option maxRecDepth 100000 in
theorem mw_1177 : Cond.code yX7_isIn cX7_isIn 5 (some .boolean) ∈ gw_all := List.mem_filter.mpr ⟨mt_5 (List.mem_of_getElem? (i := 166) rfl), rfl⟩
set_option maxRecDepth 100000 in
theorem mw_1178 : Cond.methodLink RL 31 yX7_leave ∈ gw_all := List.mem_filter.mpr ⟨mt_5 (List.mem_of_getElem? (i := 167) rfl), rfl⟩
set_option maxRecDepth 100000 in
theorem mw_1179 : Cond.instanceMethod yX7_leave ∈ gw_all := List.mem_filter.mpr ⟨mt_5 (List.mem_of_getElem? (i := 168) rfl), rfl⟩
set_option maxRecDepth 100000 in
theorem mw_1180 : Cond.selects RX7 yX7_leave yX7_leave ∈ gw_all := List.mem_filter.mpr ⟨mt_5 (List.mem_of_getElem? (i := 169) rfl), rfl⟩
set_option maxRecDepth 100000 in
theorem mw_1181 : Cond.code yX7_leave cX7_leave 5 (some .int) ∈ gw_all := List.mem_filter.mpr ⟨mt_5 (List.mem_of_getElem? (i := 170) rfl), rfl⟩
set_option maxRecDepth 100000 in
theorem mw_1182 : Cond.methodLink RL 35 yX7_noise ∈ gw_all := List.mem_filter.mpr ⟨mt_5 (List.mem_of_getElem? (i := 171) rfl), rfl⟩
set_option maxRecDepth 100000 in
theorem mw_1183 : Cond.instanceMethod yX7_noise ∈ gw_all := List.mem_filter.mpr ⟨mt_5 (List.mem_of_getElem? (i := 172) rfl), rfl⟩
set_option maxRecDepth 100000 in
theorem mw_1184 : Cond.selects RX7 yX7_noise yX7_noise ∈ gw_all := List.mem_filter.mpr ⟨mt_5 (List.mem_of_getElem? (i := 173) rfl), rfl⟩
set_option maxRecDepth 100000 in
theorem mw_1185 : Cond.code yX7_noise cX7_noise 4 (some .int) ∈ gw_all := List.mem_filter.mpr ⟨mt_5 (List.mem_of_getElem? (i := 174) rfl), rfl⟩
set_option maxRecDepth 100000 in
theorem mw_1186 : Cond.constantLong RX7 128 22 ∈ gw_all := List.mem_filter.mpr ⟨mt_5 (List.mem_of_getElem? (i := 175) rfl), rfl⟩
set_option maxRecDepth 100000 in
theorem mw_1187 : Cond.constantLong RX7 130 16 ∈ gw_all := List.mem_filter.mpr ⟨mt_5 (List.mem_of_getElem? (i := 176) rfl), rfl⟩
set_option maxRecDepth 100000 in
theorem mw_1188 : Cond.methodLink RL 39 yX7_terms ∈ gw_all := List.mem_filter.mpr ⟨mt_5 (List.mem_of_getElem? (i := 177) rfl), rfl⟩
set_option maxRecDepth 100000 in
theorem mw_1189 : Cond.instanceMethod yX7_terms ∈ gw_all := List.mem_filter.mpr ⟨mt_5 (List.mem_of_getElem? (i := 178) rfl), rfl⟩
set_option maxRecDepth 100000 in
theorem mw_1190 : Cond.selects RX7 yX7_terms yX7_terms ∈ gw_all := List.mem_filter.mpr ⟨mt_5 (List.mem_of_getElem? (i := 179) rfl), rfl⟩
set_option maxRecDepth 100000 in
theorem mw_1191 : Cond.code yX7_terms cX7_terms 4 (some .int) ∈ gw_all := List.mem_filter.mpr ⟨mt_5 (List.mem_of_getElem? (i := 180) rfl), rfl⟩
set_option maxRecDepth 100000 in
theorem mw_1192 : Cond.constantLong RX7 134 2 ∈ gw_all := List.mem_filter.mpr ⟨mt_5 (List.mem_of_getElem? (i := 181) rfl), rfl⟩
set_option maxRecDepth 100000 in
theorem mw_1193 : Cond.constantLong RX7 136 1000000 ∈ gw_all := List.mem_filter.mpr ⟨mt_5 (List.mem_of_getElem? (i := 182) rfl), rfl⟩
set_option maxRecDepth 100000 in
theorem mw_1194 : Cond.methodLink RX7 138 yX7_isShare ∈ gw_all := List.mem_filter.mpr ⟨mt_5 (List.mem_of_getElem? (i := 183) rfl), rfl⟩
set_option maxRecDepth 100000 in
theorem mw_1195 : Cond.static yX7_isShare ∈ gw_all := List.mem_filter.mpr ⟨mt_5 (List.mem_of_getElem? (i := 184) rfl), rfl⟩
set_option maxRecDepth 100000 in
theorem mw_1196 : Cond.code yX7_isShare cX7_isShare 1 (some .boolean) ∈ gw_all := List.mem_filter.mpr ⟨mt_5 (List.mem_of_getElem? (i := 185) rfl), rfl⟩
set_option maxRecDepth 100000 in
theorem mw_1197 : Cond.constantLong RX7 132 32 ∈ gw_all := List.mem_filter.mpr ⟨mt_5 (List.mem_of_getElem? (i := 186) rfl), rfl⟩
set_option maxRecDepth 100000 in
theorem mw_1198 : Cond.constantLong RX7 141 4 ∈ gw_all := List.mem_filter.mpr ⟨mt_5 (List.mem_of_getElem? (i := 187) rfl), rfl⟩
set_option maxRecDepth 100000 in
theorem mw_1199 : Cond.methodLink RL 44 yX7_put ∈ gw_all := List.mem_filter.mpr ⟨mt_5 (List.mem_of_getElem? (i := 188) rfl), rfl⟩
set_option maxRecDepth 100000 in
theorem mw_1200 : Cond.instanceMethod yX7_put ∈ gw_all := List.mem_filter.mpr ⟨mt_5 (List.mem_of_getElem? (i := 189) rfl), rfl⟩
set_option maxRecDepth 100000 in
theorem mw_1201 : Cond.selects RX7 yX7_put yX7_put ∈ gw_all := List.mem_filter.mpr ⟨mt_5 (List.mem_of_getElem? (i := 190) rfl), rfl⟩
set_option maxRecDepth 100000 in
theorem mw_1202 : Cond.code yX7_put cX7_put 7 (some .int) ∈ gw_all := List.mem_filter.mpr ⟨mt_5 (List.mem_of_getElem? (i := 191) rfl), rfl⟩
set_option maxRecDepth 100000 in
theorem mw_1203 : Cond.constantLong RX7 143 255 ∈ gw_all := List.mem_filter.mpr ⟨mt_5 (List.mem_of_getElem? (i := 192) rfl), rfl⟩
set_option maxRecDepth 100000 in
theorem mw_1204 : Cond.methodLink RX7 145 yX7_comes ∈ gw_all := List.mem_filter.mpr ⟨mt_5 (List.mem_of_getElem? (i := 193) rfl), rfl⟩
set_option maxRecDepth 100000 in
theorem mw_1206 : Cond.instanceMethod yX7_comes ∈ gw_all := List.mem_filter.mpr ⟨mt_5 (List.mem_of_getElem? (i := 195) rfl), rfl⟩
set_option maxRecDepth 100000 in
theorem mw_1207 : Cond.code yX7_comes cX7_comes 5 none ∈ gw_all := List.mem_filter.mpr ⟨mt_5 (List.mem_of_getElem? (i := 196) rfl), rfl⟩
set_option maxRecDepth 100000 in
theorem mw_1208 : Cond.methodLink RL 53 yX7_sniff ∈ gw_all := List.mem_filter.mpr ⟨mt_5 (List.mem_of_getElem? (i := 197) rfl), rfl⟩
set_option maxRecDepth 100000 in
theorem mw_1209 : Cond.instanceMethod yX7_sniff ∈ gw_all := List.mem_filter.mpr ⟨mt_5 (List.mem_of_getElem? (i := 198) rfl), rfl⟩
set_option maxRecDepth 100000 in
theorem mw_1210 : Cond.selects RX7 yX7_sniff yX7_sniff ∈ gw_all := List.mem_filter.mpr ⟨mt_5 (List.mem_of_getElem? (i := 199) rfl), rfl⟩
set_option maxRecDepth 100000 in
theorem mw_1211 : Cond.code yX7_sniff cX7_sniff 7 (some .int) ∈ gw_all := List.mem_filter.mpr ⟨mt_5 (List.mem_of_getElem? (i := 200) rfl), rfl⟩
set_option maxRecDepth 100000 in
theorem mw_1212 : Cond.methodLink RX7 149 yX7_isEven ∈ gw_all := List.mem_filter.mpr ⟨mt_5 (List.mem_of_getElem? (i := 201) rfl), rfl⟩
set_option maxRecDepth 100000 in
theorem mw_1213 : Cond.static yX7_isEven ∈ gw_all := List.mem_filter.mpr ⟨mt_5 (List.mem_of_getElem? (i := 202) rfl), rfl⟩
set_option maxRecDepth 100000 in
theorem mw_1214 : Cond.code yX7_isEven cX7_isEven 3 (some .boolean) ∈ gw_all := List.mem_filter.mpr ⟨mt_5 (List.mem_of_getElem? (i := 203) rfl), rfl⟩
set_option maxRecDepth 100000 in
theorem mw_1215 : Cond.methodLink RL 57 yX7_weigh ∈ gw_all := List.mem_filter.mpr ⟨mt_5 (List.mem_of_getElem? (i := 204) rfl), rfl⟩
set_option maxRecDepth 100000 in
theorem mw_1216 : Cond.instanceMethod yX7_weigh ∈ gw_all := List.mem_filter.mpr ⟨mt_5 (List.mem_of_getElem? (i := 205) rfl), rfl⟩
set_option maxRecDepth 100000 in
theorem mw_1217 : Cond.selects RX7 yX7_weigh yX7_weigh ∈ gw_all := List.mem_filter.mpr ⟨mt_5 (List.mem_of_getElem? (i := 206) rfl), rfl⟩
set_option maxRecDepth 100000 in
theorem mw_1218 : Cond.code yX7_weigh cX7_weigh 6 (some .int) ∈ gw_all := List.mem_filter.mpr ⟨mt_5 (List.mem_of_getElem? (i := 207) rfl), rfl⟩
set_option maxRecDepth 100000 in
theorem mw_1219 : Cond.methodLink RL 61 yX7_cast ∈ gw_all := List.mem_filter.mpr ⟨mt_5 (List.mem_of_getElem? (i := 208) rfl), rfl⟩
set_option maxRecDepth 100000 in
theorem mw_1220 : Cond.instanceMethod yX7_cast ∈ gw_all := List.mem_filter.mpr ⟨mt_5 (List.mem_of_getElem? (i := 209) rfl), rfl⟩
set_option maxRecDepth 100000 in
theorem mw_1221 : Cond.selects RX7 yX7_cast yX7_cast ∈ gw_all := List.mem_filter.mpr ⟨mt_5 (List.mem_of_getElem? (i := 210) rfl), rfl⟩
set_option maxRecDepth 100000 in
theorem mw_1222 : Cond.code yX7_cast cX7_cast 4 (some .int) ∈ gw_all := List.mem_filter.mpr ⟨mt_5 (List.mem_of_getElem? (i := 211) rfl), rfl⟩
set_option maxRecDepth 100000 in
theorem mw_1223 : Cond.methodLink RL 49 yX7_reserve ∈ gw_all := List.mem_filter.mpr ⟨mt_5 (List.mem_of_getElem? (i := 212) rfl), rfl⟩
set_option maxRecDepth 100000 in
theorem mw_1224 : Cond.instanceMethod yX7_reserve ∈ gw_all := List.mem_filter.mpr ⟨mt_5 (List.mem_of_getElem? (i := 213) rfl), rfl⟩
set_option maxRecDepth 100000 in
theorem mw_1225 : Cond.selects RX7 yX7_reserve yX7_reserve ∈ gw_all := List.mem_filter.mpr ⟨mt_5 (List.mem_of_getElem? (i := 214) rfl), rfl⟩
set_option maxRecDepth 100000 in
theorem mw_1226 : Cond.code yX7_reserve cX7_reserve 8 (some .int) ∈ gw_all := List.mem_filter.mpr ⟨mt_5 (List.mem_of_getElem? (i := 215) rfl), rfl⟩
set_option maxRecDepth 100000 in
theorem mw_1227 : Cond.constantLong RX7 153 3 ∈ gw_all := List.mem_filter.mpr ⟨mt_5 (List.mem_of_getElem? (i := 216) rfl), rfl⟩
set_option maxRecDepth 100000 in
theorem mw_1228 : Cond.methodLink RL 65 yX7_map ∈ gw_all := List.mem_filter.mpr ⟨mt_5 (List.mem_of_getElem? (i := 217) rfl), rfl⟩
set_option maxRecDepth 100000 in
theorem mw_1229 : Cond.instanceMethod yX7_map ∈ gw_all := List.mem_filter.mpr ⟨mt_5 (List.mem_of_getElem? (i := 218) rfl), rfl⟩
set_option maxRecDepth 100000 in
theorem mw_1230 : Cond.selects RX7 yX7_map yX7_map ∈ gw_all := List.mem_filter.mpr ⟨mt_5 (List.mem_of_getElem? (i := 219) rfl), rfl⟩
set_option maxRecDepth 100000 in
theorem mw_1231 : Cond.code yX7_map cX7_map 4 (some .int) ∈ gw_all := List.mem_filter.mpr ⟨mt_5 (List.mem_of_getElem? (i := 220) rfl), rfl⟩
set_option maxRecDepth 100000 in
theorem mw_1232 : Cond.constantLong RX7 155 8388607 ∈ gw_all := List.mem_filter.mpr ⟨mt_5 (List.mem_of_getElem? (i := 221) rfl), rfl⟩
set_option maxRecDepth 100000 in
theorem mw_1233 : Cond.constantLong RX7 157 100 ∈ gw_all := List.mem_filter.mpr ⟨mt_5 (List.mem_of_getElem? (i := 222) rfl), rfl⟩
set_option maxRecDepth 100000 in
theorem mw_1234 : Cond.methodLink RX7 159 yX7_tellMap ∈ gw_all := List.mem_filter.mpr ⟨mt_5 (List.mem_of_getElem? (i := 223) rfl), rfl⟩
set_option maxRecDepth 100000 in
theorem mw_1236 : Cond.instanceMethod yX7_tellMap ∈ gw_all := List.mem_filter.mpr ⟨mt_5 (List.mem_of_getElem? (i := 225) rfl), rfl⟩
set_option maxRecDepth 100000 in
theorem mw_1237 : Cond.code yX7_tellMap cX7_tellMap 6 (some .int) ∈ gw_all := List.mem_filter.mpr ⟨mt_5 (List.mem_of_getElem? (i := 226) rfl), rfl⟩
set_option maxRecDepth 100000 in
theorem mw_1238 : Cond.methodLink RL 69 yX7_adapt ∈ gw_all := List.mem_filter.mpr ⟨mt_5 (List.mem_of_getElem? (i := 227) rfl), rfl⟩
set_option maxRecDepth 100000 in
theorem mw_1239 : Cond.instanceMethod yX7_adapt ∈ gw_all := List.mem_filter.mpr ⟨mt_5 (List.mem_of_getElem? (i := 228) rfl), rfl⟩
set_option maxRecDepth 100000 in
theorem mw_1240 : Cond.selects RX7 yX7_adapt yX7_adapt ∈ gw_all := List.mem_filter.mpr ⟨mt_5 (List.mem_of_getElem? (i := 229) rfl), rfl⟩
set_option maxRecDepth 100000 in
theorem mw_1241 : Cond.code yX7_adapt cX7_adapt 8 (some .int) ∈ gw_all := List.mem_filter.mpr ⟨mt_5 (List.mem_of_getElem? (i := 230) rfl), rfl⟩
set_option maxRecDepth 100000 in
theorem mw_1242 : Cond.constantLong RX7 162 99 ∈ gw_all := List.mem_filter.mpr ⟨mt_5 (List.mem_of_getElem? (i := 231) rfl), rfl⟩
set_option maxRecDepth 100000 in
theorem mw_1243 : Cond.methodLink RX7 164 yX7_badOf ∈ gw_all := List.mem_filter.mpr ⟨mt_5 (List.mem_of_getElem? (i := 232) rfl), rfl⟩
set_option maxRecDepth 100000 in
theorem mw_1245 : Cond.instanceMethod yX7_badOf ∈ gw_all := List.mem_filter.mpr ⟨mt_5 (List.mem_of_getElem? (i := 234) rfl), rfl⟩
set_option maxRecDepth 100000 in
theorem mw_1246 : Cond.code yX7_badOf cX7_badOf 7 (some .int) ∈ gw_all := List.mem_filter.mpr ⟨mt_5 (List.mem_of_getElem? (i := 235) rfl), rfl⟩
set_option maxRecDepth 100000 in
theorem mw_1247 : Cond.methodLink RX7 167 yX7_aheadOf ∈ gw_all := List.mem_filter.mpr ⟨mt_5 (List.mem_of_getElem? (i := 236) rfl), rfl⟩
set_option maxRecDepth 100000 in
theorem mw_1249 : Cond.instanceMethod yX7_aheadOf ∈ gw_all := List.mem_filter.mpr ⟨mt_5 (List.mem_of_getElem? (i := 238) rfl), rfl⟩
set_option maxRecDepth 100000 in
theorem mw_1250 : Cond.code yX7_aheadOf cX7_aheadOf 6 (some .int) ∈ gw_all := List.mem_filter.mpr ⟨mt_5 (List.mem_of_getElem? (i := 239) rfl), rfl⟩
set_option maxRecDepth 100000 in
theorem mw_1251 : Cond.methodLink RL 73 yX7_run ∈ gw_all := List.mem_filter.mpr ⟨mt_6 (List.mem_of_getElem? (i := 0) rfl), rfl⟩
set_option maxRecDepth 100000 in
theorem mw_1252 : Cond.instanceMethod yX7_run ∈ gw_all := List.mem_filter.mpr ⟨mt_6 (List.mem_of_getElem? (i := 1) rfl), rfl⟩
set_option maxRecDepth 100000 in
theorem mw_1253 : Cond.selects RX7 yX7_run yX7_run ∈ gw_all := List.mem_filter.mpr ⟨mt_6 (List.mem_of_getElem? (i := 2) rfl), rfl⟩
set_option maxRecDepth 100000 in
theorem mw_1254 : Cond.code yX7_run cX7_run 2 (some .int) ∈ gw_all := List.mem_filter.mpr ⟨mt_6 (List.mem_of_getElem? (i := 3) rfl), rfl⟩
set_option maxRecDepth 100000 in
theorem mw_1255 : Cond.constantLong RX7 239 200 ∈ gw_all := List.mem_filter.mpr ⟨mt_6 (List.mem_of_getElem? (i := 4) rfl), rfl⟩
set_option maxRecDepth 100000 in
theorem mw_1256 : Cond.constant RX7 241 99998 ∈ gw_all := List.mem_filter.mpr ⟨mt_6 (List.mem_of_getElem? (i := 5) rfl), rfl⟩
set_option maxRecDepth 100000 in
theorem mw_1257 : Cond.methodLink RX7 242 yX7_turnsBy ∈ gw_all := List.mem_filter.mpr ⟨mt_6 (List.mem_of_getElem? (i := 6) rfl), rfl⟩
set_option maxRecDepth 100000 in
theorem mw_1259 : Cond.instanceMethod yX7_turnsBy ∈ gw_all := List.mem_filter.mpr ⟨mt_6 (List.mem_of_getElem? (i := 8) rfl), rfl⟩
set_option maxRecDepth 100000 in
theorem mw_1260 : Cond.code yX7_turnsBy cX7_turnsBy 3 none ∈ gw_all := List.mem_filter.mpr ⟨mt_6 (List.mem_of_getElem? (i := 9) rfl), rfl⟩
set_option maxRecDepth 100000 in
theorem mw_1261 : Cond.methodLink RX7 236 yX7_turn ∈ gw_all := List.mem_filter.mpr ⟨mt_6 (List.mem_of_getElem? (i := 10) rfl), rfl⟩
set_option maxRecDepth 100000 in
theorem mw_1263 : Cond.instanceMethod yX7_turn ∈ gw_all := List.mem_filter.mpr ⟨mt_6 (List.mem_of_getElem? (i := 12) rfl), rfl⟩
set_option maxRecDepth 100000 in
theorem mw_1264 : Cond.code yX7_turn cX7_turn 5 none ∈ gw_all := List.mem_filter.mpr ⟨mt_6 (List.mem_of_getElem? (i := 13) rfl), rfl⟩
set_option maxRecDepth 100000 in
theorem mw_1265 : Cond.methodLink RX7 218 yX7_mapsBecome ∈ gw_all := List.mem_filter.mpr ⟨mt_6 (List.mem_of_getElem? (i := 14) rfl), rfl⟩
set_option maxRecDepth 100000 in
theorem mw_1267 : Cond.instanceMethod yX7_mapsBecome ∈ gw_all := List.mem_filter.mpr ⟨mt_6 (List.mem_of_getElem? (i := 16) rfl), rfl⟩
set_option maxRecDepth 100000 in
theorem mw_1268 : Cond.code yX7_mapsBecome cX7_mapsBecome 5 none ∈ gw_all := List.mem_filter.mpr ⟨mt_6 (List.mem_of_getElem? (i := 17) rfl), rfl⟩
set_option maxRecDepth 100000 in
theorem mw_1269 : Cond.methodLink RX7 221 yX7_framesCome ∈ gw_all := List.mem_filter.mpr ⟨mt_6 (List.mem_of_getElem? (i := 18) rfl), rfl⟩
set_option maxRecDepth 100000 in
theorem mw_1271 : Cond.instanceMethod yX7_framesCome ∈ gw_all := List.mem_filter.mpr ⟨mt_6 (List.mem_of_getElem? (i := 20) rfl), rfl⟩
set_option maxRecDepth 100000 in
theorem mw_1272 : Cond.code yX7_framesCome cX7_framesCome 2 none ∈ gw_all := List.mem_filter.mpr ⟨mt_6 (List.mem_of_getElem? (i := 21) rfl), rfl⟩
set_option maxRecDepth 100000 in
theorem mw_1273 : Cond.methodLink RX7 182 yX7_isLinkHere ∈ gw_all := List.mem_filter.mpr ⟨mt_6 (List.mem_of_getElem? (i := 22) rfl), rfl⟩
set_option maxRecDepth 100000 in
theorem mw_1275 : Cond.instanceMethod yX7_isLinkHere ∈ gw_all := List.mem_filter.mpr ⟨mt_6 (List.mem_of_getElem? (i := 24) rfl), rfl⟩
set_option maxRecDepth 100000 in
theorem mw_1276 : Cond.code yX7_isLinkHere cX7_isLinkHere 3 (some .boolean) ∈ gw_all := List.mem_filter.mpr ⟨mt_6 (List.mem_of_getElem? (i := 25) rfl), rfl⟩
set_option maxRecDepth 100000 in
theorem mw_1277 : Cond.methodLink RX7 179 yX7_isReady ∈ gw_all := List.mem_filter.mpr ⟨mt_6 (List.mem_of_getElem? (i := 26) rfl), rfl⟩
set_option maxRecDepth 100000 in
theorem mw_1279 : Cond.instanceMethod yX7_isReady ∈ gw_all := List.mem_filter.mpr ⟨mt_6 (List.mem_of_getElem? (i := 28) rfl), rfl⟩
set_option maxRecDepth 100000 in
theorem mw_1280 : Cond.code yX7_isReady cX7_isReady 5 (some .boolean) ∈ gw_all := List.mem_filter.mpr ⟨mt_6 (List.mem_of_getElem? (i := 29) rfl), rfl⟩
set_option maxRecDepth 100000 in
theorem mw_1281 : Cond.methodLink RX7 176 yX7_isHere ∈ gw_all := List.mem_filter.mpr ⟨mt_6 (List.mem_of_getElem? (i := 30) rfl), rfl⟩
set_option maxRecDepth 100000 in
theorem mw_1283 : Cond.instanceMethod yX7_isHere ∈ gw_all := List.mem_filter.mpr ⟨mt_6 (List.mem_of_getElem? (i := 32) rfl), rfl⟩
set_option maxRecDepth 100000 in
theorem mw_1284 : Cond.code yX7_isHere cX7_isHere 4 (some .boolean) ∈ gw_all := List.mem_filter.mpr ⟨mt_6 (List.mem_of_getElem? (i := 33) rfl), rfl⟩
set_option maxRecDepth 100000 in
theorem mw_1285 : Cond.methodLink RX7 224 yX7_choose ∈ gw_all := List.mem_filter.mpr ⟨mt_6 (List.mem_of_getElem? (i := 34) rfl), rfl⟩
set_option maxRecDepth 100000 in
theorem mw_1287 : Cond.instanceMethod yX7_choose ∈ gw_all := List.mem_filter.mpr ⟨mt_6 (List.mem_of_getElem? (i := 36) rfl), rfl⟩
set_option maxRecDepth 100000 in
theorem mw_1288 : Cond.code yX7_choose cX7_choose 9 (some .int) ∈ gw_all := List.mem_filter.mpr ⟨mt_6 (List.mem_of_getElem? (i := 37) rfl), rfl⟩
set_option maxRecDepth 100000 in
theorem mw_1289 : Cond.methodLink RX7 227 yX7_sendsDown ∈ gw_all := List.mem_filter.mpr ⟨mt_6 (List.mem_of_getElem? (i := 38) rfl), rfl⟩
set_option maxRecDepth 100000 in
theorem mw_1291 : Cond.instanceMethod yX7_sendsDown ∈ gw_all := List.mem_filter.mpr ⟨mt_6 (List.mem_of_getElem? (i := 40) rfl), rfl⟩
set_option maxRecDepth 100000 in
theorem mw_1292 : Cond.code yX7_sendsDown cX7_sendsDown 5 none ∈ gw_all := List.mem_filter.mpr ⟨mt_6 (List.mem_of_getElem? (i := 41) rfl), rfl⟩
set_option maxRecDepth 100000 in
theorem mw_1293 : Cond.methodLink RX7 196 yX7_mapFor ∈ gw_all := List.mem_filter.mpr ⟨mt_6 (List.mem_of_getElem? (i := 42) rfl), rfl⟩
set_option maxRecDepth 100000 in
theorem mw_1295 : Cond.instanceMethod yX7_mapFor ∈ gw_all := List.mem_filter.mpr ⟨mt_6 (List.mem_of_getElem? (i := 44) rfl), rfl⟩
set_option maxRecDepth 100000 in
theorem mw_1296 : Cond.code yX7_mapFor cX7_mapFor 4 (some .int) ∈ gw_all := List.mem_filter.mpr ⟨mt_6 (List.mem_of_getElem? (i := 45) rfl), rfl⟩
set_option maxRecDepth 100000 in
theorem mw_1297 : Cond.methodLink RX7 199 yX7_casts ∈ gw_all := List.mem_filter.mpr ⟨mt_6 (List.mem_of_getElem? (i := 46) rfl), rfl⟩
set_option maxRecDepth 100000 in
theorem mw_1299 : Cond.instanceMethod yX7_casts ∈ gw_all := List.mem_filter.mpr ⟨mt_6 (List.mem_of_getElem? (i := 48) rfl), rfl⟩
set_option maxRecDepth 100000 in
theorem mw_1300 : Cond.code yX7_casts cX7_casts 6 none ∈ gw_all := List.mem_filter.mpr ⟨mt_6 (List.mem_of_getElem? (i := 49) rfl), rfl⟩
set_option maxRecDepth 100000 in
theorem mw_1301 : Cond.methodLink RX7 202 yX7_whyNot ∈ gw_all := List.mem_filter.mpr ⟨mt_6 (List.mem_of_getElem? (i := 50) rfl), rfl⟩
set_option maxRecDepth 100000 in
theorem mw_1303 : Cond.instanceMethod yX7_whyNot ∈ gw_all := List.mem_filter.mpr ⟨mt_6 (List.mem_of_getElem? (i := 52) rfl), rfl⟩
set_option maxRecDepth 100000 in
theorem mw_1304 : Cond.code yX7_whyNot cX7_whyNot 4 (some .int) ∈ gw_all := List.mem_filter.mpr ⟨mt_6 (List.mem_of_getElem? (i := 53) rfl), rfl⟩
set_option maxRecDepth 100000 in
theorem mw_1305 : Cond.methodLink RX7 185 yX7_draw ∈ gw_all := List.mem_filter.mpr ⟨mt_6 (List.mem_of_getElem? (i := 54) rfl), rfl⟩
set_option maxRecDepth 100000 in
theorem mw_1307 : Cond.instanceMethod yX7_draw ∈ gw_all := List.mem_filter.mpr ⟨mt_6 (List.mem_of_getElem? (i := 56) rfl), rfl⟩
set_option maxRecDepth 100000 in
theorem mw_1308 : Cond.code yX7_draw cX7_draw 1 (some .int) ∈ gw_all := List.mem_filter.mpr ⟨mt_6 (List.mem_of_getElem? (i := 57) rfl), rfl⟩
set_option maxRecDepth 100000 in
theorem mw_1309 : Cond.constantLong RX7 170 1103 ∈ gw_all := List.mem_filter.mpr ⟨mt_6 (List.mem_of_getElem? (i := 58) rfl), rfl⟩
set_option maxRecDepth 100000 in
theorem mw_1310 : Cond.constantLong RX7 172 12345 ∈ gw_all := List.mem_filter.mpr ⟨mt_6 (List.mem_of_getElem? (i := 59) rfl), rfl⟩
set_option maxRecDepth 100000 in
theorem mw_1311 : Cond.constantLong RX7 174 1000003 ∈ gw_all := List.mem_filter.mpr ⟨mt_6 (List.mem_of_getElem? (i := 60) rfl), rfl⟩
set_option maxRecDepth 100000 in
theorem mw_1312 : Cond.methodLink RX7 205 yX7_memberHears ∈ gw_all := List.mem_filter.mpr ⟨mt_6 (List.mem_of_getElem? (i := 61) rfl), rfl⟩
set_option maxRecDepth 100000 in
theorem mw_1314 : Cond.instanceMethod yX7_memberHears ∈ gw_all := List.mem_filter.mpr ⟨mt_6 (List.mem_of_getElem? (i := 63) rfl), rfl⟩
set_option maxRecDepth 100000 in
theorem mw_1315 : Cond.code yX7_memberHears cX7_memberHears 4 none ∈ gw_all := List.mem_filter.mpr ⟨mt_6 (List.mem_of_getElem? (i := 64) rfl), rfl⟩
set_option maxRecDepth 100000 in
theorem mw_1316 : Cond.methodLink RX7 209 yX7_hears ∈ gw_all := List.mem_filter.mpr ⟨mt_6 (List.mem_of_getElem? (i := 65) rfl), rfl⟩
set_option maxRecDepth 100000 in
theorem mw_1318 : Cond.instanceMethod yX7_hears ∈ gw_all := List.mem_filter.mpr ⟨mt_6 (List.mem_of_getElem? (i := 67) rfl), rfl⟩
set_option maxRecDepth 100000 in
theorem mw_1319 : Cond.code yX7_hears cX7_hears 6 none ∈ gw_all := List.mem_filter.mpr ⟨mt_6 (List.mem_of_getElem? (i := 68) rfl), rfl⟩
set_option maxRecDepth 100000 in
theorem mw_1320 : Cond.methodLink RX7 192 yX7_passes ∈ gw_all := List.mem_filter.mpr ⟨mt_6 (List.mem_of_getElem? (i := 69) rfl), rfl⟩
set_option maxRecDepth 100000 in
theorem mw_1322 : Cond.instanceMethod yX7_passes ∈ gw_all := List.mem_filter.mpr ⟨mt_6 (List.mem_of_getElem? (i := 71) rfl), rfl⟩
set_option maxRecDepth 100000 in
theorem mw_1323 : Cond.code yX7_passes cX7_passes 7 none ∈ gw_all := List.mem_filter.mpr ⟨mt_6 (List.mem_of_getElem? (i := 72) rfl), rfl⟩
set_option maxRecDepth 100000 in
theorem mw_1324 : Cond.methodLink RX7 212 yX7_goes ∈ gw_all := List.mem_filter.mpr ⟨mt_6 (List.mem_of_getElem? (i := 73) rfl), rfl⟩
set_option maxRecDepth 100000 in
theorem mw_1326 : Cond.instanceMethod yX7_goes ∈ gw_all := List.mem_filter.mpr ⟨mt_6 (List.mem_of_getElem? (i := 75) rfl), rfl⟩
set_option maxRecDepth 100000 in
theorem mw_1327 : Cond.code yX7_goes cX7_goes 8 none ∈ gw_all := List.mem_filter.mpr ⟨mt_6 (List.mem_of_getElem? (i := 76) rfl), rfl⟩
set_option maxRecDepth 100000 in
theorem mw_1328 : Cond.methodLink RX7 230 yX7_sendsUp ∈ gw_all := List.mem_filter.mpr ⟨mt_6 (List.mem_of_getElem? (i := 77) rfl), rfl⟩
set_option maxRecDepth 100000 in
theorem mw_1330 : Cond.instanceMethod yX7_sendsUp ∈ gw_all := List.mem_filter.mpr ⟨mt_6 (List.mem_of_getElem? (i := 79) rfl), rfl⟩
set_option maxRecDepth 100000 in
theorem mw_1331 : Cond.code yX7_sendsUp cX7_sendsUp 4 none ∈ gw_all := List.mem_filter.mpr ⟨mt_6 (List.mem_of_getElem? (i := 80) rfl), rfl⟩
set_option maxRecDepth 100000 in
theorem mw_1332 : Cond.methodLink RX7 215 yX7_masterHears ∈ gw_all := List.mem_filter.mpr ⟨mt_6 (List.mem_of_getElem? (i := 81) rfl), rfl⟩
set_option maxRecDepth 100000 in
theorem mw_1334 : Cond.instanceMethod yX7_masterHears ∈ gw_all := List.mem_filter.mpr ⟨mt_6 (List.mem_of_getElem? (i := 83) rfl), rfl⟩
set_option maxRecDepth 100000 in
theorem mw_1335 : Cond.code yX7_masterHears cX7_masterHears 3 none ∈ gw_all := List.mem_filter.mpr ⟨mt_6 (List.mem_of_getElem? (i := 84) rfl), rfl⟩
set_option maxRecDepth 100000 in
theorem mw_1336 : Cond.methodLink RL 98 yX7_alike ∈ gw_all := List.mem_filter.mpr ⟨mt_6 (List.mem_of_getElem? (i := 85) rfl), rfl⟩
set_option maxRecDepth 100000 in
theorem mw_1337 : Cond.instanceMethod yX7_alike ∈ gw_all := List.mem_filter.mpr ⟨mt_6 (List.mem_of_getElem? (i := 86) rfl), rfl⟩
set_option maxRecDepth 100000 in
theorem mw_1338 : Cond.selects RX7 yX7_alike yX7_alike ∈ gw_all := List.mem_filter.mpr ⟨mt_6 (List.mem_of_getElem? (i := 87) rfl), rfl⟩
set_option maxRecDepth 100000 in
theorem mw_1339 : Cond.code yX7_alike cX7_alike 8 (some .int) ∈ gw_all := List.mem_filter.mpr ⟨mt_6 (List.mem_of_getElem? (i := 88) rfl), rfl⟩
set_option maxRecDepth 100000 in
theorem mw_1340 : Cond.methodLink RL 102 yX7_mapOf ∈ gw_all := List.mem_filter.mpr ⟨mt_6 (List.mem_of_getElem? (i := 89) rfl), rfl⟩
set_option maxRecDepth 100000 in
theorem mw_1341 : Cond.instanceMethod yX7_mapOf ∈ gw_all := List.mem_filter.mpr ⟨mt_6 (List.mem_of_getElem? (i := 90) rfl), rfl⟩
set_option maxRecDepth 100000 in
theorem mw_1342 : Cond.selects RX7 yX7_mapOf yX7_mapOf ∈ gw_all := List.mem_filter.mpr ⟨mt_6 (List.mem_of_getElem? (i := 91) rfl), rfl⟩
set_option maxRecDepth 100000 in
theorem mw_1343 : Cond.code yX7_mapOf cX7_mapOf 5 (some .int) ∈ gw_all := List.mem_filter.mpr ⟨mt_6 (List.mem_of_getElem? (i := 92) rfl), rfl⟩
set_option maxRecDepth 100000 in
theorem mw_1344 : Cond.methodLink RL 106 yX7_meets ∈ gw_all := List.mem_filter.mpr ⟨mt_6 (List.mem_of_getElem? (i := 93) rfl), rfl⟩
set_option maxRecDepth 100000 in
theorem mw_1345 : Cond.instanceMethod yX7_meets ∈ gw_all := List.mem_filter.mpr ⟨mt_6 (List.mem_of_getElem? (i := 94) rfl), rfl⟩
set_option maxRecDepth 100000 in
theorem mw_1346 : Cond.selects RX7 yX7_meets yX7_meets ∈ gw_all := List.mem_filter.mpr ⟨mt_6 (List.mem_of_getElem? (i := 95) rfl), rfl⟩
set_option maxRecDepth 100000 in
theorem mw_1347 : Cond.code yX7_meets cX7_meets 2 (some .int) ∈ gw_all := List.mem_filter.mpr ⟨mt_6 (List.mem_of_getElem? (i := 96) rfl), rfl⟩
set_option maxRecDepth 100000 in
theorem mw_1348 : Cond.methodLink RL 110 yX7_used ∈ gw_all := List.mem_filter.mpr ⟨mt_6 (List.mem_of_getElem? (i := 97) rfl), rfl⟩
set_option maxRecDepth 100000 in
theorem mw_1349 : Cond.instanceMethod yX7_used ∈ gw_all := List.mem_filter.mpr ⟨mt_6 (List.mem_of_getElem? (i := 98) rfl), rfl⟩
set_option maxRecDepth 100000 in
theorem mw_1350 : Cond.selects RX7 yX7_used yX7_used ∈ gw_all := List.mem_filter.mpr ⟨mt_6 (List.mem_of_getElem? (i := 99) rfl), rfl⟩
set_option maxRecDepth 100000 in
theorem mw_1351 : Cond.code yX7_used cX7_used 6 (some .int) ∈ gw_all := List.mem_filter.mpr ⟨mt_6 (List.mem_of_getElem? (i := 100) rfl), rfl⟩
set_option maxRecDepth 100000 in
theorem mw_1352 : Cond.constantLong RX7 245 512 ∈ gw_all := List.mem_filter.mpr ⟨mt_6 (List.mem_of_getElem? (i := 101) rfl), rfl⟩
set_option maxRecDepth 100000 in
theorem mw_1353 : Cond.methodLink RL 114 yX7_bad ∈ gw_all := List.mem_filter.mpr ⟨mt_6 (List.mem_of_getElem? (i := 102) rfl), rfl⟩
set_option maxRecDepth 100000 in
theorem mw_1354 : Cond.instanceMethod yX7_bad ∈ gw_all := List.mem_filter.mpr ⟨mt_6 (List.mem_of_getElem? (i := 103) rfl), rfl⟩
set_option maxRecDepth 100000 in
theorem mw_1355 : Cond.selects RX7 yX7_bad yX7_bad ∈ gw_all := List.mem_filter.mpr ⟨mt_6 (List.mem_of_getElem? (i := 104) rfl), rfl⟩
set_option maxRecDepth 100000 in
theorem mw_1356 : Cond.code yX7_bad cX7_bad 3 (some .int) ∈ gw_all := List.mem_filter.mpr ⟨mt_6 (List.mem_of_getElem? (i := 105) rfl), rfl⟩
set_option maxRecDepth 100000 in
theorem mw_1357 : Cond.methodLink RL 118 yX7_sent ∈ gw_all := List.mem_filter.mpr ⟨mt_6 (List.mem_of_getElem? (i := 106) rfl), rfl⟩
set_option maxRecDepth 100000 in
theorem mw_1358 : Cond.instanceMethod yX7_sent ∈ gw_all := List.mem_filter.mpr ⟨mt_6 (List.mem_of_getElem? (i := 107) rfl), rfl⟩
set_option maxRecDepth 100000 in
theorem mw_1359 : Cond.selects RX7 yX7_sent yX7_sent ∈ gw_all := List.mem_filter.mpr ⟨mt_6 (List.mem_of_getElem? (i := 108) rfl), rfl⟩
set_option maxRecDepth 100000 in
theorem mw_1360 : Cond.code yX7_sent cX7_sent 4 (some .int) ∈ gw_all := List.mem_filter.mpr ⟨mt_6 (List.mem_of_getElem? (i := 109) rfl), rfl⟩
set_option maxRecDepth 100000 in
theorem mw_1361 : Cond.methodLink RL 122 yX7_link ∈ gw_all := List.mem_filter.mpr ⟨mt_6 (List.mem_of_getElem? (i := 110) rfl), rfl⟩
set_option maxRecDepth 100000 in
theorem mw_1362 : Cond.instanceMethod yX7_link ∈ gw_all := List.mem_filter.mpr ⟨mt_6 (List.mem_of_getElem? (i := 111) rfl), rfl⟩
set_option maxRecDepth 100000 in
theorem mw_1363 : Cond.selects RX7 yX7_link yX7_link ∈ gw_all := List.mem_filter.mpr ⟨mt_6 (List.mem_of_getElem? (i := 112) rfl), rfl⟩
set_option maxRecDepth 100000 in
theorem mw_1364 : Cond.code yX7_link cX7_link 5 (some .int) ∈ gw_all := List.mem_filter.mpr ⟨mt_6 (List.mem_of_getElem? (i := 113) rfl), rfl⟩
set_option maxRecDepth 100000 in
theorem mw_1365 : Cond.methodLink RL 126 yX7_hash ∈ gw_all := List.mem_filter.mpr ⟨mt_6 (List.mem_of_getElem? (i := 114) rfl), rfl⟩
set_option maxRecDepth 100000 in
theorem mw_1366 : Cond.instanceMethod yX7_hash ∈ gw_all := List.mem_filter.mpr ⟨mt_6 (List.mem_of_getElem? (i := 115) rfl), rfl⟩
set_option maxRecDepth 100000 in
theorem mw_1367 : Cond.selects RX7 yX7_hash yX7_hash ∈ gw_all := List.mem_filter.mpr ⟨mt_6 (List.mem_of_getElem? (i := 116) rfl), rfl⟩
set_option maxRecDepth 100000 in
theorem mw_1368 : Cond.code yX7_hash cX7_hash 4 (some .int) ∈ gw_all := List.mem_filter.mpr ⟨mt_6 (List.mem_of_getElem? (i := 117) rfl), rfl⟩
set_option maxRecDepth 100000 in
theorem mw_1369 : Cond.methodLink RL 130 yX7_reserved ∈ gw_all := List.mem_filter.mpr ⟨mt_6 (List.mem_of_getElem? (i := 118) rfl), rfl⟩
set_option maxRecDepth 100000 in
theorem mw_1370 : Cond.instanceMethod yX7_reserved ∈ gw_all := List.mem_filter.mpr ⟨mt_6 (List.mem_of_getElem? (i := 119) rfl), rfl⟩
set_option maxRecDepth 100000 in
theorem mw_1371 : Cond.selects RX7 yX7_reserved yX7_reserved ∈ gw_all := List.mem_filter.mpr ⟨mt_6 (List.mem_of_getElem? (i := 120) rfl), rfl⟩
set_option maxRecDepth 100000 in
theorem mw_1372 : Cond.code yX7_reserved cX7_reserved 4 (some .int) ∈ gw_all := List.mem_filter.mpr ⟨mt_6 (List.mem_of_getElem? (i := 121) rfl), rfl⟩
set_option maxRecDepth 100000 in
theorem mw_1373 : Cond.constantLong RX7 247 5 ∈ gw_all := List.mem_filter.mpr ⟨mt_6 (List.mem_of_getElem? (i := 122) rfl), rfl⟩
set_option maxRecDepth 100000 in
theorem mw_1374 : Cond.methodLink RL 134 yX7_isThere ∈ gw_all := List.mem_filter.mpr ⟨mt_6 (List.mem_of_getElem? (i := 123) rfl), rfl⟩
set_option maxRecDepth 100000 in
theorem mw_1375 : Cond.instanceMethod yX7_isThere ∈ gw_all := List.mem_filter.mpr ⟨mt_6 (List.mem_of_getElem? (i := 124) rfl), rfl⟩
set_option maxRecDepth 100000 in
theorem mw_1376 : Cond.selects RX7 yX7_isThere yX7_isThere ∈ gw_all := List.mem_filter.mpr ⟨mt_6 (List.mem_of_getElem? (i := 125) rfl), rfl⟩
set_option maxRecDepth 100000 in
theorem mw_1377 : Cond.code yX7_isThere cX7_isThere 4 (some .int) ∈ gw_all := List.mem_filter.mpr ⟨mt_6 (List.mem_of_getElem? (i := 126) rfl), rfl⟩
set_option maxRecDepth 100000 in
theorem mw_1378 : Cond.methodLink RL 138 yX7_odds ∈ gw_all := List.mem_filter.mpr ⟨mt_6 (List.mem_of_getElem? (i := 127) rfl), rfl⟩
set_option maxRecDepth 100000 in
theorem mw_1379 : Cond.instanceMethod yX7_odds ∈ gw_all := List.mem_filter.mpr ⟨mt_6 (List.mem_of_getElem? (i := 128) rfl), rfl⟩
set_option maxRecDepth 100000 in
theorem mw_1380 : Cond.selects RX7 yX7_odds yX7_odds ∈ gw_all := List.mem_filter.mpr ⟨mt_6 (List.mem_of_getElem? (i := 129) rfl), rfl⟩
set_option maxRecDepth 100000 in
theorem mw_1381 : Cond.code yX7_odds cX7_odds 8 (some .int) ∈ gw_all := List.mem_filter.mpr ⟨mt_6 (List.mem_of_getElem? (i := 130) rfl), rfl⟩
set_option maxRecDepth 100000 in
theorem mw_1382 : Cond.constantLong RX7 249 64 ∈ gw_all := List.mem_filter.mpr ⟨mt_6 (List.mem_of_getElem? (i := 131) rfl), rfl⟩
set_option maxRecDepth 100000 in
theorem mw_1383 : Cond.methodLink RX7 251 yX7_chance ∈ gw_all := List.mem_filter.mpr ⟨mt_6 (List.mem_of_getElem? (i := 132) rfl), rfl⟩
set_option maxRecDepth 100000 in
theorem mw_1385 : Cond.instanceMethod yX7_chance ∈ gw_all := List.mem_filter.mpr ⟨mt_6 (List.mem_of_getElem? (i := 134) rfl), rfl⟩
set_option maxRecDepth 100000 in
theorem mw_1386 : Cond.code yX7_chance cX7_chance 5 (some .int) ∈ gw_all := List.mem_filter.mpr ⟨mt_6 (List.mem_of_getElem? (i := 135) rfl), rfl⟩
set_option maxRecDepth 100000 in
theorem mw_1387 : Cond.methodLink RX7 254 yX7_common ∈ gw_all := List.mem_filter.mpr ⟨mt_6 (List.mem_of_getElem? (i := 136) rfl), rfl⟩
set_option maxRecDepth 100000 in
theorem mw_1388 : Cond.static yX7_common ∈ gw_all := List.mem_filter.mpr ⟨mt_6 (List.mem_of_getElem? (i := 137) rfl), rfl⟩
set_option maxRecDepth 100000 in
theorem mw_1389 : Cond.code yX7_common cX7_common 5 (some .int) ∈ gw_all := List.mem_filter.mpr ⟨mt_6 (List.mem_of_getElem? (i := 138) rfl), rfl⟩
set_option maxRecDepth 100000 in
theorem mw_1390 : Cond.methodLink RL 142 yX7_clashes ∈ gw_all := List.mem_filter.mpr ⟨mt_6 (List.mem_of_getElem? (i := 139) rfl), rfl⟩
set_option maxRecDepth 100000 in
theorem mw_1391 : Cond.instanceMethod yX7_clashes ∈ gw_all := List.mem_filter.mpr ⟨mt_6 (List.mem_of_getElem? (i := 140) rfl), rfl⟩
set_option maxRecDepth 100000 in
theorem mw_1392 : Cond.selects RX7 yX7_clashes yX7_clashes ∈ gw_all := List.mem_filter.mpr ⟨mt_6 (List.mem_of_getElem? (i := 141) rfl), rfl⟩
set_option maxRecDepth 100000 in
theorem mw_1393 : Cond.code yX7_clashes cX7_clashes 2 (some .int) ∈ gw_all := List.mem_filter.mpr ⟨mt_6 (List.mem_of_getElem? (i := 142) rfl), rfl⟩
set_option maxRecDepth 100000 in
theorem mw_1394 : Cond.methodLink RX7 257 yX7_areBoth ∈ gw_all := List.mem_filter.mpr ⟨mt_6 (List.mem_of_getElem? (i := 143) rfl), rfl⟩
set_option maxRecDepth 100000 in
theorem mw_1396 : Cond.instanceMethod yX7_areBoth ∈ gw_all := List.mem_filter.mpr ⟨mt_6 (List.mem_of_getElem? (i := 145) rfl), rfl⟩
set_option maxRecDepth 100000 in
theorem mw_1397 : Cond.code yX7_areBoth cX7_areBoth 2 (some .boolean) ∈ gw_all := List.mem_filter.mpr ⟨mt_6 (List.mem_of_getElem? (i := 146) rfl), rfl⟩
set_option maxRecDepth 100000 in
theorem mw_1398 : Cond.methodLink RX7 260 yX7_clashesBy ∈ gw_all := List.mem_filter.mpr ⟨mt_6 (List.mem_of_getElem? (i := 147) rfl), rfl⟩
set_option maxRecDepth 100000 in
theorem mw_1400 : Cond.instanceMethod yX7_clashesBy ∈ gw_all := List.mem_filter.mpr ⟨mt_6 (List.mem_of_getElem? (i := 149) rfl), rfl⟩
set_option maxRecDepth 100000 in
theorem mw_1401 : Cond.code yX7_clashesBy cX7_clashesBy 5 (some .int) ∈ gw_all := List.mem_filter.mpr ⟨mt_6 (List.mem_of_getElem? (i := 150) rfl), rfl⟩
set_option maxRecDepth 100000 in
theorem mw_1402 : Cond.methodLink RL 146 yX7_bestOffset ∈ gw_all := List.mem_filter.mpr ⟨mt_6 (List.mem_of_getElem? (i := 151) rfl), rfl⟩
set_option maxRecDepth 100000 in
theorem mw_1403 : Cond.instanceMethod yX7_bestOffset ∈ gw_all := List.mem_filter.mpr ⟨mt_6 (List.mem_of_getElem? (i := 152) rfl), rfl⟩
set_option maxRecDepth 100000 in
theorem mw_1404 : Cond.selects RX7 yX7_bestOffset yX7_bestOffset ∈ gw_all := List.mem_filter.mpr ⟨mt_6 (List.mem_of_getElem? (i := 153) rfl), rfl⟩
set_option maxRecDepth 100000 in
theorem mw_1405 : Cond.code yX7_bestOffset cX7_bestOffset 8 (some .int) ∈ gw_all := List.mem_filter.mpr ⟨mt_6 (List.mem_of_getElem? (i := 154) rfl), rfl⟩
set_option maxRecDepth 100000 in
theorem mw_1406 : Cond.methodLink RL 158 yX7_ready ∈ gw_all := List.mem_filter.mpr ⟨mt_6 (List.mem_of_getElem? (i := 155) rfl), rfl⟩
set_option maxRecDepth 100000 in
theorem mw_1407 : Cond.instanceMethod yX7_ready ∈ gw_all := List.mem_filter.mpr ⟨mt_6 (List.mem_of_getElem? (i := 156) rfl), rfl⟩
set_option maxRecDepth 100000 in
theorem mw_1408 : Cond.selects RX7 yX7_ready yX7_ready ∈ gw_all := List.mem_filter.mpr ⟨mt_6 (List.mem_of_getElem? (i := 157) rfl), rfl⟩
set_option maxRecDepth 100000 in
theorem mw_1409 : Cond.code yX7_ready cX7_ready 5 (some .int) ∈ gw_all := List.mem_filter.mpr ⟨mt_6 (List.mem_of_getElem? (i := 158) rfl), rfl⟩
set_option maxRecDepth 100000 in
theorem mw_1410 : Cond.methodLink RL 162 yX7_bothReady ∈ gw_all := List.mem_filter.mpr ⟨mt_6 (List.mem_of_getElem? (i := 159) rfl), rfl⟩
set_option maxRecDepth 100000 in
theorem mw_1411 : Cond.instanceMethod yX7_bothReady ∈ gw_all := List.mem_filter.mpr ⟨mt_6 (List.mem_of_getElem? (i := 160) rfl), rfl⟩
set_option maxRecDepth 100000 in
theorem mw_1412 : Cond.selects RX7 yX7_bothReady yX7_bothReady ∈ gw_all := List.mem_filter.mpr ⟨mt_6 (List.mem_of_getElem? (i := 161) rfl), rfl⟩
set_option maxRecDepth 100000 in
theorem mw_1413 : Cond.code yX7_bothReady cX7_bothReady 8 (some .int) ∈ gw_all := List.mem_filter.mpr ⟨mt_6 (List.mem_of_getElem? (i := 162) rfl), rfl⟩
set_option maxRecDepth 100000 in
theorem mw_1414 : Cond.methodLink RL 166 yX7_ahead ∈ gw_all := List.mem_filter.mpr ⟨mt_6 (List.mem_of_getElem? (i := 163) rfl), rfl⟩
set_option maxRecDepth 100000 in
theorem mw_1415 : Cond.instanceMethod yX7_ahead ∈ gw_all := List.mem_filter.mpr ⟨mt_6 (List.mem_of_getElem? (i := 164) rfl), rfl⟩
set_option maxRecDepth 100000 in
theorem mw_1416 : Cond.selects RX7 yX7_ahead yX7_ahead ∈ gw_all := List.mem_filter.mpr ⟨mt_6 (List.mem_of_getElem? (i := 165) rfl), rfl⟩
set_option maxRecDepth 100000 in
theorem mw_1417 : Cond.code yX7_ahead cX7_ahead 3 (some .int) ∈ gw_all := List.mem_filter.mpr ⟨mt_6 (List.mem_of_getElem? (i := 166) rfl), rfl⟩
set_option maxRecDepth 100000 in
theorem mw_1418 : Cond.methodLink RX7 263 yX7_canTurn ∈ gw_all := List.mem_filter.mpr ⟨mt_6 (List.mem_of_getElem? (i := 167) rfl), rfl⟩
set_option maxRecDepth 100000 in
theorem mw_1420 : Cond.instanceMethod yX7_canTurn ∈ gw_all := List.mem_filter.mpr ⟨mt_6 (List.mem_of_getElem? (i := 169) rfl), rfl⟩
set_option maxRecDepth 100000 in
theorem mw_1421 : Cond.code yX7_canTurn cX7_canTurn 2 (some .boolean) ∈ gw_all := List.mem_filter.mpr ⟨mt_6 (List.mem_of_getElem? (i := 170) rfl), rfl⟩
set_option maxRecDepth 100000 in
theorem mw_1422 : Cond.methodLink RL 170 yX7_together ∈ gw_all := List.mem_filter.mpr ⟨mt_6 (List.mem_of_getElem? (i := 171) rfl), rfl⟩
set_option maxRecDepth 100000 in
theorem mw_1423 : Cond.instanceMethod yX7_together ∈ gw_all := List.mem_filter.mpr ⟨mt_6 (List.mem_of_getElem? (i := 172) rfl), rfl⟩
set_option maxRecDepth 100000 in
theorem mw_1424 : Cond.selects RX7 yX7_together yX7_together ∈ gw_all := List.mem_filter.mpr ⟨mt_6 (List.mem_of_getElem? (i := 173) rfl), rfl⟩
set_option maxRecDepth 100000 in
theorem mw_1425 : Cond.code yX7_together cX7_together 6 (some .int) ∈ gw_all := List.mem_filter.mpr ⟨mt_6 (List.mem_of_getElem? (i := 174) rfl), rfl⟩
set_option maxRecDepth 100000 in
theorem mw_1426 : Cond.methodLink RX7 266 yX7_comesAt ∈ gw_all := List.mem_filter.mpr ⟨mt_6 (List.mem_of_getElem? (i := 175) rfl), rfl⟩
set_option maxRecDepth 100000 in
theorem mw_1428 : Cond.instanceMethod yX7_comesAt ∈ gw_all := List.mem_filter.mpr ⟨mt_6 (List.mem_of_getElem? (i := 177) rfl), rfl⟩
set_option maxRecDepth 100000 in
theorem mw_1429 : Cond.code yX7_comesAt cX7_comesAt 3 (some .boolean) ∈ gw_all := List.mem_filter.mpr ⟨mt_6 (List.mem_of_getElem? (i := 178) rfl), rfl⟩
set_option maxRecDepth 100000 in
theorem mw_1430 : Cond.methodLink RL 174 yX7_ranked ∈ gw_all := List.mem_filter.mpr ⟨mt_6 (List.mem_of_getElem? (i := 179) rfl), rfl⟩
set_option maxRecDepth 100000 in
theorem mw_1431 : Cond.instanceMethod yX7_ranked ∈ gw_all := List.mem_filter.mpr ⟨mt_6 (List.mem_of_getElem? (i := 180) rfl), rfl⟩
set_option maxRecDepth 100000 in
theorem mw_1432 : Cond.selects RX7 yX7_ranked yX7_ranked ∈ gw_all := List.mem_filter.mpr ⟨mt_6 (List.mem_of_getElem? (i := 181) rfl), rfl⟩
set_option maxRecDepth 100000 in
theorem mw_1433 : Cond.code yX7_ranked cX7_ranked 7 (some .int) ∈ gw_all := List.mem_filter.mpr ⟨mt_6 (List.mem_of_getElem? (i := 182) rfl), rfl⟩
set_option maxRecDepth 100000 in
theorem mw_1434 : Cond.methodLink RX7 269 yX7_isAhead ∈ gw_all := List.mem_filter.mpr ⟨mt_6 (List.mem_of_getElem? (i := 183) rfl), rfl⟩
set_option maxRecDepth 100000 in
theorem mw_1436 : Cond.instanceMethod yX7_isAhead ∈ gw_all := List.mem_filter.mpr ⟨mt_6 (List.mem_of_getElem? (i := 185) rfl), rfl⟩
set_option maxRecDepth 100000 in
theorem mw_1437 : Cond.code yX7_isAhead cX7_isAhead 8 (some .boolean) ∈ gw_all := List.mem_filter.mpr ⟨mt_6 (List.mem_of_getElem? (i := 186) rfl), rfl⟩
set_option maxRecDepth 100000 in
theorem mw_1438 : Cond.methodLink RL 178 yX7_quiet ∈ gw_all := List.mem_filter.mpr ⟨mt_6 (List.mem_of_getElem? (i := 187) rfl), rfl⟩
set_option maxRecDepth 100000 in
theorem mw_1439 : Cond.instanceMethod yX7_quiet ∈ gw_all := List.mem_filter.mpr ⟨mt_6 (List.mem_of_getElem? (i := 188) rfl), rfl⟩
set_option maxRecDepth 100000 in
theorem mw_1440 : Cond.selects RX7 yX7_quiet yX7_quiet ∈ gw_all := List.mem_filter.mpr ⟨mt_6 (List.mem_of_getElem? (i := 189) rfl), rfl⟩
set_option maxRecDepth 100000 in
theorem mw_1441 : Cond.code yX7_quiet cX7_quiet 5 (some .int) ∈ gw_all := List.mem_filter.mpr ⟨mt_6 (List.mem_of_getElem? (i := 190) rfl), rfl⟩
set_option maxRecDepth 100000 in
theorem mw_1442 : Cond.constantLong RX7 272 9999 ∈ gw_all := List.mem_filter.mpr ⟨mt_6 (List.mem_of_getElem? (i := 191) rfl), rfl⟩
set_option maxRecDepth 100000 in
theorem mw_1443 : Cond.methodLink RL 150 yX7_drain ∈ gw_all := List.mem_filter.mpr ⟨mt_6 (List.mem_of_getElem? (i := 192) rfl), rfl⟩
set_option maxRecDepth 100000 in
theorem mw_1444 : Cond.instanceMethod yX7_drain ∈ gw_all := List.mem_filter.mpr ⟨mt_6 (List.mem_of_getElem? (i := 193) rfl), rfl⟩
set_option maxRecDepth 100000 in
theorem mw_1445 : Cond.selects RX7 yX7_drain yX7_drain ∈ gw_all := List.mem_filter.mpr ⟨mt_6 (List.mem_of_getElem? (i := 194) rfl), rfl⟩
set_option maxRecDepth 100000 in
theorem mw_1446 : Cond.code yX7_drain cX7_drain 5 (some .int) ∈ gw_all := List.mem_filter.mpr ⟨mt_6 (List.mem_of_getElem? (i := 195) rfl), rfl⟩
set_option maxRecDepth 100000 in
theorem mw_1447 : Cond.methodLink RX7 274 yX7_isEmpty ∈ gw_all := List.mem_filter.mpr ⟨mt_6 (List.mem_of_getElem? (i := 196) rfl), rfl⟩
set_option maxRecDepth 100000 in
theorem mw_1449 : Cond.instanceMethod yX7_isEmpty ∈ gw_all := List.mem_filter.mpr ⟨mt_6 (List.mem_of_getElem? (i := 198) rfl), rfl⟩
set_option maxRecDepth 100000 in
theorem mw_1450 : Cond.code yX7_isEmpty cX7_isEmpty 4 (some .boolean) ∈ gw_all := List.mem_filter.mpr ⟨mt_6 (List.mem_of_getElem? (i := 199) rfl), rfl⟩
set_option maxRecDepth 100000 in
theorem mw_1451 : Cond.methodLink RL 154 yX7_would ∈ gw_all := List.mem_filter.mpr ⟨mt_6 (List.mem_of_getElem? (i := 200) rfl), rfl⟩
set_option maxRecDepth 100000 in
theorem mw_1452 : Cond.instanceMethod yX7_would ∈ gw_all := List.mem_filter.mpr ⟨mt_6 (List.mem_of_getElem? (i := 201) rfl), rfl⟩
set_option maxRecDepth 100000 in
theorem mw_1453 : Cond.selects RX7 yX7_would yX7_would ∈ gw_all := List.mem_filter.mpr ⟨mt_6 (List.mem_of_getElem? (i := 202) rfl), rfl⟩
set_option maxRecDepth 100000 in
theorem mw_1454 : Cond.code yX7_would cX7_would 4 (some .int) ∈ gw_all := List.mem_filter.mpr ⟨mt_6 (List.mem_of_getElem? (i := 203) rfl), rfl⟩
set_option maxRecDepth 100000 in
theorem mw_1455 : Cond.methodLink RX7 280 yX7_tries ∈ gw_all := List.mem_filter.mpr ⟨mt_6 (List.mem_of_getElem? (i := 204) rfl), rfl⟩
set_option maxRecDepth 100000 in
theorem mw_1457 : Cond.instanceMethod yX7_tries ∈ gw_all := List.mem_filter.mpr ⟨mt_6 (List.mem_of_getElem? (i := 206) rfl), rfl⟩
set_option maxRecDepth 100000 in
theorem mw_1458 : Cond.code yX7_tries cX7_tries 5 (some .int) ∈ gw_all := List.mem_filter.mpr ⟨mt_6 (List.mem_of_getElem? (i := 207) rfl), rfl⟩
set_option maxRecDepth 100000 in
theorem mw_1459 : Cond.methodLink RX7 277 yX7_otherMaps ∈ gw_all := List.mem_filter.mpr ⟨mt_6 (List.mem_of_getElem? (i := 208) rfl), rfl⟩
set_option maxRecDepth 100000 in
theorem mw_1461 : Cond.instanceMethod yX7_otherMaps ∈ gw_all := List.mem_filter.mpr ⟨mt_6 (List.mem_of_getElem? (i := 210) rfl), rfl⟩
set_option maxRecDepth 100000 in
theorem mw_1462 : Cond.code yX7_otherMaps cX7_otherMaps 4 (some .int) ∈ gw_all := List.mem_filter.mpr ⟨mt_6 (List.mem_of_getElem? (i := 211) rfl), rfl⟩
set_option maxRecDepth 100000 in
theorem mw_1463 : Cond.methodLink RL 182 yX7_bestShare ∈ gw_all := List.mem_filter.mpr ⟨mt_6 (List.mem_of_getElem? (i := 212) rfl), rfl⟩
set_option maxRecDepth 100000 in
theorem mw_1464 : Cond.instanceMethod yX7_bestShare ∈ gw_all := List.mem_filter.mpr ⟨mt_6 (List.mem_of_getElem? (i := 213) rfl), rfl⟩
set_option maxRecDepth 100000 in
theorem mw_1465 : Cond.selects RX7 yX7_bestShare yX7_bestShare ∈ gw_all := List.mem_filter.mpr ⟨mt_6 (List.mem_of_getElem? (i := 214) rfl), rfl⟩
set_option maxRecDepth 100000 in
theorem mw_1466 : Cond.code yX7_bestShare cX7_bestShare 6 (some .int) ∈ gw_all := List.mem_filter.mpr ⟨mt_6 (List.mem_of_getElem? (i := 215) rfl), rfl⟩
set_option maxRecDepth 100000 in
theorem mw_1467 : Cond.methodLink RL 186 yX7_ofNet ∈ gw_all := List.mem_filter.mpr ⟨mt_6 (List.mem_of_getElem? (i := 216) rfl), rfl⟩
set_option maxRecDepth 100000 in
theorem mw_1468 : Cond.instanceMethod yX7_ofNet ∈ gw_all := List.mem_filter.mpr ⟨mt_6 (List.mem_of_getElem? (i := 217) rfl), rfl⟩
set_option maxRecDepth 100000 in
theorem mw_1469 : Cond.selects RX7 yX7_ofNet yX7_ofNet ∈ gw_all := List.mem_filter.mpr ⟨mt_6 (List.mem_of_getElem? (i := 218) rfl), rfl⟩
set_option maxRecDepth 100000 in
theorem mw_1470 : Cond.code yX7_ofNet cX7_ofNet 4 (some .int) ∈ gw_all := List.mem_filter.mpr ⟨mt_6 (List.mem_of_getElem? (i := 219) rfl), rfl⟩
set_option maxRecDepth 100000 in
theorem mw_1471 : Cond.methodLink RL 190 yX7_count ∈ gw_all := List.mem_filter.mpr ⟨mt_6 (List.mem_of_getElem? (i := 220) rfl), rfl⟩
set_option maxRecDepth 100000 in
theorem mw_1472 : Cond.instanceMethod yX7_count ∈ gw_all := List.mem_filter.mpr ⟨mt_6 (List.mem_of_getElem? (i := 221) rfl), rfl⟩
set_option maxRecDepth 100000 in
theorem mw_1473 : Cond.selects RX7 yX7_count yX7_count ∈ gw_all := List.mem_filter.mpr ⟨mt_6 (List.mem_of_getElem? (i := 222) rfl), rfl⟩
set_option maxRecDepth 100000 in
theorem mw_1474 : Cond.code yX7_count cX7_count 2 (some .int) ∈ gw_all := List.mem_filter.mpr ⟨mt_6 (List.mem_of_getElem? (i := 223) rfl), rfl⟩
set_option maxRecDepth 100000 in
theorem mw_1475 : Cond.methodLink RX7 283 yX7_heardOfAll ∈ gw_all := List.mem_filter.mpr ⟨mt_6 (List.mem_of_getElem? (i := 224) rfl), rfl⟩
set_option maxRecDepth 100000 in
theorem mw_1477 : Cond.instanceMethod yX7_heardOfAll ∈ gw_all := List.mem_filter.mpr ⟨mt_6 (List.mem_of_getElem? (i := 226) rfl), rfl⟩
set_option maxRecDepth 100000 in
theorem mw_1478 : Cond.code yX7_heardOfAll cX7_heardOfAll 4 (some .int) ∈ gw_all := List.mem_filter.mpr ⟨mt_6 (List.mem_of_getElem? (i := 227) rfl), rfl⟩
set_option maxRecDepth 100000 in
theorem mw_1479 : Cond.constantLong RX7 286 10 ∈ gw_all := List.mem_filter.mpr ⟨mt_6 (List.mem_of_getElem? (i := 228) rfl), rfl⟩
set_option maxRecDepth 100000 in
theorem mw_1480 : Cond.constantLong RX7 288 17 ∈ gw_all := List.mem_filter.mpr ⟨mt_6 (List.mem_of_getElem? (i := 229) rfl), rfl⟩
set_option maxRecDepth 100000 in
theorem mw_1481 : Cond.methodLink RL 194 yX7_status ∈ gw_all := List.mem_filter.mpr ⟨mt_6 (List.mem_of_getElem? (i := 230) rfl), rfl⟩
set_option maxRecDepth 100000 in
theorem mw_1482 : Cond.instanceMethod yX7_status ∈ gw_all := List.mem_filter.mpr ⟨mt_6 (List.mem_of_getElem? (i := 231) rfl), rfl⟩
set_option maxRecDepth 100000 in
theorem mw_1483 : Cond.selects RX7 yX7_status yX7_status ∈ gw_all := List.mem_filter.mpr ⟨mt_6 (List.mem_of_getElem? (i := 232) rfl), rfl⟩
set_option maxRecDepth 100000 in
theorem mw_1484 : Cond.code yX7_status cX7_status 1 (some .int) ∈ gw_all := List.mem_filter.mpr ⟨mt_6 (List.mem_of_getElem? (i := 233) rfl), rfl⟩
end
section
abbrev hE : Type := va_G × Nat × (Nat → ClassId) × (Nat → Nat)
def hA (E : hE) : Nat → Prop := fun q => E.2.1 ≤ q
def wl (E : hE) (N : Nat) (C : Nat → va_E) : va_W := (List.range N).map (fun k => (E.2.1 + k, C k))
theorem wl_len (E : hE) (N : Nat) (C : Nat → va_E) : (wl E N C).length = N := by simp [wl]
theorem wl_get (E : hE) (N : Nat) (C : Nat → va_E) (i : Nat) : (wl E N C)[i]? = if i < N then some (E.2.1 + i, C i) else none := by
  unfold wl
  rw [List.getElem?_map]
  by_cases h : i < N
  · rw [List.getElem?_range h, if_pos h]; rfl
  · rw [List.getElem?_eq_none (by simp; omega), if_neg h]; rfl
theorem wl_at {E : hE} {N : Nat} {C : Nat → va_E} {k : Nat} (h : k < N) : (wl E N C)[k]? = some (E.2.1 + k, C k) := by rw [wl_get, if_pos h]
theorem wl_set {E : hE} {N : Nat} {C : Nat → va_E} {k : Nat} {e : va_E} (h : k < N) : (wl E N C).set k (E.2.1 + k, e) = wl E N (va_up C k e) := by
  apply List.ext_getElem?
  intro i
  rw [wl_get]
  by_cases hi : i = k
  · subst hi
    rw [List.getElem?_set_self (by rw [wl_len]; exact h), if_pos h]
    simp [va_up]
  · rw [List.getElem?_set_ne (Ne.symm hi), wl_get]
    simp [va_up, hi]
theorem wl_push {E : hE} {N : Nat} {C : Nat → va_E} {e : va_E} : wl E N C ++ [(E.2.1 + N, e)] = wl E (N + 1) (va_up C N e) := by
  apply List.ext_getElem?
  intro i
  rw [wl_get]
  by_cases hi : i < N
  · rw [List.getElem?_append_left (by rw [wl_len]; exact hi), wl_get, if_pos hi, if_pos (by omega)]
    simp [va_up, Nat.ne_of_lt hi]
  · rw [List.getElem?_append_right (by rw [wl_len]; omega), wl_len]
    by_cases h2 : i = N
    · subst h2
      simp [va_up]
    · rw [if_neg (by omega), List.getElem?_eq_none (by simp; omega)]
theorem wl_D (E : hE) (N : Nat) (C : Nat → va_E) : va_D (hA E) (wl E N C) := by
  refine ⟨fun i j p q hi hj hpq => ?_, fun k q h => ?_⟩
  · rw [wl_get] at hi hj
    by_cases h1 : i < N
    · by_cases h2 : j < N
      · rw [if_pos h1] at hi
        rw [if_pos h2] at hj
        cases hi
        cases hj
        have hpq : E.2.1 + i = E.2.1 + j := hpq
        omega
      · rw [if_neg h2] at hj; cases hj
    · rw [if_neg h1] at hi; cases hi
  · rw [wl_get] at h
    by_cases h1 : k < N
    · rw [if_pos h1] at h
      cases h
      exact Nat.le_add_right _ _
    · rw [if_neg h1] at h; cases h
theorem wl_ext {E : hE} {N : Nat} {C C' : Nat → va_E} (h : ∀ k, k < N → C k = C' k) : wl E N C = wl E N C' := by
  apply List.ext_getElem?
  intro i
  rw [wl_get, wl_get]
  by_cases hi : i < N
  · rw [if_pos hi, if_pos hi, h i hi]
  · rw [if_neg hi, if_neg hi]
def hkL (r : Nat) : Nat := ([1, 3, 4, 8, 8, 4, 8, 8, 0] : List Nat).getD r 99
def hkN (r : Nat) : Nat := if r = 0 then 2 else if r = 1 then 3 else if r < 5 then 8 else if r = 5 then 10 else hkL ((r - 6) % 9)
def hkW (r : Nat) : Nat := if r = 0 then 5 else if r < 4 then 8 else if r = 4 then 11 else hkN ((r - 5) % 42)
/-- the kind of the cell k: 0 Frames, 1 Link, 2 Net, 3 Plan, 4 Row, 5 World, 6 HopNet, 7 HopNetModel, 8 int[], 9 boolean[], 10 Link[], 11 Net[], 12 World[] -/
def hk (k : Nat) : Nat := if k = 0 then 6 else if k < 179 then hkW ((k - 1) % 89) else if k < 186 then ([12, 9, 12, 8, 8, 8, 8] : List Nat).getD (k - 179) 99 else if k < 1076 then hkW ((k - 186) % 89) else if k = 1076 then 7 else ([8, 8, 8, 8, 8, 9, 8, 8, 8, 8, 9, 9, 9] : List Nat).getD (k - 1077) 99
def hlL (r : Nat) : Nat := ([0, 0, 0, 8, 8, 0, 8, 8, 0] : List Nat).getD r 0
def hlN (r : Nat) : Nat := if r < 6 then ([0, 0, 4, 23, 23, 4] : List Nat).getD r 0 else hlL ((r - 6) % 9)
def hlW (r : Nat) : Nat := if r < 5 then ([0, 6, 23, 9, 2] : List Nat).getD r 0 else hlN ((r - 5) % 42)
/-- the length of the array in the cell k -/
def hlen (k : Nat) : Nat := if k = 0 then 0 else if k < 179 then hlW ((k - 1) % 89) else if k < 186 then ([2, 2, 8, 8, 5, 512, 576] : List Nat).getD (k - 179) 0 else if k < 1076 then hlW ((k - 186) % 89) else ([0, 6, 695, 5560, 8, 1390, 2, 695, 2, 2, 2, 2, 2, 2] : List Nat).getD (k - 1076) 0
def hw (k : Nat) : Nat := if k = 179 then 186 else 364
def fl0 (E : hE) (k : Nat) (f : Nat → Int32) : List Value := [.int (f 0), .int (f 1), .int (f 2), .int (f 3), .int (f 4), .int (f 5)]
def fl1 (E : hE) (k : Nat) (f : Nat → Int32) : List Value := [.ref (E.2.1 + (k + 1)), .ref (E.2.1 + (k + 2)), .ref (E.2.1 + (k + 5)), .ref (E.2.1 + (k + 8)), .int (f 4), .int (f 5), .int (f 6), .int (f 7), .int (f 8), .int (f 9), .int (f 10), .int (f 11), .int (f 12), .int (f 13), .int (f 14), .int (f 15), .int (f 16), .int (f 17)]
def fl2 (E : hE) (k : Nat) (f : Nat → Int32) : List Value := [.ref (E.2.1 + (k + 1)), .ref (E.2.1 + (k + 2)), .ref (E.2.1 + (k + 3)), .ref (E.2.1 + (k + 4)), .ref (E.2.1 + (k + 5)), .int (f 5), .int (f 6), .int (f 7), .int (f 8), .int (f 9), .int (f 10), .int (f 11), .int (f 12), .int (f 13), .int (f 14), .int (f 15), .int (f 16), .int (f 17), .int (f 18), .int (f 19)]
def fl3 (E : hE) (k : Nat) (f : Nat → Int32) : List Value := [.int (f 0), .int (f 1), .int (f 2)]
def fl4 (E : hE) (k : Nat) (f : Nat → Int32) : List Value := [.ref (E.2.1 + (k + 1)), .ref (E.2.1 + (k + 2)), .int (f 2), .int (f 3), .int (f 4), .int (f 5), .int (f 6), .int (f 7)]
def fl5 (E : hE) (k : Nat) (f : Nat → Int32) : List Value := [.ref (E.2.1 + (k + 1)), .ref (E.2.1 + (k + 2)), .ref (E.2.1 + (k + 3)), .ref (E.2.1 + (k + 4)), .int (f 4), .int (f 5), .int (f 6), .int (f 7), .int (f 8), .int (f 9)]
def fl6 (E : hE) (k : Nat) (f : Nat → Int32) : List Value := [.ref (E.2.1 + (k + 1)), .ref (E.2.1 + (k + 90)), .ref (E.2.1 + (k + 179)), .ref (E.2.1 + (k + 180)), .ref (E.2.1 + (k + 181)), .ref (E.2.1 + (k + 182)), .int (f 6), .int (f 7), .ref (E.2.1 + (k + 183)), .int (f 9), .ref (E.2.1 + (k + 184)), .ref (E.2.1 + (k + 185))]
def fl7 (E : hE) (k : Nat) (f : Nat → Int32) : List Value := [.int (f 0), .int (f 1), .ref (E.2.1 + (k + 1)), .ref (E.2.1 + (k + 2)), .ref (E.2.1 + (k + 3)), .ref (E.2.1 + (k + 4)), .int (f 6), .ref (E.2.1 + (k + 5)), .ref (E.2.1 + (k + 6)), .ref (E.2.1 + (k + 7)), .ref (E.2.1 + (k + 8)), .ref (E.2.1 + (k + 9)), .ref (E.2.1 + (k + 10)), .ref (E.2.1 + (k + 11)), .ref (E.2.1 + (k + 12)), .ref (E.2.1 + (k + 13)), .int (f 16), .int (f 17)]
/-- what the cell k holds -/
def hcc (E : hE) (k : Nat) (f : Nat → Int32) : va_E :=
  if hk k = 0 then .inr (0, fl0 E k f) else if hk k = 1 then .inr (1, fl1 E k f) else if hk k = 2 then .inr (2, fl2 E k f) else if hk k = 3 then .inr (3, fl3 E k f) else if hk k = 4 then .inr (4, fl4 E k f) else if hk k = 5 then .inr (5, fl5 E k f) else if hk k = 6 then .inr (6, fl6 E k f) else if hk k = 7 then .inr (7, fl7 E k f)
  else if hk k = 8 then .inl (E.2.2.1 0, hlen k, .inl f) else if hk k = 9 then .inl (E.2.2.1 1, hlen k, .inl f) else if hk k = 10 then .inl (E.2.2.1 2, hlen k, .inr (.inr (.inr (.inr (fun i => some (E.2.1 + (f i).toNatClampNeg)))))) else if hk k = 11 then .inl (E.2.2.1 3, hlen k, .inr (.inr (.inr (.inr (fun i => some (E.2.1 + (k + 1 + 42 * i))))))) else .inl (E.2.2.1 4, hlen k, .inr (.inr (.inr (.inr (fun i => some (E.2.1 + (hw k + 89 * i)))))))
def hcf (E : hE) (ρ : Nat → Nat → Int32) : Nat → va_E := fun k => hcc E k (ρ k)
/-- the state with the slot j of the cell k changed -/
def up (ρ : Nat → Nat → Int32) (k j : Nat) (v : Int32) : Nat → Nat → Int32 := fun k' => if k' = k then upd (ρ k) j v else ρ k'
def upc (ρ : Nat → Nat → Int32) (k : Nat) (f : Nat → Int32) : Nat → Nat → Int32 := fun k' => if k' = k then f else ρ k'
theorem upc_at (ρ : Nat → Nat → Int32) (k : Nat) (f : Nat → Int32) : upc ρ k f k = f := if_pos rfl
theorem upc_ne (ρ : Nat → Nat → Int32) {k k' : Nat} (f : Nat → Int32) (h : k' ≠ k) : upc ρ k f k' = ρ k' := if_neg h
theorem up_at (ρ : Nat → Nat → Int32) (k j : Nat) (v : Int32) : up ρ k j v k = upd (ρ k) j v := if_pos rfl
theorem up_ne (ρ : Nat → Nat → Int32) {k k' : Nat} (j : Nat) (v : Int32) (h : k' ≠ k) : up ρ k j v k' = ρ k' := if_neg h
theorem up_eq (ρ : Nat → Nat → Int32) (k j : Nat) (v : Int32) : up ρ k j v = upc ρ k (upd (ρ k) j v) := rfl
theorem upc_self (ρ : Nat → Nat → Int32) {k : Nat} {f : Nat → Int32} (h : ∀ j, f j = ρ k j) : upc ρ k f = ρ := by
  funext k' j
  by_cases hk : k' = k
  · subst hk; rw [upc_at]; exact h j
  · rw [upc_ne _ _ hk]
theorem up_self (ρ : Nat → Nat → Int32) {k j : Nat} {v : Int32} (h : ρ k j = v) : up ρ k j v = ρ := by
  rw [up_eq]
  refine upc_self ρ (fun i => ?_)
  by_cases hi : i = j
  · subst hi; simp [upd, h]
  · simp [upd, hi]
theorem hcf_up (E : hE) (ρ : Nat → Nat → Int32) (k : Nat) (f : Nat → Int32) : va_up (hcf E ρ) k (hcc E k f) = hcf E (upc ρ k f) := by
  funext k'
  by_cases h : k' = k
  · subst h; simp [va_up, hcf, upc]
  · simp [va_up, hcf, upc, h]
theorem hcc0 (E : hE) {k : Nat} (f : Nat → Int32) (h : hk k = 0) : hcc E k f = .inr (0, fl0 E k f) := by simp [hcc, h]
theorem hcc1 (E : hE) {k : Nat} (f : Nat → Int32) (h : hk k = 1) : hcc E k f = .inr (1, fl1 E k f) := by simp [hcc, h]
theorem hcc2 (E : hE) {k : Nat} (f : Nat → Int32) (h : hk k = 2) : hcc E k f = .inr (2, fl2 E k f) := by simp [hcc, h]
theorem hcc3 (E : hE) {k : Nat} (f : Nat → Int32) (h : hk k = 3) : hcc E k f = .inr (3, fl3 E k f) := by simp [hcc, h]
theorem hcc4 (E : hE) {k : Nat} (f : Nat → Int32) (h : hk k = 4) : hcc E k f = .inr (4, fl4 E k f) := by simp [hcc, h]
theorem hcc5 (E : hE) {k : Nat} (f : Nat → Int32) (h : hk k = 5) : hcc E k f = .inr (5, fl5 E k f) := by simp [hcc, h]
theorem hcc6 (E : hE) {k : Nat} (f : Nat → Int32) (h : hk k = 6) : hcc E k f = .inr (6, fl6 E k f) := by simp [hcc, h]
theorem hcc7 (E : hE) {k : Nat} (f : Nat → Int32) (h : hk k = 7) : hcc E k f = .inr (7, fl7 E k f) := by simp [hcc, h]
theorem hcc8 (E : hE) {k : Nat} (f : Nat → Int32) (h : hk k = 8) : hcc E k f = .inl (E.2.2.1 0, hlen k, .inl f) := by simp [hcc, h]
theorem hcc9 (E : hE) {k : Nat} (f : Nat → Int32) (h : hk k = 9) : hcc E k f = .inl (E.2.2.1 1, hlen k, .inl f) := by simp [hcc, h]
theorem hcc10 (E : hE) {k : Nat} (f : Nat → Int32) (h : hk k = 10) : hcc E k f = .inl (E.2.2.1 2, hlen k, .inr (.inr (.inr (.inr (fun i => some (E.2.1 + (f i).toNatClampNeg)))))) := by simp [hcc, h]
theorem hcc11 (E : hE) {k : Nat} (f : Nat → Int32) (h : hk k = 11) : hcc E k f = .inl (E.2.2.1 3, hlen k, .inr (.inr (.inr (.inr (fun i => some (E.2.1 + (k + 1 + 42 * i))))))) := by simp [hcc, h]
theorem hcc12 (E : hE) {k : Nat} (f : Nat → Int32) (h : hk k = 12) : hcc E k f = .inl (E.2.2.1 4, hlen k, .inr (.inr (.inr (.inr (fun i => some (E.2.1 + (hw k + 89 * i))))))) := by simp [hcc, h]
theorem hk_big {k : Nat} (h : 1090 ≤ k) : hk k = 99 := by
  unfold hk
  rw [if_neg (by omega), if_neg (by omega), if_neg (by omega), if_neg (by omega), if_neg (by omega), List.getD_eq_getElem?_getD, List.getElem?_eq_none (by simp; omega)]
  rfl
theorem hk_lt {k c : Nat} (h : hk k = c) (hc : c ≠ 99) : k < 1090 := by
  rcases Nat.lt_or_ge k 1090 with q | q
  · exact q
  · exact absurd ((hk_big q).symm.trans h).symm hc
theorem lay1b : (List.range 1090).all (fun k => !(hk k == 1) || (hk (k + 1) == 3 && hk (k + 2) == 4 && hk (k + 5) == 4 && hk (k + 8) == 0)) = true := by decide +kernel
theorem lay1 {k : Nat} (h : hk k = 1) : hk (k + 1) = 3 ∧ hk (k + 2) = 4 ∧ hk (k + 5) = 4 ∧ hk (k + 8) = 0 := by
  have q := List.all_eq_true.mp lay1b k (List.mem_range.mpr (hk_lt h (by decide)))
  simpa [h, and_assoc] using q
theorem lay4b : (List.range 1090).all (fun k => !(hk k == 4) || (hk (k + 1) == 8 && hlen (k + 1) == 8 && hk (k + 2) == 8 && hlen (k + 2) == 8)) = true := by decide +kernel
theorem lay4 {k : Nat} (h : hk k = 4) : hk (k + 1) = 8 ∧ hlen (k + 1) = 8 ∧ hk (k + 2) = 8 ∧ hlen (k + 2) = 8 := by
  have q := List.all_eq_true.mp lay4b k (List.mem_range.mpr (hk_lt h (by decide)))
  simpa [h, and_assoc] using q
theorem lay2b : (List.range 1090).all (fun k => !(hk k == 2) || (hk (k + 1) == 3 && hk (k + 2) == 8 && hlen (k + 2) == 4 && hk (k + 3) == 8 && hlen (k + 3) == 23 && hk (k + 4) == 8 && hlen (k + 4) == 23 && hk (k + 5) == 10 && hlen (k + 5) == 4 && hk (k + 6) == 1 && hk (k + 15) == 1 && hk (k + 24) == 1 && hk (k + 33) == 1)) = true := by decide +kernel
theorem lay2 {k : Nat} (h : hk k = 2) : hk (k + 1) = 3 ∧ hk (k + 2) = 8 ∧ hlen (k + 2) = 4 ∧ hk (k + 3) = 8 ∧ hlen (k + 3) = 23 ∧ hk (k + 4) = 8 ∧ hlen (k + 4) = 23 ∧ hk (k + 5) = 10 ∧ hlen (k + 5) = 4 ∧ hk (k + 6) = 1 ∧ hk (k + 15) = 1 ∧ hk (k + 24) = 1 ∧ hk (k + 33) = 1 := by
  have q := List.all_eq_true.mp lay2b k (List.mem_range.mpr (hk_lt h (by decide)))
  simpa [h, and_assoc] using q
theorem lay5b : (List.range 1090).all (fun k => !(hk k == 5) || (hk (k + 1) == 8 && hlen (k + 1) == 6 && hk (k + 2) == 8 && hlen (k + 2) == 23 && hk (k + 3) == 8 && hlen (k + 3) == 9 && hk (k + 4) == 11 && hlen (k + 4) == 2 && hk (k + 5) == 2 && hk (k + 47) == 2)) = true := by decide +kernel
theorem lay5 {k : Nat} (h : hk k = 5) : hk (k + 1) = 8 ∧ hlen (k + 1) = 6 ∧ hk (k + 2) = 8 ∧ hlen (k + 2) = 23 ∧ hk (k + 3) = 8 ∧ hlen (k + 3) = 9 ∧ hk (k + 4) = 11 ∧ hlen (k + 4) = 2 ∧ hk (k + 5) = 2 ∧ hk (k + 47) = 2 := by
  have q := List.all_eq_true.mp lay5b k (List.mem_range.mpr (hk_lt h (by decide)))
  simpa [h, and_assoc] using q
theorem lay5n {k n : Nat} (h : hk k = 5) (hn : n < 2) : hk (k + 4 + 1 + 42 * n) = 2 := by
  rcases (show n = 0 ∨ n = 1 by omega) with rfl | rfl
  · exact (lay5 h).2.2.2.2.2.2.2.2.1
  · exact (lay5 h).2.2.2.2.2.2.2.2.2
theorem fs0_0 (E : hE) (k : Nat) (f : Nat → Int32) (v : Int32) : (fl0 E k f).set 0 (.int v) = fl0 E k (upd f 0 v) := rfl
theorem fs0_1 (E : hE) (k : Nat) (f : Nat → Int32) (v : Int32) : (fl0 E k f).set 1 (.int v) = fl0 E k (upd f 1 v) := rfl
theorem fs0_2 (E : hE) (k : Nat) (f : Nat → Int32) (v : Int32) : (fl0 E k f).set 2 (.int v) = fl0 E k (upd f 2 v) := rfl
theorem fs0_3 (E : hE) (k : Nat) (f : Nat → Int32) (v : Int32) : (fl0 E k f).set 3 (.int v) = fl0 E k (upd f 3 v) := rfl
theorem fs0_4 (E : hE) (k : Nat) (f : Nat → Int32) (v : Int32) : (fl0 E k f).set 4 (.int v) = fl0 E k (upd f 4 v) := rfl
theorem fs0_5 (E : hE) (k : Nat) (f : Nat → Int32) (v : Int32) : (fl0 E k f).set 5 (.int v) = fl0 E k (upd f 5 v) := rfl
theorem fs1_4 (E : hE) (k : Nat) (f : Nat → Int32) (v : Int32) : (fl1 E k f).set 4 (.int v) = fl1 E k (upd f 4 v) := rfl
theorem fs1_5 (E : hE) (k : Nat) (f : Nat → Int32) (v : Int32) : (fl1 E k f).set 5 (.int v) = fl1 E k (upd f 5 v) := rfl
theorem fs1_6 (E : hE) (k : Nat) (f : Nat → Int32) (v : Int32) : (fl1 E k f).set 6 (.int v) = fl1 E k (upd f 6 v) := rfl
theorem fs1_7 (E : hE) (k : Nat) (f : Nat → Int32) (v : Int32) : (fl1 E k f).set 7 (.int v) = fl1 E k (upd f 7 v) := rfl
theorem fs1_8 (E : hE) (k : Nat) (f : Nat → Int32) (v : Int32) : (fl1 E k f).set 8 (.int v) = fl1 E k (upd f 8 v) := rfl
theorem fs1_9 (E : hE) (k : Nat) (f : Nat → Int32) (v : Int32) : (fl1 E k f).set 9 (.int v) = fl1 E k (upd f 9 v) := rfl
theorem fs1_10 (E : hE) (k : Nat) (f : Nat → Int32) (v : Int32) : (fl1 E k f).set 10 (.int v) = fl1 E k (upd f 10 v) := rfl
theorem fs1_11 (E : hE) (k : Nat) (f : Nat → Int32) (v : Int32) : (fl1 E k f).set 11 (.int v) = fl1 E k (upd f 11 v) := rfl
theorem fs1_12 (E : hE) (k : Nat) (f : Nat → Int32) (v : Int32) : (fl1 E k f).set 12 (.int v) = fl1 E k (upd f 12 v) := rfl
theorem fs1_13 (E : hE) (k : Nat) (f : Nat → Int32) (v : Int32) : (fl1 E k f).set 13 (.int v) = fl1 E k (upd f 13 v) := rfl
theorem fs1_14 (E : hE) (k : Nat) (f : Nat → Int32) (v : Int32) : (fl1 E k f).set 14 (.int v) = fl1 E k (upd f 14 v) := rfl
theorem fs1_15 (E : hE) (k : Nat) (f : Nat → Int32) (v : Int32) : (fl1 E k f).set 15 (.int v) = fl1 E k (upd f 15 v) := rfl
theorem fs1_16 (E : hE) (k : Nat) (f : Nat → Int32) (v : Int32) : (fl1 E k f).set 16 (.int v) = fl1 E k (upd f 16 v) := rfl
theorem fs1_17 (E : hE) (k : Nat) (f : Nat → Int32) (v : Int32) : (fl1 E k f).set 17 (.int v) = fl1 E k (upd f 17 v) := rfl
theorem fs2_5 (E : hE) (k : Nat) (f : Nat → Int32) (v : Int32) : (fl2 E k f).set 5 (.int v) = fl2 E k (upd f 5 v) := rfl
theorem fs2_6 (E : hE) (k : Nat) (f : Nat → Int32) (v : Int32) : (fl2 E k f).set 6 (.int v) = fl2 E k (upd f 6 v) := rfl
theorem fs2_7 (E : hE) (k : Nat) (f : Nat → Int32) (v : Int32) : (fl2 E k f).set 7 (.int v) = fl2 E k (upd f 7 v) := rfl
theorem fs2_8 (E : hE) (k : Nat) (f : Nat → Int32) (v : Int32) : (fl2 E k f).set 8 (.int v) = fl2 E k (upd f 8 v) := rfl
theorem fs2_9 (E : hE) (k : Nat) (f : Nat → Int32) (v : Int32) : (fl2 E k f).set 9 (.int v) = fl2 E k (upd f 9 v) := rfl
theorem fs2_10 (E : hE) (k : Nat) (f : Nat → Int32) (v : Int32) : (fl2 E k f).set 10 (.int v) = fl2 E k (upd f 10 v) := rfl
theorem fs2_11 (E : hE) (k : Nat) (f : Nat → Int32) (v : Int32) : (fl2 E k f).set 11 (.int v) = fl2 E k (upd f 11 v) := rfl
theorem fs2_12 (E : hE) (k : Nat) (f : Nat → Int32) (v : Int32) : (fl2 E k f).set 12 (.int v) = fl2 E k (upd f 12 v) := rfl
theorem fs2_13 (E : hE) (k : Nat) (f : Nat → Int32) (v : Int32) : (fl2 E k f).set 13 (.int v) = fl2 E k (upd f 13 v) := rfl
theorem fs2_14 (E : hE) (k : Nat) (f : Nat → Int32) (v : Int32) : (fl2 E k f).set 14 (.int v) = fl2 E k (upd f 14 v) := rfl
theorem fs2_15 (E : hE) (k : Nat) (f : Nat → Int32) (v : Int32) : (fl2 E k f).set 15 (.int v) = fl2 E k (upd f 15 v) := rfl
theorem fs2_16 (E : hE) (k : Nat) (f : Nat → Int32) (v : Int32) : (fl2 E k f).set 16 (.int v) = fl2 E k (upd f 16 v) := rfl
theorem fs2_17 (E : hE) (k : Nat) (f : Nat → Int32) (v : Int32) : (fl2 E k f).set 17 (.int v) = fl2 E k (upd f 17 v) := rfl
theorem fs2_18 (E : hE) (k : Nat) (f : Nat → Int32) (v : Int32) : (fl2 E k f).set 18 (.int v) = fl2 E k (upd f 18 v) := rfl
theorem fs2_19 (E : hE) (k : Nat) (f : Nat → Int32) (v : Int32) : (fl2 E k f).set 19 (.int v) = fl2 E k (upd f 19 v) := rfl
theorem fs3_0 (E : hE) (k : Nat) (f : Nat → Int32) (v : Int32) : (fl3 E k f).set 0 (.int v) = fl3 E k (upd f 0 v) := rfl
theorem fs3_1 (E : hE) (k : Nat) (f : Nat → Int32) (v : Int32) : (fl3 E k f).set 1 (.int v) = fl3 E k (upd f 1 v) := rfl
theorem fs3_2 (E : hE) (k : Nat) (f : Nat → Int32) (v : Int32) : (fl3 E k f).set 2 (.int v) = fl3 E k (upd f 2 v) := rfl
theorem fs4_2 (E : hE) (k : Nat) (f : Nat → Int32) (v : Int32) : (fl4 E k f).set 2 (.int v) = fl4 E k (upd f 2 v) := rfl
theorem fs4_3 (E : hE) (k : Nat) (f : Nat → Int32) (v : Int32) : (fl4 E k f).set 3 (.int v) = fl4 E k (upd f 3 v) := rfl
theorem fs4_4 (E : hE) (k : Nat) (f : Nat → Int32) (v : Int32) : (fl4 E k f).set 4 (.int v) = fl4 E k (upd f 4 v) := rfl
theorem fs4_5 (E : hE) (k : Nat) (f : Nat → Int32) (v : Int32) : (fl4 E k f).set 5 (.int v) = fl4 E k (upd f 5 v) := rfl
theorem fs4_6 (E : hE) (k : Nat) (f : Nat → Int32) (v : Int32) : (fl4 E k f).set 6 (.int v) = fl4 E k (upd f 6 v) := rfl
theorem fs4_7 (E : hE) (k : Nat) (f : Nat → Int32) (v : Int32) : (fl4 E k f).set 7 (.int v) = fl4 E k (upd f 7 v) := rfl
theorem fs5_4 (E : hE) (k : Nat) (f : Nat → Int32) (v : Int32) : (fl5 E k f).set 4 (.int v) = fl5 E k (upd f 4 v) := rfl
theorem fs5_5 (E : hE) (k : Nat) (f : Nat → Int32) (v : Int32) : (fl5 E k f).set 5 (.int v) = fl5 E k (upd f 5 v) := rfl
theorem fs5_6 (E : hE) (k : Nat) (f : Nat → Int32) (v : Int32) : (fl5 E k f).set 6 (.int v) = fl5 E k (upd f 6 v) := rfl
theorem fs5_7 (E : hE) (k : Nat) (f : Nat → Int32) (v : Int32) : (fl5 E k f).set 7 (.int v) = fl5 E k (upd f 7 v) := rfl
theorem fs5_8 (E : hE) (k : Nat) (f : Nat → Int32) (v : Int32) : (fl5 E k f).set 8 (.int v) = fl5 E k (upd f 8 v) := rfl
theorem fs5_9 (E : hE) (k : Nat) (f : Nat → Int32) (v : Int32) : (fl5 E k f).set 9 (.int v) = fl5 E k (upd f 9 v) := rfl
theorem fs6_6 (E : hE) (k : Nat) (f : Nat → Int32) (v : Int32) : (fl6 E k f).set 6 (.int v) = fl6 E k (upd f 6 v) := rfl
theorem fs6_7 (E : hE) (k : Nat) (f : Nat → Int32) (v : Int32) : (fl6 E k f).set 7 (.int v) = fl6 E k (upd f 7 v) := rfl
theorem fs6_9 (E : hE) (k : Nat) (f : Nat → Int32) (v : Int32) : (fl6 E k f).set 9 (.int v) = fl6 E k (upd f 9 v) := rfl
theorem fs7_0 (E : hE) (k : Nat) (f : Nat → Int32) (v : Int32) : (fl7 E k f).set 0 (.int v) = fl7 E k (upd f 0 v) := rfl
theorem fs7_1 (E : hE) (k : Nat) (f : Nat → Int32) (v : Int32) : (fl7 E k f).set 1 (.int v) = fl7 E k (upd f 1 v) := rfl
theorem fs7_6 (E : hE) (k : Nat) (f : Nat → Int32) (v : Int32) : (fl7 E k f).set 6 (.int v) = fl7 E k (upd f 6 v) := rfl
theorem fs7_16 (E : hE) (k : Nat) (f : Nat → Int32) (v : Int32) : (fl7 E k f).set 16 (.int v) = fl7 E k (upd f 16 v) := rfl
theorem fs7_17 (E : hE) (k : Nat) (f : Nat → Int32) (v : Int32) : (fl7 E k f).set 17 (.int v) = fl7 E k (upd f 17 v) := rfl
/-- the state of new objects -/
def r0 (k : Nat) : Nat → Int32 := fun j =>
  if hk k = 2 then (if j = 5 ∨ j = 9 ∨ 15 ≤ j ∧ j ≤ 18 then -1 else if j = 7 then 8388607 else 0)
  else if hk k = 3 then (if j = 0 then 8388607 else if j = 2 then -1 else 0)
  else if hk k = 5 then (if j = 6 then 1 else if j = 7 then 16 else if j = 8 then 2 else 0)
  else if hk k = 10 then nI (k + 1 + 9 * j)
  else if k = 1078 then (if j = 8 then 1 else if j = 9 then 16 else if j = 10 then 2 else if j = 42 ∨ j = 368 then -1 else 0)
  else 0
end
section
abbrev vwCl : List vw_C := [(RX0, TX0, 6), (RX1, TX1, 18), (RX2, TX2, 20), (RX3, TX3, 3), (RX4, TX4, 8), (RX5, TX5, 10), (RX6, TX6, 12), (RX7, TX7, 18)]
def tyl (E : hE) : List (ClassId × FieldType) := [(E.2.2.1 0, .int), (E.2.2.1 1, .boolean), (E.2.2.1 2, .object RX1), (E.2.2.1 3, .object RX2), (E.2.2.1 4, .object RX5)]
def nws : List (String × Nat × MethodName × String) := [(RX2, 11, yX3_init, RX6), (RX2, 82, yX1_init, RX6), (RX1, 9, yX3_init, RX6), (RX1, 18, yX4_init, RX6), (RX1, 28, yX0_init, RX6), (RX5, 94, yX6_hopOf, RX6), (RX5, 101, yX6_byMap, RX6), (RX2, 133, yX6_byMap, RX6)]
def xo : Nat → Value := fun j => .int (([0, 1, 0, 2, 1, 0, 3, 1, 0] : List Int32).getD j 0)
def xp : Nat → Value := fun j => .int (([3, 2, 1, 4, 4, 2, 4, 3, 4] : List Int32).getD j 0)
def xq : Nat → Value := fun j => .int (([0, 3, 1, 2, 0, 1, 2, 4, 1, 4, 0, 2, 3, 4, 1, 3, 0, 4] : List Int32).getD j 0)
/-- the statics -/
def ST (E : hE) (U : State) (H : Heap) : Prop := (va_Z RX6 "EXCHANGE_ONE" "[I" (.ref (E.2.2.2 0)) (hA E) U H ∧ va_T .int (E.2.2.2 0) 9 xo (hA E) U H) ∧ (va_Z RX6 "EXCHANGE_OTHER" "[I" (.ref (E.2.2.2 1)) (hA E) U H ∧ va_T .int (E.2.2.2 1) 9 xp (hA E) U H) ∧ (va_Z RX7 "PAIRS" "[I" (.ref (E.2.2.2 2)) (hA E) U H ∧ va_T .int (E.2.2.2 2) 18 xq (hA E) U H)
/-- what a method knows of the machine's tables and statics -/
def KK (E : hE) (U : State) : Prop := va_K E.1 vwCl (tyl E) U ∧ (∀ q ∈ nws, va_Nw (.methodLinkNest q.1 q.2.1 q.2.2.1 q.2.2.2) U) ∧ (va_AO RX1 U ∧ va_AO RX2 U ∧ va_AO RX5 U) ∧ ST E U U.heap
theorem ST.moved {E : hE} {u U : State} {H : Heap} (hvm : u.vm.Alike U.vm) (h : ST E u H) : ST E U H :=
  ⟨⟨h.1.1.moved hvm, h.1.2.moved hvm⟩, ⟨h.2.1.1.moved hvm, h.2.1.2.moved hvm⟩, ⟨h.2.2.1.moved hvm, h.2.2.2.moved hvm⟩⟩
theorem ST.kept {E : hE} {U : State} {H H1 : Heap} (h : ST E U H) (hq : ∀ a : Nat, a < H.size → ¬ hA E a → H1[a]? = H[a]?) : ST E U H1 :=
  ⟨⟨h.1.1.kept hq, h.1.2.kept hq⟩, ⟨h.2.1.1.kept hq, h.2.1.2.kept hq⟩, ⟨h.2.2.1.kept hq, h.2.2.2.kept hq⟩⟩
theorem KK.warm {E : hE} {s U : State} {H : Heap} {locs : List Loc} (h : KK E s) (hS : va_S (hA E) s.heap H locs) (hU : U.heap = H) (hW : s.WarmedH U.vm) : KK E U :=
  ⟨va_K.moved hW.alike h.1, fun q hq => va_Nw.warmM hW (h.2.1 q hq), ⟨h.2.2.1.1.moved hW.alike, h.2.2.1.2.1.moved hW.alike, h.2.2.1.2.2.moved hW.alike⟩, by rw [hU]; exact (h.2.2.2.moved hW.alike).kept hS.2.1⟩
/-- the world is as ρ says -/
abbrev WP (E : hE) (ρ : Nat → Nat → Int32) (H : Heap) : Prop := va_P E.1 vwCl (wl E 1090 (hcf E ρ)) H
def cPre (E : hE) (ρ : Nat → Nat → Int32) (av : List Value) : Array Value → State → Prop := va_Pc av (fun U => WP E ρ U.heap ∧ KK E U)
abbrev cI (E : hE) (post : Int32 → (Nat → Nat → Int32) → Prop) : Array Value → State → Outcome → State → Prop := va_Qi post (fun ρ t => WP E ρ t.heap) (hA E)
abbrev cV (E : hE) (post : (Nat → Nat → Int32) → Prop) : Array Value → State → Outcome → State → Prop := va_Qv post (fun ρ t => WP E ρ t.heap) (hA E)
abbrev cQ (E : hE) (post : Option Nat → (Nat → Nat → Int32) → Prop) : Array Value → State → Outcome → State → Prop := va_Qq post (fun ρ t => WP E ρ t.heap) (hA E)
abbrev rmk (fr lo : Nat) : Room := { frames := fr, cells := 0, slots := 0, locals := lo }
theorem KK.call {E : hE} {U : State} (g : JFrame) (mk : MethodId) (a : Array Value) (h : KK E U) : KK E (U.calling g mk a) :=
  ⟨va_K.moved (u := U) (U := U.calling g mk a) (Vm.Alike.refl U.vm) h.1, fun q hq => va_Nw.same rfl (rfl : U.vm = (U.calling g mk a).vm) (h.2.1 q hq), ⟨h.2.2.1.1.moved (Vm.Alike.refl U.vm), h.2.2.1.2.1.moved (Vm.Alike.refl U.vm), h.2.2.1.2.2.moved (Vm.Alike.refl U.vm)⟩, h.2.2.2.moved (U := U.calling g mk a) (Vm.Alike.refl U.vm)⟩
theorem cPre_blind {E : hE} {ρ : Nat → Nat → Int32} {av : List Value} : FrameBlind (cPre E ρ av) := fun a U g mk h => ⟨h.1, h.2.1, h.2.2.call g mk a⟩
/-- what is at hand inside a method -/
abbrev MB (p : Program) (s : State) (m : MethodId) (args : Array Value) (c : Code) (cc : ByteArray) (nL : Nat) (own : String) (E : hE) : Prop := CallFix p m c cc nL s args gw_all own ∧ KK E s
theorem gwAll : gw_all.all goodWord = true := List.all_eq_true.mpr (fun _ h => (List.mem_filter.mp h).2)
theorem gwGood {w : Cond} (h : w ∈ gw_all) : (w.onTables && w.keeps) = true ∨ ∃ ty, w = .arrayClass ty := good_of_word (List.mem_filter.mp h).2
/-- a method is entered -/
theorem ent {l : Launch} {y : MethodName} {cc : ByteArray} {maxL : Nat} {ret : Option FieldType} {fr lo : Nat} {E : hE} {ρ : Nat → Nat → Int32} {av : List Value} {Qc : Array Value → State → Outcome → State → Prop} {own : String} (hy : plainName y.cls = true) (ho : y.cls = own) (hlen : (lg_sl av).length ≤ maxL)
    (body : ∀ (p : Program) (e : Env) (s : State) (m : MethodId) (below : List Frame) (meth : Method) (c : Code) (ls : Array Slot), MB p s m av.toArray c cc maxL own E → meth.sig.returnType = ret → meth.locks = false → lv_has ls maxL (lv_args 0 av) → WP E ρ s.heap → va_S (hA E) s.heap s.heap [] → W p l e (rmk fr lo) s m av.toArray below meth c s.heap [] 0 0 (MQ below Qc av.toArray s 0 0 (hA E)) (F0 m 0 ls [])) :
    Met l y (.code y cc maxL ret :: gw_all) (rmk fr lo) (cPre E ρ av) Qc 0 0 (hA E) := by
  refine Met.ofW (cc := cc) (maxL := maxL) (ret := ret) hy rfl ?_
  intro p e s m args below meth c s₁ B hml hv
  obtain ⟨rfl, hP, hK⟩ := hv
  rw [lg_entry_eq]
  have hts := atoms_spec (ws := .code y cc maxL ret :: gw_all) B.pre
  exact body p e s m below meth c _ ⟨⟨B.exec, B.bytes, hml, by rw [← ho]; exact findClass_of_methodNamed B.named, fun w hw => hts w (List.mem_cons_of_mem _ hw)⟩, hK⟩ B.returns B.notSynchronized (lv_entry av hlen) hP va_S.rf
section XR
variable {p : Program} {l : Launch} {e : Env} {R : Room} {s : State} {m : MethodId} {args : Array Value} {below : List Frame} {meth : Method} {c : Code} {H : Heap} {locs : List Loc} {cells slots : Nat} {Q : State → Prop} {cc : ByteArray} {nL pc : Nat} {ls : Array Slot} {rest : List Value} {E : hE} {ρ : Nat → Nat → Int32} {own : String}
theorem ret_i {post : Int32 → (Nat → Nat → Int32) → Prop} {v : Int32} (B : MB p s m args c cc nL own E) (hr : meth.sig.returnType = some .int) (hlk : meth.locks = false) (hP : WP E ρ H) (hS : va_S (hA E) s.heap H locs) (hd : decode cc pc = .ok (.ireturn, 1)) (hq : post v ρ) : W p l e R s m args below meth c H locs cells slots (MQ below (cI E post) args s cells slots (hA E)) (F0 m pc ls [.int v]) :=
  W.iret (v := v) B.1.1 B.1.2.1 hr (fun t ht hW => ⟨⟨v, ρ, rfl, hq, by show WP E ρ t.heap; rw [ht]; exact hP⟩, hS.F ht⟩) hS.2.2 hd hlk
theorem ret_z {post : Int32 → (Nat → Nat → Int32) → Prop} {v : Int32} (B : MB p s m args c cc nL own E) (hr : meth.sig.returnType = some .boolean) (hlk : meth.locks = false) (hP : WP E ρ H) (hS : va_S (hA E) s.heap H locs) (hd : decode cc pc = .ok (.ireturn, 1)) (hn : v = 0 ∨ v = 1) (hq : post v ρ) : W p l e R s m args below meth c H locs cells slots (MQ below (cI E post) args s cells slots (hA E)) (F0 m pc ls [.int v]) :=
  W.zret (v := v) B.1.1 B.1.2.1 hr (by rcases hn with rfl | rfl <;> rfl) (fun t ht hW => ⟨⟨v, ρ, rfl, hq, by show WP E ρ t.heap; rw [ht]; exact hP⟩, hS.F ht⟩) hS.2.2 hd hlk
theorem ret_v {post : (Nat → Nat → Int32) → Prop} (B : MB p s m args c cc nL own E) (hr : meth.sig.returnType = none) (hlk : meth.locks = false) (hP : WP E ρ H) (hS : va_S (hA E) s.heap H locs) (hd : decode cc pc = .ok (.return_, 1)) (hq : post ρ) : W p l e R s m args below meth c H locs cells slots (MQ below (cV E post) args s cells slots (hA E)) (F0 m pc ls []) :=
  W.vret B.1.1 B.1.2.1 hr (fun t ht hW => ⟨⟨ρ, rfl, hq, by show WP E ρ t.heap; rw [ht]; exact hP⟩, hS.F ht⟩) hS.2.2 hd hlk
theorem ret_q {post : Option Nat → (Nat → Nat → Int32) → Prop} {C : String} (r : Option Nat) (B : MB p s m args c cc nL own E) (hr : meth.sig.returnType = some (.object C)) (hlk : meth.locks = false) (hP : WP E ρ H) (hS : va_S (hA E) s.heap H locs) (hd : decode cc pc = .ok (.areturn, 1)) (hq : post r ρ) : W p l e R s m args below meth c H locs cells slots (MQ below (cQ E post) args s cells slots (hA E)) (F0 m pc ls [va_rf r]) :=
  W.aret (v := va_rf r) B.1.1 B.1.2.1 hr (Or.inl ⟨C, rfl⟩) (by cases r with | none => exact Or.inl rfl | some a => exact Or.inr ⟨a, rfl⟩) (fun t ht hW => ⟨⟨r, ρ, rfl, hq, by show WP E ρ t.heap; rw [ht]; exact hP⟩, hS.F ht⟩) hS.2.2 hd hlk
/-- linkage of a call: the words and what a program decides -/
abbrev LkS (own : String) (idx : Nat) (y : MethodName) (cc : ByteArray) (maxL : Nat) (ret : Option FieldType) (n : Nat) : Prop := (Cond.methodLink own idx y ∈ gw_all ∧ Cond.static y ∈ gw_all ∧ Cond.initialized own ∈ gw_all ∧ Cond.code y cc maxL ret ∈ gw_all) ∧ (y.cls = own ∧ y.cls ≠ "java/lang/invoke/MethodHandle" ∧ y.cls ≠ "java/lang/invoke/VarHandle" ∧ (parseMethodDescriptor y.desc).map (fun d => d.parameters.length) = some n)
abbrev LkV (own : String) (idx : Nat) (C : String) (y : MethodName) (cc : ByteArray) (maxL : Nat) (ret : Option FieldType) (n : Nat) : Prop := (Cond.methodLink own idx y ∈ gw_all ∧ Cond.instanceMethod y ∈ gw_all ∧ Cond.selects C y y ∈ gw_all ∧ Cond.initialized C ∈ gw_all ∧ Cond.code y cc maxL ret ∈ gw_all) ∧ (y.cls = C ∧ y.cls ≠ "java/lang/invoke/MethodHandle" ∧ y.cls ≠ "java/lang/invoke/VarHandle" ∧ (parseMethodDescriptor y.desc).map (fun d => d.parameters.length) = some n)
abbrev LkN (own : String) (idx : Nat) (y : MethodName) (cc : ByteArray) (maxL : Nat) (ret : Option FieldType) (n : Nat) : Prop := ((own, idx, y, RX6) ∈ nws ∧ Cond.static y ∈ gw_all ∧ Cond.initialized y.cls ∈ gw_all ∧ Cond.code y cc maxL ret ∈ gw_all) ∧ (y.cls ≠ "java/lang/invoke/MethodHandle" ∧ y.cls ≠ "java/lang/invoke/VarHandle" ∧ (parseMethodDescriptor y.desc).map (fun d => d.parameters.length) = some n)
theorem gi {y : MethodName} {cc : ByteArray} {maxL : Nat} {ret : Option FieldType} {hd : List Cond} (h : ∀ w ∈ hd, w ∈ gw_all) (hc : Cond.code y cc maxL ret ∈ gw_all) : GoodIn gw_all (hd ++ (Cond.code y cc maxL ret :: gw_all)) := by
  intro w hw
  have hm : w ∈ gw_all := by
    rcases List.mem_append.mp hw with q | q
    · exact h w q
    · rcases List.mem_cons.mp q with rfl | q
      · exact hc
      · exact q
  exact ⟨hm, gwGood hm⟩
theorem pre_ok {av : List Value} (B : MB p s m args c cc nL own E) (hP : WP E ρ H) (hS : va_S (hA E) s.heap H locs) (U : State) (hU : U.heap = H) (hW : s.WarmedH U.vm) : cPre E ρ av av.toArray U := ⟨rfl, by rw [hU]; exact hP, B.2.warm hS hU hW⟩
theorem cS {y : MethodName} {cc' : ByteArray} {maxL' : Nat} {ret' : Option FieldType} {fr' lo' n idx : Nat} {av st : List Value} {Qc : Array Value → State → Outcome → State → Prop} (B : MB p s m args c cc nL own E) (hP : WP E ρ H) (hS : va_S (hA E) s.heap H locs) (hM : Met l y (.code y cc' maxL' ret' :: gw_all) (rmk fr' lo') (cPre E ρ av) Qc 0 0 (hA E)) (K : LkS own idx y cc' maxL' ret' n)
    (hn : av.length = n) (hst : st = av.reverse ++ rest) (hsz : ls.size = nL) (hro : (rest.map fun v => v.category).sum ≤ 8) (hR : fr' + 1 ≤ R.frames ∧ 8 + (maxL' + 11) + lo' ≤ R.locals) (hf : cells ≤ R.cells ∧ slots ≤ R.slots) (hd : decode cc pc = .ok (.invokestatic idx, 3)) :
    va_Run p l e R s m args below meth c H locs cells slots 0 0 (F0 m pc ls st) rest (Qc av.toArray) (hA E) := by
  obtain ⟨⟨k1, k2, k3, k4⟩, k5⟩ := K
  have hG : GoodIn gw_all (wsS own idx y (Cond.code y cc' maxL' ret' :: gw_all)) := gi (hd := [.methodLink own idx y, .static y, .initialized own]) (fun w hw => by
    rcases List.mem_cons.mp hw with rfl | hw
    · exact k1
    · rcases List.mem_cons.mp hw with rfl | hw
      · exact k2
      · rcases List.mem_cons.mp hw with rfl | hw
        · exact k3
        · cases hw) k4
  exact va_runS (As := av) (rest := rest) B.1 hM (cwS n B.1.2.2.2.2 hG rfl rfl rfl k5 hR) ⟨cPre_blind, fun U hU hW => pre_ok B hP hS U hU hW⟩ rfl hn hsz hst (lv_room hro) hd hf
theorem cN {y : MethodName} {cc' : ByteArray} {maxL' : Nat} {ret' : Option FieldType} {fr' lo' n idx : Nat} {av st : List Value} {Qc : Array Value → State → Outcome → State → Prop} (B : MB p s m args c cc nL own E) (hP : WP E ρ H) (hS : va_S (hA E) s.heap H locs) (hM : Met l y (.code y cc' maxL' ret' :: gw_all) (rmk fr' lo') (cPre E ρ av) Qc 0 0 (hA E)) (K : LkN own idx y cc' maxL' ret' n)
    (hn : av.length = n) (hst : st = av.reverse ++ rest) (hsz : ls.size = nL) (hro : (rest.map fun v => v.category).sum ≤ 8) (hR : fr' + 1 ≤ R.frames ∧ 8 + (maxL' + 11) + lo' ≤ R.locals) (hf : cells ≤ R.cells ∧ slots ≤ R.slots) (hd : decode cc pc = .ok (.invokestatic idx, 3)) :
    va_Run p l e R s m args below meth c H locs cells slots 0 0 (F0 m pc ls st) rest (Qc av.toArray) (hA E) := by
  obtain ⟨⟨k1, k2, k3, k4⟩, k5⟩ := K
  have hG : GoodIn gw_all (Cond.code y cc' maxL' ret' :: gw_all) := gi (hd := []) (fun w hw => by cases hw) k4
  exact va_runSN (As := av) (rest := rest) (host := RX6) B.1 hM ⟨va_cnB n B.1.2.2.2.2 hG rfl rfl rfl (B.2.2.1 _ k1) (B.1.2.2.2.2 _ k3) k5 hR, B.1.2.2.2.2 _ k2, trivial⟩ ⟨cPre_blind, fun U hU hW => pre_ok B hP hS U hU hW⟩ rfl hn hsz hst (lv_room hro) hd hf
theorem hrecv {C : String} {T : u_T} {ci N k : Nat} {fs : List Value} (B : MB p s m args c cc nL own E) (hP : WP E ρ H) (hk : k < 1090) (hc : hcc E k (ρ k) = .inr (ci, fs)) (hcl : vwCl[ci]? = some (C, T, N)) : ∃ cell : Cell, H[E.2.1 + k]? = some cell ∧ cell.vm.isStatics = false ∧ s.vm.findClass C = some cell.cls :=
  va_recv (q := (C, T, N)) (q0 := k) (ci := ci) (fs := fs) B.2.1 hP hcl (by rw [wl_at hk]; show some (_, hcc E k (ρ k)) = _; rw [hc])
theorem cVt {y : MethodName} {cc' : ByteArray} {maxL' : Nat} {ret' : Option FieldType} {fr' lo' n idx k : Nat} {C : String} {av st : List Value} {Qc : Array Value → State → Outcome → State → Prop} (B : MB p s m args c cc nL own E) (hP : WP E ρ H) (hS : va_S (hA E) s.heap H locs) (hM : Met l y (.code y cc' maxL' ret' :: gw_all) (rmk fr' lo') (cPre E ρ (.ref (E.2.1 + k) :: av)) Qc 0 0 (hA E)) (K : LkV own idx C y cc' maxL' ret' n)
    (hrec : ∃ cell : Cell, H[E.2.1 + k]? = some cell ∧ cell.vm.isStatics = false ∧ s.vm.findClass C = some cell.cls) (hn : av.length = n) (hst : st = av.reverse ++ .ref (E.2.1 + k) :: rest) (hsz : ls.size = nL) (hro : (rest.map fun v => v.category).sum ≤ 8) (hR : fr' + 1 ≤ R.frames ∧ 8 + (maxL' + 11) + lo' ≤ R.locals) (hf : cells ≤ R.cells ∧ slots ≤ R.slots) (hd : decode cc pc = .ok (.invokevirtual idx, 3)) :
    va_Run p l e R s m args below meth c H locs cells slots 0 0 (F0 m pc ls st) rest (Qc (Value.ref (E.2.1 + k) :: av).toArray) (hA E) := by
  obtain ⟨⟨k1, k2, k3, k4, k6⟩, k5⟩ := K
  have hG : GoodIn gw_all (wsV own idx C y (Cond.code y cc' maxL' ret' :: gw_all)) := gi (hd := [.methodLink own idx y, .instanceMethod y, .selects C y y, .initialized C]) (fun w hw => by
    rcases List.mem_cons.mp hw with rfl | hw
    · exact k1
    · rcases List.mem_cons.mp hw with rfl | hw
      · exact k2
      · rcases List.mem_cons.mp hw with rfl | hw
        · exact k3
        · rcases List.mem_cons.mp hw with rfl | hw
          · exact k4
          · cases hw) k6
  exact va_runV (As := av) (rest := rest) B.1 hM (cwV n B.1.2.2.2.2 hG rfl rfl rfl k5 hR) ⟨cPre_blind, hrec, fun U hU hW => pre_ok B hP hS U hU hW⟩ rfl hn hsz hst (lv_room hro) hd hf
theorem call_i {post : Int32 → (Nat → Nat → Int32) → Prop} {a : Array Value} {st : List Value} (hr : va_Run p l e R s m args below meth c H locs cells slots 0 0 (F0 m pc ls st) rest (cI E post a) (hA E)) (hS : va_S (hA E) s.heap H locs)
    (kk : ∀ (r : Int32) (ρ' : Nat → Nat → Int32) (H' : Heap) (locs' : List Loc), post r ρ' → WP E ρ' H' → va_S (hA E) s.heap H' locs' → W p l e R s m args below meth c H' locs' cells slots Q (F0 m (pc + 3) ls (.int r :: rest))) : W p l e R s m args below meth c H locs cells slots Q (F0 m pc ls st) :=
  va_calli hr hS (fun _ _ h => h) (fun _ h => h) (fun r u t H1 locs1 ht _ hp hb _ _ hS' => kk r u H1 locs1 hp (by have hb : WP E u t.heap := hb; rw [ht] at hb; exact hb) hS')
theorem call_v {post : (Nat → Nat → Int32) → Prop} {a : Array Value} {st : List Value} (hr : va_Run p l e R s m args below meth c H locs cells slots 0 0 (F0 m pc ls st) rest (cV E post a) (hA E)) (hS : va_S (hA E) s.heap H locs)
    (kk : ∀ (ρ' : Nat → Nat → Int32) (H' : Heap) (locs' : List Loc), post ρ' → WP E ρ' H' → va_S (hA E) s.heap H' locs' → W p l e R s m args below meth c H' locs' cells slots Q (F0 m (pc + 3) ls rest)) : W p l e R s m args below meth c H locs cells slots Q (F0 m pc ls st) :=
  va_callv hr hS (fun _ _ h => h) (fun _ h => h) (fun u t H1 locs1 ht _ hp hb _ _ hS' => kk u H1 locs1 hp (by have hb : WP E u t.heap := hb; rw [ht] at hb; exact hb) hS')
theorem call_q {post : Option Nat → (Nat → Nat → Int32) → Prop} {a : Array Value} {st : List Value} (hr : va_Run p l e R s m args below meth c H locs cells slots 0 0 (F0 m pc ls st) rest (cQ E post a) (hA E)) (hS : va_S (hA E) s.heap H locs)
    (kk : ∀ (r : Option Nat) (ρ' : Nat → Nat → Int32) (H' : Heap) (locs' : List Loc), post r ρ' → WP E ρ' H' → va_S (hA E) s.heap H' locs' → W p l e R s m args below meth c H' locs' cells slots Q (F0 m (pc + 3) ls (va_rf r :: rest))) : W p l e R s m args below meth c H locs cells slots Q (F0 m pc ls st) :=
  va_callq hr hS (fun _ _ h => h) (fun _ h => h) (fun r u t H1 locs1 ht _ hp hb _ _ hS' => kk r u H1 locs1 hp (by have hb : WP E u t.heap := hb; rw [ht] at hb; exact hb) hS')
theorem get0 {k idx : Nat} (B : MB p s m args c cc nL own E) (hP : WP E ρ H) (h : hk k = 0) (j : Nat) (hj : j < 6) (hw : Cond.fieldLink own idx RX0 (TX0 j).2.1 (TX0 j).2.2.1 ∈ gw_all) {v : Value} (hv : (fl0 E k (ρ k))[j]? = some v) (hd : decode cc pc = .ok (.getfield idx, 3)) (kk : W p l e R s m args below meth c H locs cells slots Q (F0 m (pc + 3) ls (v :: rest))) : W p l e R s m args below meth c H locs cells slots Q (F0 m pc ls (.ref (E.2.1 + k) :: rest)) := by
  have hlt := hk_lt h (by decide)
  refine va_get (D := E.1) (ci := 0) (C := RX0) (T := TX0) (N := 6) B.1.1 B.1.2.1 B.1.2.2.2.2 in0 B.1.2.2.2.1 B.2.1 hP k (fs := fl0 E k (ρ k)) ?_ rfl j hj (B.1.2.2.2.2 _ hw) (fun x hx => ?_) hv hd kk
  · rw [wl_at hlt]; show some (_, hcc E k (ρ k)) = _; rw [hcc0 _ _ h]
  · have e : ∀ j, j < 6 → (TX0 j).1 = RX0 := by decide +kernel
    rw [e j hj] at hx; exact hx
theorem put0 {k idx : Nat} {v : Int32} (B : MB p s m args c cc nL own E) (hP : WP E ρ H) (hS : va_S (hA E) s.heap H locs) (h : hk k = 0) (j : Nat) (hj : j < 6) (hw : Cond.fieldLink own idx RX0 (TX0 j).2.1 (TX0 j).2.2.1 ∈ gw_all) (hfin : (TX0 j).2.2.2 = false) (hn : narrow (tyX0 j) (.int v) = .int v) (hfit : fits (tyX0 j) (.int v) = true) (hset : (fl0 E k (ρ k)).set j (.int v) = fl0 E k (upd (ρ k) j v)) (hd : decode cc pc = .ok (.putfield idx, 3)) (kk : ∀ (H' : Heap) (locs' : List Loc), WP E (up ρ k j v) H' → va_S (hA E) s.heap H' locs' → W p l e R s m args below meth c H' locs' cells slots Q (F0 m (pc + 3) ls rest)) : W p l e R s m args below meth c H locs cells slots Q (F0 m pc ls (.int v :: .ref (E.2.1 + k) :: rest)) := by
  have hlt := hk_lt h (by decide)
  have e : ∀ j, j < 6 → (TX0 j).1 = RX0 := by decide +kernel
  refine va_put (D := E.1) (ci := 0) (C := RX0) (T := TX0) (N := 6) (ty := tyX0 j) B.1.1 B.1.2.1 B.1.2.2.2.2 in0 tyX0 tyX0_ok nmX0 B.1.2.2.2.1 B.2.1 hP (wl_D E _ _) hS k (fs := fl0 E k (ρ k)) ?_ rfl j hj (B.1.2.2.2.2 _ hw) (fun x hx => by rw [e j hj] at hx; exact hx) hfin (tyX0_ok j hj) hn hfit (by simp [fl0]; exact hj) hd (fun H1 locs1 h1 _ h3 => ?_)
  · rw [wl_at hlt]; show some (_, hcc E k (ρ k)) = _; rw [hcc0 _ _ h]
  · refine kk H1 locs1 ?_ h3
    rw [wl_set hlt, hset, ← hcc0 _ _ h, hcf_up] at h1
    exact h1
theorem get1 {k idx : Nat} (B : MB p s m args c cc nL own E) (hP : WP E ρ H) (h : hk k = 1) (j : Nat) (hj : j < 18) (hw : Cond.fieldLink own idx RX1 (TX1 j).2.1 (TX1 j).2.2.1 ∈ gw_all) {v : Value} (hv : (fl1 E k (ρ k))[j]? = some v) (hd : decode cc pc = .ok (.getfield idx, 3)) (kk : W p l e R s m args below meth c H locs cells slots Q (F0 m (pc + 3) ls (v :: rest))) : W p l e R s m args below meth c H locs cells slots Q (F0 m pc ls (.ref (E.2.1 + k) :: rest)) := by
  have hlt := hk_lt h (by decide)
  refine va_get (D := E.1) (ci := 1) (C := RX1) (T := TX1) (N := 18) B.1.1 B.1.2.1 B.1.2.2.2.2 in1 B.1.2.2.2.1 B.2.1 hP k (fs := fl1 E k (ρ k)) ?_ rfl j hj (B.1.2.2.2.2 _ hw) (fun x hx => ?_) hv hd kk
  · rw [wl_at hlt]; show some (_, hcc E k (ρ k)) = _; rw [hcc1 _ _ h]
  · have e : ∀ j, j < 18 → (TX1 j).1 = RX1 := by decide +kernel
    rw [e j hj] at hx; exact hx
theorem put1 {k idx : Nat} {v : Int32} (B : MB p s m args c cc nL own E) (hP : WP E ρ H) (hS : va_S (hA E) s.heap H locs) (h : hk k = 1) (j : Nat) (hj : j < 18) (hw : Cond.fieldLink own idx RX1 (TX1 j).2.1 (TX1 j).2.2.1 ∈ gw_all) (hfin : (TX1 j).2.2.2 = false) (hn : narrow (tyX1 j) (.int v) = .int v) (hfit : fits (tyX1 j) (.int v) = true) (hset : (fl1 E k (ρ k)).set j (.int v) = fl1 E k (upd (ρ k) j v)) (hd : decode cc pc = .ok (.putfield idx, 3)) (kk : ∀ (H' : Heap) (locs' : List Loc), WP E (up ρ k j v) H' → va_S (hA E) s.heap H' locs' → W p l e R s m args below meth c H' locs' cells slots Q (F0 m (pc + 3) ls rest)) : W p l e R s m args below meth c H locs cells slots Q (F0 m pc ls (.int v :: .ref (E.2.1 + k) :: rest)) := by
  have hlt := hk_lt h (by decide)
  have e : ∀ j, j < 18 → (TX1 j).1 = RX1 := by decide +kernel
  refine va_put (D := E.1) (ci := 1) (C := RX1) (T := TX1) (N := 18) (ty := tyX1 j) B.1.1 B.1.2.1 B.1.2.2.2.2 in1 tyX1 tyX1_ok nmX1 B.1.2.2.2.1 B.2.1 hP (wl_D E _ _) hS k (fs := fl1 E k (ρ k)) ?_ rfl j hj (B.1.2.2.2.2 _ hw) (fun x hx => by rw [e j hj] at hx; exact hx) hfin (tyX1_ok j hj) hn hfit (by simp [fl1]; exact hj) hd (fun H1 locs1 h1 _ h3 => ?_)
  · rw [wl_at hlt]; show some (_, hcc E k (ρ k)) = _; rw [hcc1 _ _ h]
  · refine kk H1 locs1 ?_ h3
    rw [wl_set hlt, hset, ← hcc1 _ _ h, hcf_up] at h1
    exact h1
theorem get2 {k idx : Nat} (B : MB p s m args c cc nL own E) (hP : WP E ρ H) (h : hk k = 2) (j : Nat) (hj : j < 20) (hw : Cond.fieldLink own idx RX2 (TX2 j).2.1 (TX2 j).2.2.1 ∈ gw_all) {v : Value} (hv : (fl2 E k (ρ k))[j]? = some v) (hd : decode cc pc = .ok (.getfield idx, 3)) (kk : W p l e R s m args below meth c H locs cells slots Q (F0 m (pc + 3) ls (v :: rest))) : W p l e R s m args below meth c H locs cells slots Q (F0 m pc ls (.ref (E.2.1 + k) :: rest)) := by
  have hlt := hk_lt h (by decide)
  refine va_get (D := E.1) (ci := 2) (C := RX2) (T := TX2) (N := 20) B.1.1 B.1.2.1 B.1.2.2.2.2 in2 B.1.2.2.2.1 B.2.1 hP k (fs := fl2 E k (ρ k)) ?_ rfl j hj (B.1.2.2.2.2 _ hw) (fun x hx => ?_) hv hd kk
  · rw [wl_at hlt]; show some (_, hcc E k (ρ k)) = _; rw [hcc2 _ _ h]
  · have e : ∀ j, j < 20 → (TX2 j).1 = RX2 := by decide +kernel
    rw [e j hj] at hx; exact hx
theorem put2 {k idx : Nat} {v : Int32} (B : MB p s m args c cc nL own E) (hP : WP E ρ H) (hS : va_S (hA E) s.heap H locs) (h : hk k = 2) (j : Nat) (hj : j < 20) (hw : Cond.fieldLink own idx RX2 (TX2 j).2.1 (TX2 j).2.2.1 ∈ gw_all) (hfin : (TX2 j).2.2.2 = false) (hn : narrow (tyX2 j) (.int v) = .int v) (hfit : fits (tyX2 j) (.int v) = true) (hset : (fl2 E k (ρ k)).set j (.int v) = fl2 E k (upd (ρ k) j v)) (hd : decode cc pc = .ok (.putfield idx, 3)) (kk : ∀ (H' : Heap) (locs' : List Loc), WP E (up ρ k j v) H' → va_S (hA E) s.heap H' locs' → W p l e R s m args below meth c H' locs' cells slots Q (F0 m (pc + 3) ls rest)) : W p l e R s m args below meth c H locs cells slots Q (F0 m pc ls (.int v :: .ref (E.2.1 + k) :: rest)) := by
  have hlt := hk_lt h (by decide)
  have e : ∀ j, j < 20 → (TX2 j).1 = RX2 := by decide +kernel
  refine va_put (D := E.1) (ci := 2) (C := RX2) (T := TX2) (N := 20) (ty := tyX2 j) B.1.1 B.1.2.1 B.1.2.2.2.2 in2 tyX2 tyX2_ok nmX2 B.1.2.2.2.1 B.2.1 hP (wl_D E _ _) hS k (fs := fl2 E k (ρ k)) ?_ rfl j hj (B.1.2.2.2.2 _ hw) (fun x hx => by rw [e j hj] at hx; exact hx) hfin (tyX2_ok j hj) hn hfit (by simp [fl2]; exact hj) hd (fun H1 locs1 h1 _ h3 => ?_)
  · rw [wl_at hlt]; show some (_, hcc E k (ρ k)) = _; rw [hcc2 _ _ h]
  · refine kk H1 locs1 ?_ h3
    rw [wl_set hlt, hset, ← hcc2 _ _ h, hcf_up] at h1
    exact h1
theorem get3 {k idx : Nat} (B : MB p s m args c cc nL own E) (hP : WP E ρ H) (h : hk k = 3) (j : Nat) (hj : j < 3) (hw : Cond.fieldLink own idx RX3 (TX3 j).2.1 (TX3 j).2.2.1 ∈ gw_all) {v : Value} (hv : (fl3 E k (ρ k))[j]? = some v) (hd : decode cc pc = .ok (.getfield idx, 3)) (kk : W p l e R s m args below meth c H locs cells slots Q (F0 m (pc + 3) ls (v :: rest))) : W p l e R s m args below meth c H locs cells slots Q (F0 m pc ls (.ref (E.2.1 + k) :: rest)) := by
  have hlt := hk_lt h (by decide)
  refine va_get (D := E.1) (ci := 3) (C := RX3) (T := TX3) (N := 3) B.1.1 B.1.2.1 B.1.2.2.2.2 in3 B.1.2.2.2.1 B.2.1 hP k (fs := fl3 E k (ρ k)) ?_ rfl j hj (B.1.2.2.2.2 _ hw) (fun x hx => ?_) hv hd kk
  · rw [wl_at hlt]; show some (_, hcc E k (ρ k)) = _; rw [hcc3 _ _ h]
  · have e : ∀ j, j < 3 → (TX3 j).1 = RX3 := by decide +kernel
    rw [e j hj] at hx; exact hx
theorem put3 {k idx : Nat} {v : Int32} (B : MB p s m args c cc nL own E) (hP : WP E ρ H) (hS : va_S (hA E) s.heap H locs) (h : hk k = 3) (j : Nat) (hj : j < 3) (hw : Cond.fieldLink own idx RX3 (TX3 j).2.1 (TX3 j).2.2.1 ∈ gw_all) (hfin : (TX3 j).2.2.2 = false) (hn : narrow (tyX3 j) (.int v) = .int v) (hfit : fits (tyX3 j) (.int v) = true) (hset : (fl3 E k (ρ k)).set j (.int v) = fl3 E k (upd (ρ k) j v)) (hd : decode cc pc = .ok (.putfield idx, 3)) (kk : ∀ (H' : Heap) (locs' : List Loc), WP E (up ρ k j v) H' → va_S (hA E) s.heap H' locs' → W p l e R s m args below meth c H' locs' cells slots Q (F0 m (pc + 3) ls rest)) : W p l e R s m args below meth c H locs cells slots Q (F0 m pc ls (.int v :: .ref (E.2.1 + k) :: rest)) := by
  have hlt := hk_lt h (by decide)
  have e : ∀ j, j < 3 → (TX3 j).1 = RX3 := by decide +kernel
  refine va_put (D := E.1) (ci := 3) (C := RX3) (T := TX3) (N := 3) (ty := tyX3 j) B.1.1 B.1.2.1 B.1.2.2.2.2 in3 tyX3 tyX3_ok nmX3 B.1.2.2.2.1 B.2.1 hP (wl_D E _ _) hS k (fs := fl3 E k (ρ k)) ?_ rfl j hj (B.1.2.2.2.2 _ hw) (fun x hx => by rw [e j hj] at hx; exact hx) hfin (tyX3_ok j hj) hn hfit (by simp [fl3]; exact hj) hd (fun H1 locs1 h1 _ h3 => ?_)
  · rw [wl_at hlt]; show some (_, hcc E k (ρ k)) = _; rw [hcc3 _ _ h]
  · refine kk H1 locs1 ?_ h3
    rw [wl_set hlt, hset, ← hcc3 _ _ h, hcf_up] at h1
    exact h1
theorem get4 {k idx : Nat} (B : MB p s m args c cc nL own E) (hP : WP E ρ H) (h : hk k = 4) (j : Nat) (hj : j < 8) (hw : Cond.fieldLink own idx RX4 (TX4 j).2.1 (TX4 j).2.2.1 ∈ gw_all) {v : Value} (hv : (fl4 E k (ρ k))[j]? = some v) (hd : decode cc pc = .ok (.getfield idx, 3)) (kk : W p l e R s m args below meth c H locs cells slots Q (F0 m (pc + 3) ls (v :: rest))) : W p l e R s m args below meth c H locs cells slots Q (F0 m pc ls (.ref (E.2.1 + k) :: rest)) := by
  have hlt := hk_lt h (by decide)
  refine va_get (D := E.1) (ci := 4) (C := RX4) (T := TX4) (N := 8) B.1.1 B.1.2.1 B.1.2.2.2.2 in4 B.1.2.2.2.1 B.2.1 hP k (fs := fl4 E k (ρ k)) ?_ rfl j hj (B.1.2.2.2.2 _ hw) (fun x hx => ?_) hv hd kk
  · rw [wl_at hlt]; show some (_, hcc E k (ρ k)) = _; rw [hcc4 _ _ h]
  · have e : ∀ j, j < 8 → (TX4 j).1 = RX4 := by decide +kernel
    rw [e j hj] at hx; exact hx
theorem put4 {k idx : Nat} {v : Int32} (B : MB p s m args c cc nL own E) (hP : WP E ρ H) (hS : va_S (hA E) s.heap H locs) (h : hk k = 4) (j : Nat) (hj : j < 8) (hw : Cond.fieldLink own idx RX4 (TX4 j).2.1 (TX4 j).2.2.1 ∈ gw_all) (hfin : (TX4 j).2.2.2 = false) (hn : narrow (tyX4 j) (.int v) = .int v) (hfit : fits (tyX4 j) (.int v) = true) (hset : (fl4 E k (ρ k)).set j (.int v) = fl4 E k (upd (ρ k) j v)) (hd : decode cc pc = .ok (.putfield idx, 3)) (kk : ∀ (H' : Heap) (locs' : List Loc), WP E (up ρ k j v) H' → va_S (hA E) s.heap H' locs' → W p l e R s m args below meth c H' locs' cells slots Q (F0 m (pc + 3) ls rest)) : W p l e R s m args below meth c H locs cells slots Q (F0 m pc ls (.int v :: .ref (E.2.1 + k) :: rest)) := by
  have hlt := hk_lt h (by decide)
  have e : ∀ j, j < 8 → (TX4 j).1 = RX4 := by decide +kernel
  refine va_put (D := E.1) (ci := 4) (C := RX4) (T := TX4) (N := 8) (ty := tyX4 j) B.1.1 B.1.2.1 B.1.2.2.2.2 in4 tyX4 tyX4_ok nmX4 B.1.2.2.2.1 B.2.1 hP (wl_D E _ _) hS k (fs := fl4 E k (ρ k)) ?_ rfl j hj (B.1.2.2.2.2 _ hw) (fun x hx => by rw [e j hj] at hx; exact hx) hfin (tyX4_ok j hj) hn hfit (by simp [fl4]; exact hj) hd (fun H1 locs1 h1 _ h3 => ?_)
  · rw [wl_at hlt]; show some (_, hcc E k (ρ k)) = _; rw [hcc4 _ _ h]
  · refine kk H1 locs1 ?_ h3
    rw [wl_set hlt, hset, ← hcc4 _ _ h, hcf_up] at h1
    exact h1
theorem get5 {k idx : Nat} (B : MB p s m args c cc nL own E) (hP : WP E ρ H) (h : hk k = 5) (j : Nat) (hj : j < 10) (hw : Cond.fieldLink own idx RX5 (TX5 j).2.1 (TX5 j).2.2.1 ∈ gw_all) {v : Value} (hv : (fl5 E k (ρ k))[j]? = some v) (hd : decode cc pc = .ok (.getfield idx, 3)) (kk : W p l e R s m args below meth c H locs cells slots Q (F0 m (pc + 3) ls (v :: rest))) : W p l e R s m args below meth c H locs cells slots Q (F0 m pc ls (.ref (E.2.1 + k) :: rest)) := by
  have hlt := hk_lt h (by decide)
  refine va_get (D := E.1) (ci := 5) (C := RX5) (T := TX5) (N := 10) B.1.1 B.1.2.1 B.1.2.2.2.2 in5 B.1.2.2.2.1 B.2.1 hP k (fs := fl5 E k (ρ k)) ?_ rfl j hj (B.1.2.2.2.2 _ hw) (fun x hx => ?_) hv hd kk
  · rw [wl_at hlt]; show some (_, hcc E k (ρ k)) = _; rw [hcc5 _ _ h]
  · have e : ∀ j, j < 10 → (TX5 j).1 = RX5 := by decide +kernel
    rw [e j hj] at hx; exact hx
theorem put5 {k idx : Nat} {v : Int32} (B : MB p s m args c cc nL own E) (hP : WP E ρ H) (hS : va_S (hA E) s.heap H locs) (h : hk k = 5) (j : Nat) (hj : j < 10) (hw : Cond.fieldLink own idx RX5 (TX5 j).2.1 (TX5 j).2.2.1 ∈ gw_all) (hfin : (TX5 j).2.2.2 = false) (hn : narrow (tyX5 j) (.int v) = .int v) (hfit : fits (tyX5 j) (.int v) = true) (hset : (fl5 E k (ρ k)).set j (.int v) = fl5 E k (upd (ρ k) j v)) (hd : decode cc pc = .ok (.putfield idx, 3)) (kk : ∀ (H' : Heap) (locs' : List Loc), WP E (up ρ k j v) H' → va_S (hA E) s.heap H' locs' → W p l e R s m args below meth c H' locs' cells slots Q (F0 m (pc + 3) ls rest)) : W p l e R s m args below meth c H locs cells slots Q (F0 m pc ls (.int v :: .ref (E.2.1 + k) :: rest)) := by
  have hlt := hk_lt h (by decide)
  have e : ∀ j, j < 10 → (TX5 j).1 = RX5 := by decide +kernel
  refine va_put (D := E.1) (ci := 5) (C := RX5) (T := TX5) (N := 10) (ty := tyX5 j) B.1.1 B.1.2.1 B.1.2.2.2.2 in5 tyX5 tyX5_ok nmX5 B.1.2.2.2.1 B.2.1 hP (wl_D E _ _) hS k (fs := fl5 E k (ρ k)) ?_ rfl j hj (B.1.2.2.2.2 _ hw) (fun x hx => by rw [e j hj] at hx; exact hx) hfin (tyX5_ok j hj) hn hfit (by simp [fl5]; exact hj) hd (fun H1 locs1 h1 _ h3 => ?_)
  · rw [wl_at hlt]; show some (_, hcc E k (ρ k)) = _; rw [hcc5 _ _ h]
  · refine kk H1 locs1 ?_ h3
    rw [wl_set hlt, hset, ← hcc5 _ _ h, hcf_up] at h1
    exact h1
theorem get6 {k idx : Nat} (B : MB p s m args c cc nL own E) (hP : WP E ρ H) (h : hk k = 6) (j : Nat) (hj : j < 12) (hw : Cond.fieldLink own idx RX6 (TX6 j).2.1 (TX6 j).2.2.1 ∈ gw_all) {v : Value} (hv : (fl6 E k (ρ k))[j]? = some v) (hd : decode cc pc = .ok (.getfield idx, 3)) (kk : W p l e R s m args below meth c H locs cells slots Q (F0 m (pc + 3) ls (v :: rest))) : W p l e R s m args below meth c H locs cells slots Q (F0 m pc ls (.ref (E.2.1 + k) :: rest)) := by
  have hlt := hk_lt h (by decide)
  refine va_get (D := E.1) (ci := 6) (C := RX6) (T := TX6) (N := 12) B.1.1 B.1.2.1 B.1.2.2.2.2 in6 B.1.2.2.2.1 B.2.1 hP k (fs := fl6 E k (ρ k)) ?_ rfl j hj (B.1.2.2.2.2 _ hw) (fun x hx => ?_) hv hd kk
  · rw [wl_at hlt]; show some (_, hcc E k (ρ k)) = _; rw [hcc6 _ _ h]
  · have e : ∀ j, j < 12 → (TX6 j).1 = RX6 := by decide +kernel
    rw [e j hj] at hx; exact hx
theorem put6 {k idx : Nat} {v : Int32} (B : MB p s m args c cc nL own E) (hP : WP E ρ H) (hS : va_S (hA E) s.heap H locs) (h : hk k = 6) (j : Nat) (hj : j < 12) (hw : Cond.fieldLink own idx RX6 (TX6 j).2.1 (TX6 j).2.2.1 ∈ gw_all) (hfin : (TX6 j).2.2.2 = false) (hn : narrow (tyX6 j) (.int v) = .int v) (hfit : fits (tyX6 j) (.int v) = true) (hset : (fl6 E k (ρ k)).set j (.int v) = fl6 E k (upd (ρ k) j v)) (hd : decode cc pc = .ok (.putfield idx, 3)) (kk : ∀ (H' : Heap) (locs' : List Loc), WP E (up ρ k j v) H' → va_S (hA E) s.heap H' locs' → W p l e R s m args below meth c H' locs' cells slots Q (F0 m (pc + 3) ls rest)) : W p l e R s m args below meth c H locs cells slots Q (F0 m pc ls (.int v :: .ref (E.2.1 + k) :: rest)) := by
  have hlt := hk_lt h (by decide)
  have e : ∀ j, j < 12 → (TX6 j).1 = RX6 := by decide +kernel
  refine va_put (D := E.1) (ci := 6) (C := RX6) (T := TX6) (N := 12) (ty := tyX6 j) B.1.1 B.1.2.1 B.1.2.2.2.2 in6 tyX6 tyX6_ok nmX6 B.1.2.2.2.1 B.2.1 hP (wl_D E _ _) hS k (fs := fl6 E k (ρ k)) ?_ rfl j hj (B.1.2.2.2.2 _ hw) (fun x hx => by rw [e j hj] at hx; exact hx) hfin (tyX6_ok j hj) hn hfit (by simp [fl6]; exact hj) hd (fun H1 locs1 h1 _ h3 => ?_)
  · rw [wl_at hlt]; show some (_, hcc E k (ρ k)) = _; rw [hcc6 _ _ h]
  · refine kk H1 locs1 ?_ h3
    rw [wl_set hlt, hset, ← hcc6 _ _ h, hcf_up] at h1
    exact h1
theorem get7 {k idx : Nat} (B : MB p s m args c cc nL own E) (hP : WP E ρ H) (h : hk k = 7) (j : Nat) (hj : j < 18) (hw : Cond.fieldLink own idx RX7 (TX7 j).2.1 (TX7 j).2.2.1 ∈ gw_all) {v : Value} (hv : (fl7 E k (ρ k))[j]? = some v) (hd : decode cc pc = .ok (.getfield idx, 3)) (kk : W p l e R s m args below meth c H locs cells slots Q (F0 m (pc + 3) ls (v :: rest))) : W p l e R s m args below meth c H locs cells slots Q (F0 m pc ls (.ref (E.2.1 + k) :: rest)) := by
  have hlt := hk_lt h (by decide)
  refine va_get (D := E.1) (ci := 7) (C := RX7) (T := TX7) (N := 18) B.1.1 B.1.2.1 B.1.2.2.2.2 in7 B.1.2.2.2.1 B.2.1 hP k (fs := fl7 E k (ρ k)) ?_ rfl j hj (B.1.2.2.2.2 _ hw) (fun x hx => ?_) hv hd kk
  · rw [wl_at hlt]; show some (_, hcc E k (ρ k)) = _; rw [hcc7 _ _ h]
  · have e : ∀ j, j < 18 → (TX7 j).1 = RX7 := by decide +kernel
    rw [e j hj] at hx; exact hx
theorem put7 {k idx : Nat} {v : Int32} (B : MB p s m args c cc nL own E) (hP : WP E ρ H) (hS : va_S (hA E) s.heap H locs) (h : hk k = 7) (j : Nat) (hj : j < 18) (hw : Cond.fieldLink own idx RX7 (TX7 j).2.1 (TX7 j).2.2.1 ∈ gw_all) (hfin : (TX7 j).2.2.2 = false) (hn : narrow (tyX7 j) (.int v) = .int v) (hfit : fits (tyX7 j) (.int v) = true) (hset : (fl7 E k (ρ k)).set j (.int v) = fl7 E k (upd (ρ k) j v)) (hd : decode cc pc = .ok (.putfield idx, 3)) (kk : ∀ (H' : Heap) (locs' : List Loc), WP E (up ρ k j v) H' → va_S (hA E) s.heap H' locs' → W p l e R s m args below meth c H' locs' cells slots Q (F0 m (pc + 3) ls rest)) : W p l e R s m args below meth c H locs cells slots Q (F0 m pc ls (.int v :: .ref (E.2.1 + k) :: rest)) := by
  have hlt := hk_lt h (by decide)
  have e : ∀ j, j < 18 → (TX7 j).1 = RX7 := by decide +kernel
  refine va_put (D := E.1) (ci := 7) (C := RX7) (T := TX7) (N := 18) (ty := tyX7 j) B.1.1 B.1.2.1 B.1.2.2.2.2 in7 tyX7 tyX7_ok nmX7 B.1.2.2.2.1 B.2.1 hP (wl_D E _ _) hS k (fs := fl7 E k (ρ k)) ?_ rfl j hj (B.1.2.2.2.2 _ hw) (fun x hx => by rw [e j hj] at hx; exact hx) hfin (tyX7_ok j hj) hn hfit (by simp [fl7]; exact hj) hd (fun H1 locs1 h1 _ h3 => ?_)
  · rw [wl_at hlt]; show some (_, hcc E k (ρ k)) = _; rw [hcc7 _ _ h]
  · refine kk H1 locs1 ?_ h3
    rw [wl_set hlt, hset, ← hcc7 _ _ h, hcf_up] at h1
    exact h1
/-- an int array -/
theorem ald {k n : Nat} {i : Int32} (B : MB p s m args c cc nL own E) (hP : WP E ρ H) (h : hk k = 8) (hl : hlen k = n) (hin : vp_in i n) (hd : decode cc pc = .ok (.iaload, 1)) (kk : W p l e R s m args below meth c H locs cells slots Q (F0 m (pc + 1) ls (.int (ρ k i.toNatClampNeg) :: rest))) : W p l e R s m args below meth c H locs cells slots Q (F0 m pc ls (.int i :: .ref (E.2.1 + k) :: rest)) :=
  va_iald (D := E.1) B.1.1 B.1.2.1 B.2.1 hP k 0 (by rw [wl_at (hk_lt h (by decide))]; show some (_, hcc E k (ρ k)) = _; rw [hcc8 _ _ h]) rfl (by rw [hl]; exact hin) hd kk
theorem zld {k n : Nat} {i : Int32} (B : MB p s m args c cc nL own E) (hP : WP E ρ H) (h : hk k = 9) (hl : hlen k = n) (hin : vp_in i n) (hd : decode cc pc = .ok (.baload, 1)) (kk : W p l e R s m args below meth c H locs cells slots Q (F0 m (pc + 1) ls (.int (ρ k i.toNatClampNeg) :: rest))) : W p l e R s m args below meth c H locs cells slots Q (F0 m pc ls (.int i :: .ref (E.2.1 + k) :: rest)) :=
  va_zald (D := E.1) B.1.1 B.1.2.1 B.2.1 hP k 1 (by rw [wl_at (hk_lt h (by decide))]; show some (_, hcc E k (ρ k)) = _; rw [hcc9 _ _ h]) rfl (by rw [hl]; exact hin) hd kk
theorem ast {k n : Nat} {i x : Int32} (B : MB p s m args c cc nL own E) (hP : WP E ρ H) (hS : va_S (hA E) s.heap H locs) (h : hk k = 8) (hl : hlen k = n) (hin : vp_in i n) (hd : decode cc pc = .ok (.iastore, 1)) (kk : ∀ (H' : Heap) (locs' : List Loc), WP E (up ρ k i.toNatClampNeg x) H' → va_S (hA E) s.heap H' locs' → W p l e R s m args below meth c H' locs' cells slots Q (F0 m (pc + 1) ls rest)) : W p l e R s m args below meth c H locs cells slots Q (F0 m pc ls (.int x :: .int i :: .ref (E.2.1 + k) :: rest)) := by
  have hlt := hk_lt h (by decide)
  refine va_iast (D := E.1) (cA := E.2.2.1 0) (n := hlen k) (f := ρ k) B.1.1 B.1.2.1 B.2.1 hP (wl_D E _ _) hS k 0 ?_ rfl (by rw [hl]; exact hin) hd (fun H1 locs1 h1 _ h3 => ?_)
  · rw [wl_at hlt]; show some (_, hcc E k (ρ k)) = _; rw [hcc8 _ _ h]
  · refine kk H1 locs1 ?_ h3
    rw [wl_set hlt, ← hcc8 _ _ h, hcf_up] at h1
    exact h1
theorem zst {k n : Nat} {i x : Int32} (B : MB p s m args c cc nL own E) (hP : WP E ρ H) (hS : va_S (hA E) s.heap H locs) (h : hk k = 9) (hl : hlen k = n) (hin : vp_in i n) (hx : vp_nar .boolean x = x) (hd : decode cc pc = .ok (.bastore, 1)) (kk : ∀ (H' : Heap) (locs' : List Loc), WP E (up ρ k i.toNatClampNeg x) H' → va_S (hA E) s.heap H' locs' → W p l e R s m args below meth c H' locs' cells slots Q (F0 m (pc + 1) ls rest)) : W p l e R s m args below meth c H locs cells slots Q (F0 m pc ls (.int x :: .int i :: .ref (E.2.1 + k) :: rest)) := by
  have hlt := hk_lt h (by decide)
  refine va_zast (D := E.1) (cA := E.2.2.1 1) (n := hlen k) (f := ρ k) B.1.1 B.1.2.1 B.2.1 hP (wl_D E _ _) hS k 1 ?_ rfl (by rw [hl]; exact hin) hd (fun H1 locs1 h1 _ h3 => ?_)
  · rw [wl_at hlt]; show some (_, hcc E k (ρ k)) = _; rw [hcc9 _ _ h]
  · refine kk H1 locs1 ?_ h3
    rw [hx, wl_set hlt, ← hcc9 _ _ h, hcf_up] at h1
    exact h1
theorem alen8 {k n : Nat} {v : Int32} (B : MB p s m args c cc nL own E) (hP : WP E ρ H) (h : hk k = 8) (hl : hlen k = n) (hv : Int32.ofNat n = v) (hd : decode cc pc = .ok (.arraylength, 1)) (kk : W p l e R s m args below meth c H locs cells slots Q (F0 m (pc + 1) ls (.int v :: rest))) : W p l e R s m args below meth c H locs cells slots Q (F0 m pc ls (.ref (E.2.1 + k) :: rest)) :=
  va_alen (D := E.1) (x := (hlen k, .inl (ρ k))) B.1.1 B.1.2.1 B.2.1 hP k 0 (by rw [wl_at (hk_lt h (by decide))]; show some (_, hcc E k (ρ k)) = _; rw [hcc8 _ _ h]) (ty := .int) rfl (by show Int32.ofNat (hlen k) = v; rw [hl]; exact hv) hd kk
/-- nets[n], images[i], past[i], links[i] -/
theorem aldN {k : Nat} {i : Int32} (B : MB p s m args c cc nL own E) (hP : WP E ρ H) (h : hk k = 11) (hin : vp_in i 2) (hl : hlen k = 2) (hd : decode cc pc = .ok (.aaload, 1)) (kk : W p l e R s m args below meth c H locs cells slots Q (F0 m (pc + 1) ls (.ref (E.2.1 + (k + 1 + 42 * i.toNatClampNeg)) :: rest))) : W p l e R s m args below meth c H locs cells slots Q (F0 m pc ls (.int i :: .ref (E.2.1 + k) :: rest)) :=
  va_aldq (D := E.1) (C := RX2) (f := fun i => some (E.2.1 + (k + 1 + 42 * i))) B.1.1 B.1.2.1 B.2.1 hP k 3 (by rw [wl_at (hk_lt h (by decide))]; show some (_, hcc E k (ρ k)) = _; rw [hcc11 _ _ h]) rfl (by rw [hl]; exact hin) hd kk
theorem aldW {k n : Nat} {i : Int32} (B : MB p s m args c cc nL own E) (hP : WP E ρ H) (h : hk k = 12) (hl : hlen k = n) (hin : vp_in i n) (hd : decode cc pc = .ok (.aaload, 1)) (kk : W p l e R s m args below meth c H locs cells slots Q (F0 m (pc + 1) ls (.ref (E.2.1 + (hw k + 89 * i.toNatClampNeg)) :: rest))) : W p l e R s m args below meth c H locs cells slots Q (F0 m pc ls (.int i :: .ref (E.2.1 + k) :: rest)) :=
  va_aldq (D := E.1) (C := RX5) (f := fun i => some (E.2.1 + (hw k + 89 * i))) B.1.1 B.1.2.1 B.2.1 hP k 4 (by rw [wl_at (hk_lt h (by decide))]; show some (_, hcc E k (ρ k)) = _; rw [hcc12 _ _ h]) rfl (by rw [hl]; exact hin) hd kk
theorem aldL {k : Nat} {i : Int32} (B : MB p s m args c cc nL own E) (hP : WP E ρ H) (h : hk k = 10) (hl : hlen k = 4) (hin : vp_in i 4) (hd : decode cc pc = .ok (.aaload, 1)) (kk : W p l e R s m args below meth c H locs cells slots Q (F0 m (pc + 1) ls (.ref (E.2.1 + (ρ k i.toNatClampNeg).toNatClampNeg) :: rest))) : W p l e R s m args below meth c H locs cells slots Q (F0 m pc ls (.int i :: .ref (E.2.1 + k) :: rest)) :=
  va_aldq (D := E.1) (C := RX1) (f := fun i => some (E.2.1 + (ρ k i).toNatClampNeg)) B.1.1 B.1.2.1 B.2.1 hP k 2 (by rw [wl_at (hk_lt h (by decide))]; show some (_, hcc E k (ρ k)) = _; rw [hcc10 _ _ h]) rfl (by rw [hl]; exact hin) hd kk
/-- System.arraycopy of ints, whole rows -/
theorem acopy {k0 k1 n idx : Nat} {n32 : Int32} (B : MB p s m args c cc nL own E) (hP : WP E ρ H) (hS : va_S (hA E) s.heap H locs) (h0 : hk k0 = 8) (h1 : hk k1 = 8) (l0 : hlen k0 = n) (l1 : hlen k1 = n) (hn : n32 = nI n) (hn31 : n < 2 ^ 31) (hsz : ls.size = nL) (hw : Cond.methodLink own idx arraycopyName ∈ gw_all) (hwn : Cond.native arraycopyName ∈ gw_all) (hws : Cond.static arraycopyName ∈ gw_all) (hwi : Cond.initialized RJ10 ∈ gw_all) (hfr : 1 ≤ R.frames) (hlo : (rest.map fun v => v.category).sum + (nativeFrameWords "java/lang/System" "arraycopy" 5 + 11) ≤ R.locals) (hd : decode cc pc = .ok (.invokestatic idx, 3))
    (kk : ∀ (H' : Heap) (locs' : List Loc), WP E (upc ρ k1 (va_cpy (ρ k0) (ρ k1) 0 0 n)) H' → va_S (hA E) s.heap H' locs' → W p l e R s m args below meth c H' locs' cells slots Q (F0 m (pc + 3) ls rest)) : W p l e R s m args below meth c H locs cells slots Q (F0 m pc ls (.int n32 :: .int 0 :: .ref (E.2.1 + k1) :: .int 0 :: .ref (E.2.1 + k0) :: rest)) := by
  have hlt0 := hk_lt h0 (by decide)
  have hlt1 := hk_lt h1 (by decide)
  subst hn
  have z0 : (0 : Int32).toNatClampNeg = 0 := rfl
  refine va_copyi (D := E.1) (c0 := E.2.2.1 0) (c1 := E.2.2.1 0) (n0 := hlen k0) (n1 := hlen k1) (f := ρ k0) (g := ρ k1) (ty := .int) B.1.1 B.1.2.1 (by rw [hsz]; exact B.1.2.2.1) B.1.2.2.2.1 (B.1.2.2.2.2 _ hw) (B.1.2.2.2.2 _ hwn) (B.1.2.2.2.2 _ hws) (B.1.2.2.2.2 _ hwi) B.2.1 hP (wl_D E _ _) hS k0 k1 0 0 ?_ ?_ rfl rfl rfl (by decide) (by decide) (nI_pos hn31) ?_ ?_ (fun _ _ => rfl) hfr hlo hd (fun H1 locs1 q1 _ q3 => ?_)
  · rw [wl_at hlt0]; show some (_, hcc E k0 (ρ k0)) = _; rw [hcc8 _ _ h0]
  · rw [wl_at hlt1]; show some (_, hcc E k1 (ρ k1)) = _; rw [hcc8 _ _ h1]
  · rw [z0, nI_clamp hn31, l0]; omega
  · rw [z0, nI_clamp hn31, l1]; omega
  · refine kk H1 locs1 ?_ q3
    rw [wl_set hlt1, z0, nI_clamp hn31, ← hcc8 _ _ h1, hcf_up] at q1
    exact q1
end XR
end
section
theorem up_get_at {ρ : Nat → Nat → Int32} {k j : Nat} {v : Int32} : up ρ k j v k j = v := by simp [up, upd]
theorem up_get_ne {ρ : Nat → Nat → Int32} {k j k' j' : Nat} {v x : Int32} (h : k' ≠ k ∨ j' ≠ j) (hx : ρ k' j' = x) : up ρ k j v k' j' = x := by
  by_cases e : k' = k
  · subst e
    have hj : j' ≠ j := h.resolve_left (fun q => q rfl)
    simp [up, upd, hj]
    exact hx
  · simp [up, e]
    exact hx
theorem sw_split {x : Int32} {lo hi : Int} (_ : lo ≤ hi) : (x.toInt < lo ∨ hi < x.toInt) ∨ (lo ≤ x.toInt ∧ x.toInt ≤ hi) := by omega
theorem sw_step {x : Int32} {n n' hi : Int} (hn : n + 1 = n') (h : n ≤ x.toInt ∧ x.toInt ≤ hi) : x.toInt = n ∨ (n' ≤ x.toInt ∧ x.toInt ≤ hi) := by omega
theorem sw_last {x : Int32} {n : Int} (h : n ≤ x.toInt ∧ x.toInt ≤ n) : x.toInt = n := by omega
theorem nar_b {v : Int32} (h : v = 0 ∨ v = 1) : narrow .boolean (.int v) = .int v := by rcases h with rfl | rfl <;> rfl
theorem fit_b {v : Int32} (h : v = 0 ∨ v = 1) : fits .boolean (.int v) = true := by rcases h with rfl | rfl <;> rfl
theorem narb {v : Int32} (h : v = 0 ∨ v = 1) : vp_nar .boolean v = v := by rcases h with rfl | rfl <;> rfl
theorem ix_of {x L : Int32} {n : Nat} (hL : L.toInt = n) (h0 : ¬ x < 0) (h1 : ¬ L ≤ x) : ∃ j : Nat, j < n ∧ x = nI j := by
  obtain ⟨j, hj, e⟩ := nI_of h0
  refine ⟨j, ?_, e⟩
  have h2 := Int32.lt_iff_toInt_lt.mp (Int32.not_le.mp h1)
  rw [e, nI_toInt hj, hL] at h2
  omega
/-- an int between two bounds -/
def iR (v : Int32) (a b : Int) : Prop := a ≤ v.toInt ∧ v.toInt ≤ b
theorem iR_ix {v : Int32} {n : Nat} {b : Int} (h : iR v 0 b) (hb : b + 1 = n) (hn : n < 2 ^ 31) : ∃ j : Nat, j < n ∧ v = nI j := by
  obtain ⟨j, hj, e⟩ := nI_of (x := v) (fun q => by have := Int32.lt_iff_toInt_lt.mp q; have h0 : (0 : Int32).toInt = 0 := rfl; rw [h0] at this; have := h.1; omega)
  refine ⟨j, ?_, e⟩
  have h2 := h.2
  rw [e, nI_toInt hj] at h2
  omega
/-- an even int, by the machine's remainder -/
def ev (v : Int32) : Prop := v - v / 2 * 2 = 0
def tm (w v : Int32) : Prop := (w.toInt = 0 ∧ iR v 0 1000000) ∨ (w.toInt = 1 ∧ iR v 0 32 ∧ ev v) ∨ (w.toInt = 2 ∧ iR v 1 4)
theorem iR_in {v lo hi : Int32} {a b : Int} (ha : lo.toInt = a) (hb : hi.toInt = b) (h1 : ¬ v < lo) (h2 : ¬ hi < v) : iR v a b := by
  have h1 := Int32.le_iff_toInt_le.mp (Int32.not_lt.mp h1)
  have h2 := Int32.le_iff_toInt_le.mp (Int32.not_lt.mp h2)
  unfold iR
  omega
theorem iR_lo {v lo : Int32} {a b : Int} (ha : lo.toInt = a) (h1 : v < lo) : ¬ iR v a b := by
  have h1 := Int32.lt_iff_toInt_lt.mp h1
  unfold iR
  omega
theorem iR_hi {v hi : Int32} {a b : Int} (hb : hi.toInt = b) (h1 : hi < v) : ¬ iR v a b := by
  have h1 := Int32.lt_iff_toInt_lt.mp h1
  unfold iR
  omega
/-- a long between two bounds -/
def lR (v : Int64) (a b : Int) : Prop := a ≤ v.toInt ∧ v.toInt ≤ b
theorem lR_in {v lo hi : Int64} {a b : Int} (ha : lo.toInt = a) (hb : hi.toInt = b) (h1 : ¬ lg_cmp v lo < 0) (h2 : ¬ 0 < lg_cmp v hi) : lR v a b := by
  rw [lg_cmp_lt] at h1
  rw [lg_cmp_gt] at h2
  have h1 := Int64.le_iff_toInt_le.mp (Int64.not_lt.mp h1)
  have h2 := Int64.le_iff_toInt_le.mp (Int64.not_lt.mp h2)
  unfold lR
  omega
theorem lR_lo {v lo : Int64} {a b : Int} (ha : lo.toInt = a) (h1 : lg_cmp v lo < 0) : ¬ lR v a b := by
  rw [lg_cmp_lt] at h1
  have h1 := Int64.lt_iff_toInt_lt.mp h1
  unfold lR
  omega
theorem lR_hi {v hi : Int64} {a b : Int} (hb : hi.toInt = b) (h1 : 0 < lg_cmp v hi) : ¬ lR v a b := by
  rw [lg_cmp_gt] at h1
  have h1 := Int64.lt_iff_toInt_lt.mp h1
  unfold lR
  omega
theorem lR_i (v : Int32) (a b : Int) : lR v.toInt64 a b ↔ iR v a b := by unfold lR iR; rw [Int32.toInt_toInt64]
section XS
variable {p : Program} {l : Launch} {e : Env} {R : Room} {s : State} {m : MethodId} {args : Array Value} {below : List Frame} {meth : Method} {c : Code} {H : Heap} {locs : List Loc} {cells slots : Nat} {Q : State → Prop} {cc : ByteArray} {nL pc : Nat} {ls : Array Slot} {rest : List Value} {E : hE} {ρ : Nat → Nat → Int32} {own : String}
theorem aldn {k n j : Nat} {i : Int32} (B : MB p s m args c cc nL own E) (hP : WP E ρ H) (h : hk k = 8) (hl : hlen k = n) (hi : i = nI j) (hj : j < n) (h31 : n < 2 ^ 31) (hd : decode cc pc = .ok (.iaload, 1)) (kk : W p l e R s m args below meth c H locs cells slots Q (F0 m (pc + 1) ls (.int (ρ k j) :: rest))) : W p l e R s m args below meth c H locs cells slots Q (F0 m pc ls (.int i :: .ref (E.2.1 + k) :: rest)) := by
  subst hi
  refine ald B hP h hl (vp_in_nI hj h31) hd ?_
  rw [nI_clamp (by omega)]
  exact kk
theorem aldf {k n j : Nat} {i v : Int32} (B : MB p s m args c cc nL own E) (hP : WP E ρ H) (h : hk k = 8) (hl : hlen k = n) (hi : i = nI j) (hj : j < n) (h31 : n < 2 ^ 31) (hf : ρ k j = v) (hd : decode cc pc = .ok (.iaload, 1)) (kk : W p l e R s m args below meth c H locs cells slots Q (F0 m (pc + 1) ls (.int v :: rest))) : W p l e R s m args below meth c H locs cells slots Q (F0 m pc ls (.int i :: .ref (E.2.1 + k) :: rest)) := by
  refine aldn B hP h hl hi hj h31 hd ?_
  rw [hf]
  exact kk
theorem zldn {k n j : Nat} {i : Int32} (B : MB p s m args c cc nL own E) (hP : WP E ρ H) (h : hk k = 9) (hl : hlen k = n) (hi : i = nI j) (hj : j < n) (h31 : n < 2 ^ 31) (hd : decode cc pc = .ok (.baload, 1)) (kk : W p l e R s m args below meth c H locs cells slots Q (F0 m (pc + 1) ls (.int (ρ k j) :: rest))) : W p l e R s m args below meth c H locs cells slots Q (F0 m pc ls (.int i :: .ref (E.2.1 + k) :: rest)) := by
  subst hi
  refine zld B hP h hl (vp_in_nI hj h31) hd ?_
  rw [nI_clamp (by omega)]
  exact kk
theorem zldf {k n j : Nat} {i v : Int32} (B : MB p s m args c cc nL own E) (hP : WP E ρ H) (h : hk k = 9) (hl : hlen k = n) (hi : i = nI j) (hj : j < n) (h31 : n < 2 ^ 31) (hf : ρ k j = v) (hd : decode cc pc = .ok (.baload, 1)) (kk : W p l e R s m args below meth c H locs cells slots Q (F0 m (pc + 1) ls (.int v :: rest))) : W p l e R s m args below meth c H locs cells slots Q (F0 m pc ls (.int i :: .ref (E.2.1 + k) :: rest)) := by
  refine zldn B hP h hl hi hj h31 hd ?_
  rw [hf]
  exact kk
theorem astn {k n j : Nat} {i x : Int32} (B : MB p s m args c cc nL own E) (hP : WP E ρ H) (hS : va_S (hA E) s.heap H locs) (h : hk k = 8) (hl : hlen k = n) (hi : i = nI j) (hj : j < n) (h31 : n < 2 ^ 31) (hd : decode cc pc = .ok (.iastore, 1)) (kk : ∀ (H' : Heap) (locs' : List Loc), WP E (up ρ k j x) H' → va_S (hA E) s.heap H' locs' → W p l e R s m args below meth c H' locs' cells slots Q (F0 m (pc + 1) ls rest)) : W p l e R s m args below meth c H locs cells slots Q (F0 m pc ls (.int x :: .int i :: .ref (E.2.1 + k) :: rest)) := by
  subst hi
  refine ast B hP hS h hl (vp_in_nI hj h31) hd (fun H1 l1 h1 h2 => ?_)
  rw [nI_clamp (by omega)] at h1
  exact kk H1 l1 h1 h2
theorem zstn {k n j : Nat} {i x : Int32} (B : MB p s m args c cc nL own E) (hP : WP E ρ H) (hS : va_S (hA E) s.heap H locs) (h : hk k = 9) (hl : hlen k = n) (hi : i = nI j) (hj : j < n) (h31 : n < 2 ^ 31) (hx : vp_nar .boolean x = x) (hd : decode cc pc = .ok (.bastore, 1)) (kk : ∀ (H' : Heap) (locs' : List Loc), WP E (up ρ k j x) H' → va_S (hA E) s.heap H' locs' → W p l e R s m args below meth c H' locs' cells slots Q (F0 m (pc + 1) ls rest)) : W p l e R s m args below meth c H locs cells slots Q (F0 m pc ls (.int x :: .int i :: .ref (E.2.1 + k) :: rest)) := by
  subst hi
  refine zst B hP hS h hl (vp_in_nI hj h31) hx hd (fun H1 l1 h1 h2 => ?_)
  rw [nI_clamp (by omega)] at h1
  exact kk H1 l1 h1 h2
theorem aldNn {k j : Nat} {i : Int32} (B : MB p s m args c cc nL own E) (hP : WP E ρ H) (h : hk k = 11) (hl : hlen k = 2) (hi : i = nI j) (hj : j < 2) (hd : decode cc pc = .ok (.aaload, 1)) (kk : W p l e R s m args below meth c H locs cells slots Q (F0 m (pc + 1) ls (.ref (E.2.1 + (k + 1 + 42 * j)) :: rest))) : W p l e R s m args below meth c H locs cells slots Q (F0 m pc ls (.int i :: .ref (E.2.1 + k) :: rest)) := by
  subst hi
  refine aldN B hP h (vp_in_nI hj (by omega)) hl hd ?_
  rw [nI_clamp (by omega)]
  exact kk
theorem aldWn {k n j : Nat} {i : Int32} (B : MB p s m args c cc nL own E) (hP : WP E ρ H) (h : hk k = 12) (hl : hlen k = n) (hi : i = nI j) (hj : j < n) (h31 : n < 2 ^ 31) (hd : decode cc pc = .ok (.aaload, 1)) (kk : W p l e R s m args below meth c H locs cells slots Q (F0 m (pc + 1) ls (.ref (E.2.1 + (hw k + 89 * j)) :: rest))) : W p l e R s m args below meth c H locs cells slots Q (F0 m pc ls (.int i :: .ref (E.2.1 + k) :: rest)) := by
  subst hi
  refine aldW B hP h hl (vp_in_nI hj h31) hd ?_
  rw [nI_clamp (by omega)]
  exact kk
end XS
theorem cpy_self {f g : Nat → Int32} {n : Nat} (h : ∀ j, j < n → g j = f j) : ∀ j, va_cpy f g 0 0 n j = g j := by
  intro j
  unfold va_cpy
  by_cases q : 0 ≤ j ∧ j < 0 + n
  · rw [if_pos q, Nat.sub_zero, Nat.zero_add]
    exact (h j (by omega)).symm
  · rw [if_neg q]
/-- a world in which there is no net -/
def FrN (ρ : Nat → Nat → Int32) (x : Nat) : Prop := ρ x 5 = -1 ∧ ρ x 8 = 0 ∧ ρ x 14 = 0 ∧ ρ x 15 = -1 ∧ ρ x 17 = -1 ∧ ρ x 18 = -1 ∧ ρ x 19 = 0 ∧ ρ (x + 1) 1 = 0
def FrW (ρ : Nat → Nat → Int32) (k : Nat) : Prop := FrN ρ (k + 5) ∧ FrN ρ (k + 47)
theorem FrN.keep {ρ ρ' : Nat → Nat → Int32} {x : Nat} (h : FrN ρ x) (h0 : ρ' x = ρ x) (h1 : ρ' (x + 1) = ρ (x + 1)) : FrN ρ' x := by
  unfold FrN at *
  rw [h0, h1]
  exact h
theorem FrW.keep {ρ ρ' : Nat → Nat → Int32} {k : Nat} (h : FrW ρ k) (hq : ∀ k', k' ≠ k → ρ' k' = ρ k') : FrW ρ' k :=
  ⟨h.1.keep (hq _ (by omega)) (hq _ (by omega)), h.2.keep (hq _ (by omega)) (hq _ (by omega))⟩
theorem FrN_r0 {x : Nat} (h : hk x = 2) : FrN r0 x := by
  have h1 := (lay2 h).1
  unfold FrN
  simp [r0, h, h1]
theorem FrW_r0 {k : Nat} (h : hk k = 5) : FrW r0 k := ⟨FrN_r0 (lay5 h).2.2.2.2.2.2.2.2.1, FrN_r0 (lay5 h).2.2.2.2.2.2.2.2.2⟩
theorem r0_kind {k k' : Nat} (h : hk k = hk k') (h10 : hk k ≠ 10) (h1 : k ≠ 1078) (h2 : k' ≠ 1078) : r0 k = r0 k' := by
  funext j
  unfold r0
  rw [← h, if_neg h1, if_neg h2, if_neg h10, if_neg h10]
end
section

theorem tm_out {w v : Int32} (h : w.toInt < 0 ∨ 2 < w.toInt) : ¬ tm w v := by unfold tm; omega
theorem tm_0 {w v : Int32} (h : w.toInt = 0) (q : iR v 0 1000000) : tm w v := Or.inl ⟨h, q⟩
theorem tm_n0 {w v : Int32} (h : w.toInt = 0) (q : ¬ iR v 0 1000000) : ¬ tm w v := by
  rintro (z | z | z)
  · exact q z.2
  · omega
  · omega
theorem tm_1 {w v : Int32} (h : w.toInt = 1) (q : iR v 0 32 ∧ ev v) : tm w v := Or.inr (Or.inl ⟨h, q.1, q.2⟩)
theorem tm_n1 {w v : Int32} (h : w.toInt = 1) (q : ¬ (iR v 0 32 ∧ ev v)) : ¬ tm w v := by
  rintro (z | z | z)
  · omega
  · exact q z.2
  · omega
theorem tm_2 {w v : Int32} (h : w.toInt = 2) (q : iR v 1 4) : tm w v := Or.inr (Or.inr ⟨h, q⟩)
theorem tm_n2 {w v : Int32} (h : w.toInt = 2) (q : ¬ iR v 1 4) : ¬ tm w v := by
  rintro (z | z | z)
  · omega
  · omega
  · exact q z.2
/-- a world's own numbers taken from another -/
def cpw (ρ : Nat → Nat → Int32) (k1 k2 : Nat) : Nat → Nat → Int32 := up (up (up (up (up ρ k1 4 (ρ k2 4)) k1 5 (ρ k2 5)) k1 6 (ρ k2 6)) k1 7 (ρ k2 7)) k1 8 (ρ k2 8)
theorem cpw_ne {ρ : Nat → Nat → Int32} {k1 k2 k : Nat} (h : k ≠ k1) : cpw ρ k1 k2 k = ρ k := by
  unfold cpw
  rw [up_ne _ _ _ h, up_ne _ _ _ h, up_ne _ _ _ h, up_ne _ _ _ h, up_ne _ _ _ h]
theorem cpw_eq {ρ a b c d f : Nat → Nat → Int32} {k1 k2 : Nat} (e1 : a = up ρ k1 4 (ρ k2 4)) (e2 : b = up a k1 5 (ρ k2 5)) (e3 : c = up b k1 6 (ρ k2 6)) (e4 : d = up c k1 7 (ρ k2 7)) (e5 : f = up d k1 8 (ρ k2 8)) : f = cpw ρ k1 k2 := by
  rw [e5, e4, e3, e2, e1]
  rfl
theorem dX6_isWithin_0 : decode cX6_isWithin 0 = .ok (.iload_n 0, 1) := by decide +kernel
theorem dX6_isWithin_1 : decode cX6_isWithin 1 = .ok (.iload_n 1, 1) := by decide +kernel
theorem dX6_isWithin_2 : decode cX6_isWithin 2 = .ok (.if_icmp .lt 12, 3) := by decide +kernel
theorem dX6_isWithin_5 : decode cX6_isWithin 5 = .ok (.iload_n 0, 1) := by decide +kernel
theorem dX6_isWithin_6 : decode cX6_isWithin 6 = .ok (.iload_n 2, 1) := by decide +kernel
theorem dX6_isWithin_7 : decode cX6_isWithin 7 = .ok (.if_icmp .gt 7, 3) := by decide +kernel
theorem dX6_isWithin_10 : decode cX6_isWithin 10 = .ok (.iconst 1, 1) := by decide +kernel
theorem dX6_isWithin_11 : decode cX6_isWithin 11 = .ok (.goto 4, 3) := by decide +kernel
theorem dX6_isWithin_14 : decode cX6_isWithin 14 = .ok (.iconst 0, 1) := by decide +kernel
theorem dX6_isWithin_15 : decode cX6_isWithin 15 = .ok (.ireturn, 1) := by decide +kernel
theorem dX6_isEvenWithin_0 : decode cX6_isEvenWithin 0 = .ok (.iload_n 0, 1) := by decide +kernel
theorem dX6_isEvenWithin_1 : decode cX6_isEvenWithin 1 = .ok (.iload_n 1, 1) := by decide +kernel
theorem dX6_isEvenWithin_2 : decode cX6_isEvenWithin 2 = .ok (.iload_n 2, 1) := by decide +kernel
theorem dX6_isEvenWithin_3 : decode cX6_isEvenWithin 3 = .ok (.invokestatic 54, 3) := by decide +kernel
theorem dX6_isEvenWithin_6 : decode cX6_isEvenWithin 6 = .ok (.ifCond .eq 13, 3) := by decide +kernel
theorem dX6_isEvenWithin_9 : decode cX6_isEvenWithin 9 = .ok (.iload_n 0, 1) := by decide +kernel
theorem dX6_isEvenWithin_10 : decode cX6_isEvenWithin 10 = .ok (.iconst 2, 1) := by decide +kernel
theorem dX6_isEvenWithin_11 : decode cX6_isEvenWithin 11 = .ok (.irem, 1) := by decide +kernel
theorem dX6_isEvenWithin_12 : decode cX6_isEvenWithin 12 = .ok (.ifCond .ne 7, 3) := by decide +kernel
theorem dX6_isEvenWithin_15 : decode cX6_isEvenWithin 15 = .ok (.iconst 1, 1) := by decide +kernel
theorem dX6_isEvenWithin_16 : decode cX6_isEvenWithin 16 = .ok (.goto 4, 3) := by decide +kernel
theorem dX6_isEvenWithin_19 : decode cX6_isEvenWithin 19 = .ok (.iconst 0, 1) := by decide +kernel
theorem dX6_isEvenWithin_20 : decode cX6_isEvenWithin 20 = .ok (.ireturn, 1) := by decide +kernel
theorem dX6_isTerm_0 : decode cX6_isTerm 0 = .ok (.iload_n 0, 1) := by decide +kernel
theorem dX6_isTerm_1 : decode cX6_isTerm 1 = .ok (.tableswitch 51 0 2 #[27, 36, 44], 27) := by decide +kernel
theorem dX6_isTerm_28 : decode cX6_isTerm 28 = .ok (.iload_n 1, 1) := by decide +kernel
theorem dX6_isTerm_29 : decode cX6_isTerm 29 = .ok (.iconst 0, 1) := by decide +kernel
theorem dX6_isTerm_30 : decode cX6_isTerm 30 = .ok (.ldc_w 401, 3) := by decide +kernel
theorem dX6_isTerm_33 : decode cX6_isTerm 33 = .ok (.invokestatic 54, 3) := by decide +kernel
theorem dX6_isTerm_36 : decode cX6_isTerm 36 = .ok (.ireturn, 1) := by decide +kernel
theorem dX6_isTerm_37 : decode cX6_isTerm 37 = .ok (.iload_n 1, 1) := by decide +kernel
theorem dX6_isTerm_38 : decode cX6_isTerm 38 = .ok (.iconst 0, 1) := by decide +kernel
theorem dX6_isTerm_39 : decode cX6_isTerm 39 = .ok (.bipush 32, 2) := by decide +kernel
theorem dX6_isTerm_41 : decode cX6_isTerm 41 = .ok (.invokestatic 156, 3) := by decide +kernel
theorem dX6_isTerm_44 : decode cX6_isTerm 44 = .ok (.ireturn, 1) := by decide +kernel
theorem dX6_isTerm_45 : decode cX6_isTerm 45 = .ok (.iload_n 1, 1) := by decide +kernel
theorem dX6_isTerm_46 : decode cX6_isTerm 46 = .ok (.iconst 1, 1) := by decide +kernel
theorem dX6_isTerm_47 : decode cX6_isTerm 47 = .ok (.iconst 4, 1) := by decide +kernel
theorem dX6_isTerm_48 : decode cX6_isTerm 48 = .ok (.invokestatic 54, 3) := by decide +kernel
theorem dX6_isTerm_51 : decode cX6_isTerm 51 = .ok (.ireturn, 1) := by decide +kernel
theorem dX6_isTerm_52 : decode cX6_isTerm 52 = .ok (.iconst 0, 1) := by decide +kernel
theorem dX6_isTerm_53 : decode cX6_isTerm 53 = .ok (.ireturn, 1) := by decide +kernel
theorem dX6_refuse_0 : decode cX6_refuse 0 = .ok (.aload_n 0, 1) := by decide +kernel
theorem dX6_refuse_1 : decode cX6_refuse 1 = .ok (.iload_n 1, 1) := by decide +kernel
theorem dX6_refuse_2 : decode cX6_refuse 2 = .ok (.putfield 44, 3) := by decide +kernel
theorem dX6_refuse_5 : decode cX6_refuse 5 = .ok (.iload_n 1, 1) := by decide +kernel
theorem dX6_refuse_6 : decode cX6_refuse 6 = .ok (.ineg, 1) := by decide +kernel
theorem dX6_refuse_7 : decode cX6_refuse 7 = .ok (.iconst 1, 1) := by decide +kernel
theorem dX6_refuse_8 : decode cX6_refuse 8 = .ok (.isub, 1) := by decide +kernel
theorem dX6_refuse_9 : decode cX6_refuse 9 = .ok (.istore_n 2, 1) := by decide +kernel
theorem dX6_refuse_10 : decode cX6_refuse 10 = .ok (.iload_n 2, 1) := by decide +kernel
theorem dX6_refuse_11 : decode cX6_refuse 11 = .ok (.ifCond .lt 22, 3) := by decide +kernel
theorem dX6_refuse_14 : decode cX6_refuse 14 = .ok (.iload_n 2, 1) := by decide +kernel
theorem dX6_refuse_15 : decode cX6_refuse 15 = .ok (.aload_n 0, 1) := by decide +kernel
theorem dX6_refuse_16 : decode cX6_refuse 16 = .ok (.getfield 41, 3) := by decide +kernel
theorem dX6_refuse_19 : decode cX6_refuse 19 = .ok (.arraylength, 1) := by decide +kernel
theorem dX6_refuse_20 : decode cX6_refuse 20 = .ok (.if_icmp .ge 13, 3) := by decide +kernel
theorem dX6_refuse_23 : decode cX6_refuse 23 = .ok (.aload_n 0, 1) := by decide +kernel
theorem dX6_refuse_24 : decode cX6_refuse 24 = .ok (.getfield 41, 3) := by decide +kernel
theorem dX6_refuse_27 : decode cX6_refuse 27 = .ok (.iload_n 2, 1) := by decide +kernel
theorem dX6_refuse_28 : decode cX6_refuse 28 = .ok (.dup2, 1) := by decide +kernel
theorem dX6_refuse_29 : decode cX6_refuse 29 = .ok (.iaload, 1) := by decide +kernel
theorem dX6_refuse_30 : decode cX6_refuse 30 = .ok (.iconst 1, 1) := by decide +kernel
theorem dX6_refuse_31 : decode cX6_refuse 31 = .ok (.iadd, 1) := by decide +kernel
theorem dX6_refuse_32 : decode cX6_refuse 32 = .ok (.iastore, 1) := by decide +kernel
theorem dX6_refuse_33 : decode cX6_refuse 33 = .ok (.iload_n 1, 1) := by decide +kernel
theorem dX6_refuse_34 : decode cX6_refuse 34 = .ok (.ireturn, 1) := by decide +kernel
theorem dX6_accept_0 : decode cX6_accept 0 = .ok (.aload_n 0, 1) := by decide +kernel
theorem dX6_accept_1 : decode cX6_accept 1 = .ok (.iconst 0, 1) := by decide +kernel
theorem dX6_accept_2 : decode cX6_accept 2 = .ok (.putfield 44, 3) := by decide +kernel
theorem dX6_accept_5 : decode cX6_accept 5 = .ok (.iload_n 1, 1) := by decide +kernel
theorem dX6_accept_6 : decode cX6_accept 6 = .ok (.ireturn, 1) := by decide +kernel
theorem dX3_copyFrom_0 : decode cX3_copyFrom 0 = .ok (.aload_n 0, 1) := by decide +kernel
theorem dX3_copyFrom_1 : decode cX3_copyFrom 1 = .ok (.aload_n 1, 1) := by decide +kernel
theorem dX3_copyFrom_2 : decode cX3_copyFrom 2 = .ok (.getfield 10, 3) := by decide +kernel
theorem dX3_copyFrom_5 : decode cX3_copyFrom 5 = .ok (.putfield 10, 3) := by decide +kernel
theorem dX3_copyFrom_8 : decode cX3_copyFrom 8 = .ok (.aload_n 0, 1) := by decide +kernel
theorem dX3_copyFrom_9 : decode cX3_copyFrom 9 = .ok (.aload_n 1, 1) := by decide +kernel
theorem dX3_copyFrom_10 : decode cX3_copyFrom 10 = .ok (.getfield 16, 3) := by decide +kernel
theorem dX3_copyFrom_13 : decode cX3_copyFrom 13 = .ok (.putfield 16, 3) := by decide +kernel
theorem dX3_copyFrom_16 : decode cX3_copyFrom 16 = .ok (.aload_n 0, 1) := by decide +kernel
theorem dX3_copyFrom_17 : decode cX3_copyFrom 17 = .ok (.aload_n 1, 1) := by decide +kernel
theorem dX3_copyFrom_18 : decode cX3_copyFrom 18 = .ok (.getfield 19, 3) := by decide +kernel
theorem dX3_copyFrom_21 : decode cX3_copyFrom 21 = .ok (.putfield 19, 3) := by decide +kernel
theorem dX3_copyFrom_24 : decode cX3_copyFrom 24 = .ok (.return_, 1) := by decide +kernel
theorem dX2_copyFrom_0 : decode cX2_copyFrom 0 = .ok (.aload_n 0, 1) := by decide +kernel
theorem dX2_copyFrom_1 : decode cX2_copyFrom 1 = .ok (.getfield 12, 3) := by decide +kernel
theorem dX2_copyFrom_4 : decode cX2_copyFrom 4 = .ok (.aload_n 1, 1) := by decide +kernel
theorem dX2_copyFrom_5 : decode cX2_copyFrom 5 = .ok (.getfield 12, 3) := by decide +kernel
theorem dX2_copyFrom_8 : decode cX2_copyFrom 8 = .ok (.invokevirtual 83, 3) := by decide +kernel
theorem dX2_copyFrom_11 : decode cX2_copyFrom 11 = .ok (.aload_n 1, 1) := by decide +kernel
theorem dX2_copyFrom_12 : decode cX2_copyFrom 12 = .ok (.getfield 18, 3) := by decide +kernel
theorem dX2_copyFrom_15 : decode cX2_copyFrom 15 = .ok (.iconst 0, 1) := by decide +kernel
theorem dX2_copyFrom_16 : decode cX2_copyFrom 16 = .ok (.aload_n 0, 1) := by decide +kernel
theorem dX2_copyFrom_17 : decode cX2_copyFrom 17 = .ok (.getfield 18, 3) := by decide +kernel
theorem dX2_copyFrom_20 : decode cX2_copyFrom 20 = .ok (.iconst 0, 1) := by decide +kernel
theorem dX2_copyFrom_21 : decode cX2_copyFrom 21 = .ok (.iconst 4, 1) := by decide +kernel
theorem dX2_copyFrom_22 : decode cX2_copyFrom 22 = .ok (.invokestatic 87, 3) := by decide +kernel
theorem dX2_copyFrom_25 : decode cX2_copyFrom 25 = .ok (.aload_n 1, 1) := by decide +kernel
theorem dX2_copyFrom_26 : decode cX2_copyFrom 26 = .ok (.getfield 22, 3) := by decide +kernel
theorem dX2_copyFrom_29 : decode cX2_copyFrom 29 = .ok (.iconst 0, 1) := by decide +kernel
theorem dX2_copyFrom_30 : decode cX2_copyFrom 30 = .ok (.aload_n 0, 1) := by decide +kernel
theorem dX2_copyFrom_31 : decode cX2_copyFrom 31 = .ok (.getfield 22, 3) := by decide +kernel
theorem dX2_copyFrom_34 : decode cX2_copyFrom 34 = .ok (.iconst 0, 1) := by decide +kernel
theorem dX2_copyFrom_35 : decode cX2_copyFrom 35 = .ok (.bipush 23, 2) := by decide +kernel
theorem dX2_copyFrom_37 : decode cX2_copyFrom 37 = .ok (.invokestatic 87, 3) := by decide +kernel
theorem dX2_copyFrom_40 : decode cX2_copyFrom 40 = .ok (.aload_n 1, 1) := by decide +kernel
theorem dX2_copyFrom_41 : decode cX2_copyFrom 41 = .ok (.getfield 25, 3) := by decide +kernel
theorem dX2_copyFrom_44 : decode cX2_copyFrom 44 = .ok (.iconst 0, 1) := by decide +kernel
theorem dX2_copyFrom_45 : decode cX2_copyFrom 45 = .ok (.aload_n 0, 1) := by decide +kernel
theorem dX2_copyFrom_46 : decode cX2_copyFrom 46 = .ok (.getfield 25, 3) := by decide +kernel
theorem dX2_copyFrom_49 : decode cX2_copyFrom 49 = .ok (.iconst 0, 1) := by decide +kernel
theorem dX2_copyFrom_50 : decode cX2_copyFrom 50 = .ok (.bipush 23, 2) := by decide +kernel
theorem dX2_copyFrom_52 : decode cX2_copyFrom 52 = .ok (.invokestatic 87, 3) := by decide +kernel
theorem dX2_copyFrom_55 : decode cX2_copyFrom 55 = .ok (.iconst 0, 1) := by decide +kernel
theorem dX2_copyFrom_56 : decode cX2_copyFrom 56 = .ok (.istore_n 2, 1) := by decide +kernel
theorem dX2_copyFrom_57 : decode cX2_copyFrom 57 = .ok (.iload_n 2, 1) := by decide +kernel
theorem dX2_copyFrom_58 : decode cX2_copyFrom 58 = .ok (.aload_n 1, 1) := by decide +kernel
theorem dX2_copyFrom_59 : decode cX2_copyFrom 59 = .ok (.getfield 45, 3) := by decide +kernel
theorem dX2_copyFrom_62 : decode cX2_copyFrom 62 = .ok (.if_icmp .ge 29, 3) := by decide +kernel
theorem dX2_copyFrom_65 : decode cX2_copyFrom 65 = .ok (.iload_n 2, 1) := by decide +kernel
theorem dX2_copyFrom_66 : decode cX2_copyFrom 66 = .ok (.iconst 4, 1) := by decide +kernel
theorem dX2_copyFrom_67 : decode cX2_copyFrom 67 = .ok (.if_icmp .ge 24, 3) := by decide +kernel
theorem dX2_copyFrom_70 : decode cX2_copyFrom 70 = .ok (.aload_n 0, 1) := by decide +kernel
theorem dX2_copyFrom_71 : decode cX2_copyFrom 71 = .ok (.getfield 30, 3) := by decide +kernel
theorem dX2_copyFrom_74 : decode cX2_copyFrom 74 = .ok (.iload_n 2, 1) := by decide +kernel
theorem dX2_copyFrom_75 : decode cX2_copyFrom 75 = .ok (.aaload, 1) := by decide +kernel
theorem dX2_copyFrom_76 : decode cX2_copyFrom 76 = .ok (.aload_n 1, 1) := by decide +kernel
theorem dX2_copyFrom_77 : decode cX2_copyFrom 77 = .ok (.getfield 30, 3) := by decide +kernel
theorem dX2_copyFrom_80 : decode cX2_copyFrom 80 = .ok (.iload_n 2, 1) := by decide +kernel
theorem dX2_copyFrom_81 : decode cX2_copyFrom 81 = .ok (.aaload, 1) := by decide +kernel
theorem dX2_copyFrom_82 : decode cX2_copyFrom 82 = .ok (.invokevirtual 93, 3) := by decide +kernel
theorem dX2_copyFrom_85 : decode cX2_copyFrom 85 = .ok (.iinc 2 1, 3) := by decide +kernel
theorem dX2_copyFrom_88 : decode cX2_copyFrom 88 = .ok (.goto (-31), 3) := by decide +kernel
theorem dX2_copyFrom_91 : decode cX2_copyFrom 91 = .ok (.aload_n 0, 1) := by decide +kernel
theorem dX2_copyFrom_92 : decode cX2_copyFrom 92 = .ok (.aload_n 1, 1) := by decide +kernel
theorem dX2_copyFrom_93 : decode cX2_copyFrom 93 = .ok (.getfield 34, 3) := by decide +kernel
theorem dX2_copyFrom_96 : decode cX2_copyFrom 96 = .ok (.putfield 34, 3) := by decide +kernel
theorem dX2_copyFrom_99 : decode cX2_copyFrom 99 = .ok (.aload_n 0, 1) := by decide +kernel
theorem dX2_copyFrom_100 : decode cX2_copyFrom 100 = .ok (.aload_n 1, 1) := by decide +kernel
theorem dX2_copyFrom_101 : decode cX2_copyFrom 101 = .ok (.getfield 38, 3) := by decide +kernel
theorem dX2_copyFrom_104 : decode cX2_copyFrom 104 = .ok (.putfield 38, 3) := by decide +kernel
theorem dX2_copyFrom_107 : decode cX2_copyFrom 107 = .ok (.aload_n 0, 1) := by decide +kernel
theorem dX2_copyFrom_108 : decode cX2_copyFrom 108 = .ok (.aload_n 1, 1) := by decide +kernel
theorem dX2_copyFrom_109 : decode cX2_copyFrom 109 = .ok (.getfield 42, 3) := by decide +kernel
theorem dX2_copyFrom_112 : decode cX2_copyFrom 112 = .ok (.putfield 42, 3) := by decide +kernel
theorem dX2_copyFrom_115 : decode cX2_copyFrom 115 = .ok (.aload_n 0, 1) := by decide +kernel
theorem dX2_copyFrom_116 : decode cX2_copyFrom 116 = .ok (.aload_n 1, 1) := by decide +kernel
theorem dX2_copyFrom_117 : decode cX2_copyFrom 117 = .ok (.getfield 45, 3) := by decide +kernel
theorem dX2_copyFrom_120 : decode cX2_copyFrom 120 = .ok (.putfield 45, 3) := by decide +kernel
theorem dX2_copyFrom_123 : decode cX2_copyFrom 123 = .ok (.aload_n 0, 1) := by decide +kernel
theorem dX2_copyFrom_124 : decode cX2_copyFrom 124 = .ok (.aload_n 1, 1) := by decide +kernel
theorem dX2_copyFrom_125 : decode cX2_copyFrom 125 = .ok (.getfield 48, 3) := by decide +kernel
theorem dX2_copyFrom_128 : decode cX2_copyFrom 128 = .ok (.putfield 48, 3) := by decide +kernel
theorem dX2_copyFrom_131 : decode cX2_copyFrom 131 = .ok (.aload_n 0, 1) := by decide +kernel
theorem dX2_copyFrom_132 : decode cX2_copyFrom 132 = .ok (.aload_n 1, 1) := by decide +kernel
theorem dX2_copyFrom_133 : decode cX2_copyFrom 133 = .ok (.getfield 51, 3) := by decide +kernel
theorem dX2_copyFrom_136 : decode cX2_copyFrom 136 = .ok (.putfield 51, 3) := by decide +kernel
theorem dX2_copyFrom_139 : decode cX2_copyFrom 139 = .ok (.aload_n 0, 1) := by decide +kernel
theorem dX2_copyFrom_140 : decode cX2_copyFrom 140 = .ok (.aload_n 1, 1) := by decide +kernel
theorem dX2_copyFrom_141 : decode cX2_copyFrom 141 = .ok (.getfield 54, 3) := by decide +kernel
theorem dX2_copyFrom_144 : decode cX2_copyFrom 144 = .ok (.putfield 54, 3) := by decide +kernel
theorem dX2_copyFrom_147 : decode cX2_copyFrom 147 = .ok (.aload_n 0, 1) := by decide +kernel
theorem dX2_copyFrom_148 : decode cX2_copyFrom 148 = .ok (.aload_n 1, 1) := by decide +kernel
theorem dX2_copyFrom_149 : decode cX2_copyFrom 149 = .ok (.getfield 57, 3) := by decide +kernel
theorem dX2_copyFrom_152 : decode cX2_copyFrom 152 = .ok (.putfield 57, 3) := by decide +kernel
theorem dX2_copyFrom_155 : decode cX2_copyFrom 155 = .ok (.aload_n 0, 1) := by decide +kernel
theorem dX2_copyFrom_156 : decode cX2_copyFrom 156 = .ok (.aload_n 1, 1) := by decide +kernel
theorem dX2_copyFrom_157 : decode cX2_copyFrom 157 = .ok (.getfield 60, 3) := by decide +kernel
theorem dX2_copyFrom_160 : decode cX2_copyFrom 160 = .ok (.putfield 60, 3) := by decide +kernel
theorem dX2_copyFrom_163 : decode cX2_copyFrom 163 = .ok (.return_, 1) := by decide +kernel
theorem dX5_copyFrom_0 : decode cX5_copyFrom 0 = .ok (.aload_n 1, 1) := by decide +kernel
theorem dX5_copyFrom_1 : decode cX5_copyFrom 1 = .ok (.getfield 9, 3) := by decide +kernel
theorem dX5_copyFrom_4 : decode cX5_copyFrom 4 = .ok (.iconst 0, 1) := by decide +kernel
theorem dX5_copyFrom_5 : decode cX5_copyFrom 5 = .ok (.aload_n 0, 1) := by decide +kernel
theorem dX5_copyFrom_6 : decode cX5_copyFrom 6 = .ok (.getfield 9, 3) := by decide +kernel
theorem dX5_copyFrom_9 : decode cX5_copyFrom 9 = .ok (.iconst 0, 1) := by decide +kernel
theorem dX5_copyFrom_10 : decode cX5_copyFrom 10 = .ok (.bipush 6, 2) := by decide +kernel
theorem dX5_copyFrom_12 : decode cX5_copyFrom 12 = .ok (.invokestatic 47, 3) := by decide +kernel
theorem dX5_copyFrom_15 : decode cX5_copyFrom 15 = .ok (.aload_n 1, 1) := by decide +kernel
theorem dX5_copyFrom_16 : decode cX5_copyFrom 16 = .ok (.getfield 15, 3) := by decide +kernel
theorem dX5_copyFrom_19 : decode cX5_copyFrom 19 = .ok (.iconst 0, 1) := by decide +kernel
theorem dX5_copyFrom_20 : decode cX5_copyFrom 20 = .ok (.aload_n 0, 1) := by decide +kernel
theorem dX5_copyFrom_21 : decode cX5_copyFrom 21 = .ok (.getfield 15, 3) := by decide +kernel
theorem dX5_copyFrom_24 : decode cX5_copyFrom 24 = .ok (.iconst 0, 1) := by decide +kernel
theorem dX5_copyFrom_25 : decode cX5_copyFrom 25 = .ok (.bipush 23, 2) := by decide +kernel
theorem dX5_copyFrom_27 : decode cX5_copyFrom 27 = .ok (.invokestatic 47, 3) := by decide +kernel
theorem dX5_copyFrom_30 : decode cX5_copyFrom 30 = .ok (.aload_n 1, 1) := by decide +kernel
theorem dX5_copyFrom_31 : decode cX5_copyFrom 31 = .ok (.getfield 18, 3) := by decide +kernel
theorem dX5_copyFrom_34 : decode cX5_copyFrom 34 = .ok (.iconst 0, 1) := by decide +kernel
theorem dX5_copyFrom_35 : decode cX5_copyFrom 35 = .ok (.aload_n 0, 1) := by decide +kernel
theorem dX5_copyFrom_36 : decode cX5_copyFrom 36 = .ok (.getfield 18, 3) := by decide +kernel
theorem dX5_copyFrom_39 : decode cX5_copyFrom 39 = .ok (.iconst 0, 1) := by decide +kernel
theorem dX5_copyFrom_40 : decode cX5_copyFrom 40 = .ok (.bipush 9, 2) := by decide +kernel
theorem dX5_copyFrom_42 : decode cX5_copyFrom 42 = .ok (.invokestatic 47, 3) := by decide +kernel
theorem dX5_copyFrom_45 : decode cX5_copyFrom 45 = .ok (.iconst 0, 1) := by decide +kernel
theorem dX5_copyFrom_46 : decode cX5_copyFrom 46 = .ok (.istore_n 2, 1) := by decide +kernel
theorem dX5_copyFrom_47 : decode cX5_copyFrom 47 = .ok (.iload_n 2, 1) := by decide +kernel
theorem dX5_copyFrom_48 : decode cX5_copyFrom 48 = .ok (.iconst 2, 1) := by decide +kernel
theorem dX5_copyFrom_49 : decode cX5_copyFrom 49 = .ok (.if_icmp .ge 24, 3) := by decide +kernel
theorem dX5_copyFrom_52 : decode cX5_copyFrom 52 = .ok (.aload_n 0, 1) := by decide +kernel
theorem dX5_copyFrom_53 : decode cX5_copyFrom 53 = .ok (.getfield 23, 3) := by decide +kernel
theorem dX5_copyFrom_56 : decode cX5_copyFrom 56 = .ok (.iload_n 2, 1) := by decide +kernel
theorem dX5_copyFrom_57 : decode cX5_copyFrom 57 = .ok (.aaload, 1) := by decide +kernel
theorem dX5_copyFrom_58 : decode cX5_copyFrom 58 = .ok (.aload_n 1, 1) := by decide +kernel
theorem dX5_copyFrom_59 : decode cX5_copyFrom 59 = .ok (.getfield 23, 3) := by decide +kernel
theorem dX5_copyFrom_62 : decode cX5_copyFrom 62 = .ok (.iload_n 2, 1) := by decide +kernel
theorem dX5_copyFrom_63 : decode cX5_copyFrom 63 = .ok (.aaload, 1) := by decide +kernel
theorem dX5_copyFrom_64 : decode cX5_copyFrom 64 = .ok (.invokevirtual 53, 3) := by decide +kernel
theorem dX5_copyFrom_67 : decode cX5_copyFrom 67 = .ok (.iinc 2 1, 3) := by decide +kernel
theorem dX5_copyFrom_70 : decode cX5_copyFrom 70 = .ok (.goto (-23), 3) := by decide +kernel
theorem dX5_copyFrom_73 : decode cX5_copyFrom 73 = .ok (.aload_n 0, 1) := by decide +kernel
theorem dX5_copyFrom_74 : decode cX5_copyFrom 74 = .ok (.aload_n 1, 1) := by decide +kernel
theorem dX5_copyFrom_75 : decode cX5_copyFrom 75 = .ok (.getfield 27, 3) := by decide +kernel
theorem dX5_copyFrom_78 : decode cX5_copyFrom 78 = .ok (.putfield 27, 3) := by decide +kernel
theorem dX5_copyFrom_81 : decode cX5_copyFrom 81 = .ok (.aload_n 0, 1) := by decide +kernel
theorem dX5_copyFrom_82 : decode cX5_copyFrom 82 = .ok (.aload_n 1, 1) := by decide +kernel
theorem dX5_copyFrom_83 : decode cX5_copyFrom 83 = .ok (.getfield 31, 3) := by decide +kernel
theorem dX5_copyFrom_86 : decode cX5_copyFrom 86 = .ok (.putfield 31, 3) := by decide +kernel
theorem dX5_copyFrom_89 : decode cX5_copyFrom 89 = .ok (.aload_n 0, 1) := by decide +kernel
theorem dX5_copyFrom_90 : decode cX5_copyFrom 90 = .ok (.aload_n 1, 1) := by decide +kernel
theorem dX5_copyFrom_91 : decode cX5_copyFrom 91 = .ok (.getfield 34, 3) := by decide +kernel
theorem dX5_copyFrom_94 : decode cX5_copyFrom 94 = .ok (.putfield 34, 3) := by decide +kernel
theorem dX5_copyFrom_97 : decode cX5_copyFrom 97 = .ok (.aload_n 0, 1) := by decide +kernel
theorem dX5_copyFrom_98 : decode cX5_copyFrom 98 = .ok (.aload_n 1, 1) := by decide +kernel
theorem dX5_copyFrom_99 : decode cX5_copyFrom 99 = .ok (.getfield 37, 3) := by decide +kernel
theorem dX5_copyFrom_102 : decode cX5_copyFrom 102 = .ok (.putfield 37, 3) := by decide +kernel
theorem dX5_copyFrom_105 : decode cX5_copyFrom 105 = .ok (.aload_n 0, 1) := by decide +kernel
theorem dX5_copyFrom_106 : decode cX5_copyFrom 106 = .ok (.aload_n 1, 1) := by decide +kernel
theorem dX5_copyFrom_107 : decode cX5_copyFrom 107 = .ok (.getfield 40, 3) := by decide +kernel
theorem dX5_copyFrom_110 : decode cX5_copyFrom 110 = .ok (.putfield 40, 3) := by decide +kernel
theorem dX5_copyFrom_113 : decode cX5_copyFrom 113 = .ok (.return_, 1) := by decide +kernel
set_option maxHeartbeats 4000000 in
set_option maxRecDepth 100000 in
theorem c_isWithin (l : Launch) (E : hE) (ρ : Nat → Nat → Int32) (v lo hi : Int32) (a b : Int) (ha : lo.toInt = a) (hb2 : hi.toInt = b) : Met l yX6_isWithin (.code yX6_isWithin cX6_isWithin 3 (some .boolean) :: gw_all) (rmk 0 0) (cPre E ρ [.int v, .int lo, .int hi]) (cI E (fun r ρ1 => ρ = ρ1 ∧ ((r = 1 ∧ iR v a b) ∨ (r = 0 ∧ ¬ iR v a b)))) 0 0 (hA E) := by
  refine ent (own := RX6) (by decide) rfl (Nat.le_of_ble_eq_true rfl) ?_
  intro p e s m below meth c ls B hr hlk hl hP hS
  have hx := B.1.1
  have hb := B.1.2.1
  have hown := B.1.2.2.2.1
  have hts := B.1.2.2.2.2
  have hl : lv_has ls 3 [(0, .int v), (1, .int lo), (2, .int hi)] := hl
  refine lv_iload_n hx hb dX6_isWithin_0 rfl (lv_at hl 0 rfl) ?_
  refine lv_iload_n hx hb dX6_isWithin_1 rfl (lv_at hl 1 rfl) ?_
  refine lv_icmp_lt (tgt := 14) hx hb dX6_isWithin_2 (by decide) (fun c1 => ?_) (fun c1 => ?_)
  · skip
    refine lv_iconst (v := 0) hx hb dX6_isWithin_14 (by decide) ?_
    exact ret_z B hr hlk hP hS dX6_isWithin_15 (Or.inl rfl) ⟨rfl, Or.inr ⟨rfl, iR_lo ha c1⟩⟩
  · skip
    refine lv_iload_n hx hb dX6_isWithin_5 rfl (lv_at hl 0 rfl) ?_
    refine lv_iload_n hx hb dX6_isWithin_6 rfl (lv_at hl 2 rfl) ?_
    refine lv_icmp_gt (tgt := 14) hx hb dX6_isWithin_7 (by decide) (fun c2 => ?_) (fun c2 => ?_)
    · skip
      refine lv_iconst (v := 0) hx hb dX6_isWithin_14 (by decide) ?_
      exact ret_z B hr hlk hP hS dX6_isWithin_15 (Or.inl rfl) ⟨rfl, Or.inr ⟨rfl, iR_hi hb2 c2⟩⟩
    · skip
      refine lv_iconst (v := 1) hx hb dX6_isWithin_10 (by decide) ?_
      refine lv_goto (tgt := 15) hx hb dX6_isWithin_11 (by decide) ?_
      exact ret_z B hr hlk hP hS dX6_isWithin_15 (Or.inr rfl) ⟨rfl, Or.inl ⟨rfl, iR_in ha hb2 c1 c2⟩⟩

theorem lk_RX6_54 : LkS RX6 54 yX6_isWithin cX6_isWithin 3 (some .boolean) 3 := ⟨⟨mw_455, mw_456, mw_52, mw_457⟩, by decide +kernel⟩
set_option maxHeartbeats 4000000 in
set_option maxRecDepth 100000 in
theorem c_isEvenWithin (l : Launch) (E : hE) (ρ : Nat → Nat → Int32) (v lo hi : Int32) (a b : Int) (ha : lo.toInt = a) (hb2 : hi.toInt = b) : Met l yX6_isEvenWithin (.code yX6_isEvenWithin cX6_isEvenWithin 3 (some .boolean) :: gw_all) (rmk 1 40) (cPre E ρ [.int v, .int lo, .int hi]) (cI E (fun r ρ1 => ρ = ρ1 ∧ ((r = 1 ∧ iR v a b ∧ ev v) ∨ (r = 0 ∧ ¬ (iR v a b ∧ ev v))))) 0 0 (hA E) := by
  refine ent (own := RX6) (by decide) rfl (Nat.le_of_ble_eq_true rfl) ?_
  intro p e s m below meth c ls B hr hlk hl hP hS
  have hx := B.1.1
  have hb := B.1.2.1
  have hown := B.1.2.2.2.1
  have hts := B.1.2.2.2.2
  have hl : lv_has ls 3 [(0, .int v), (1, .int lo), (2, .int hi)] := hl
  refine lv_iload_n hx hb dX6_isEvenWithin_0 rfl (lv_at hl 0 rfl) ?_
  refine lv_iload_n hx hb dX6_isEvenWithin_1 rfl (lv_at hl 1 rfl) ?_
  refine lv_iload_n hx hb dX6_isEvenWithin_2 rfl (lv_at hl 2 rfl) ?_
  refine call_i (cS (av := [.int v, .int lo, .int hi]) (rest := []) B hP hS (c_isWithin l E ρ v lo hi a b ha hb2) lk_RX6_54 rfl rfl hl.1 (Nat.le_of_ble_eq_true rfl) ⟨Nat.le_of_ble_eq_true rfl, Nat.le_of_ble_eq_true rfl⟩ ⟨Nat.le_of_ble_eq_true rfl, Nat.le_of_ble_eq_true rfl⟩ dX6_isEvenWithin_3) hS (fun r1 ρ2 H locs q3 hP hS => ?_)
  obtain ⟨rfl, q3⟩ := q3
  rcases q3 with ⟨rfl, q3⟩ | ⟨rfl, q3⟩
  · skip
    refine lv_if_eq (tgt := 19) hx hb dX6_isEvenWithin_6 (by decide) (fun c4 => absurd c4 (by decide)) (fun _ => ?_)
    refine lv_iload_n hx hb dX6_isEvenWithin_9 rfl (lv_at hl 0 rfl) ?_
    refine lv_iconst (v := 2) hx hb dX6_isEvenWithin_10 (by decide) ?_
    refine lv_irem hx hb dX6_isEvenWithin_11 (by decide) ?_
    refine lv_if_ne (tgt := 19) hx hb dX6_isEvenWithin_12 (by decide) (fun c5 => ?_) (fun c5 => ?_)
    · skip
      refine lv_iconst (v := 0) hx hb dX6_isEvenWithin_19 (by decide) ?_
      exact ret_z B hr hlk hP hS dX6_isEvenWithin_20 (Or.inl rfl) ⟨rfl, Or.inr ⟨rfl, fun z => c5 z.2⟩⟩
    · skip
      refine lv_iconst (v := 1) hx hb dX6_isEvenWithin_15 (by decide) ?_
      refine lv_goto (tgt := 20) hx hb dX6_isEvenWithin_16 (by decide) ?_
      exact ret_z B hr hlk hP hS dX6_isEvenWithin_20 (Or.inr rfl) ⟨rfl, Or.inl ⟨rfl, q3, c5⟩⟩
  · skip
    refine lv_if_eq (tgt := 19) hx hb dX6_isEvenWithin_6 (by decide) (fun _ => ?_) (fun c6 => absurd c6 (by decide))
    refine lv_iconst (v := 0) hx hb dX6_isEvenWithin_19 (by decide) ?_
    exact ret_z B hr hlk hP hS dX6_isEvenWithin_20 (Or.inl rfl) ⟨rfl, Or.inr ⟨rfl, fun z => q3 z.1⟩⟩

theorem lk_RX6_156 : LkS RX6 156 yX6_isEvenWithin cX6_isEvenWithin 3 (some .boolean) 3 := ⟨⟨mw_565, mw_566, mw_52, mw_567⟩, by decide +kernel⟩
set_option maxHeartbeats 4000000 in
set_option maxRecDepth 100000 in
theorem c_isTerm (l : Launch) (E : hE) (ρ : Nat → Nat → Int32) (w v : Int32) : Met l yX6_isTerm (.code yX6_isTerm cX6_isTerm 2 (some .boolean) :: gw_all) (rmk 2 80) (cPre E ρ [.int w, .int v]) (cI E (fun r ρ1 => ρ = ρ1 ∧ ((r = 1 ∧ tm w v) ∨ (r = 0 ∧ ¬ tm w v)))) 0 0 (hA E) := by
  refine ent (own := RX6) (by decide) rfl (Nat.le_of_ble_eq_true rfl) ?_
  intro p e s m below meth c ls B hr hlk hl hP hS
  have hx := B.1.1
  have hb := B.1.2.1
  have hown := B.1.2.2.2.1
  have hts := B.1.2.2.2.2
  have hl : lv_has ls 2 [(0, .int w), (1, .int v)] := hl
  refine lv_iload_n hx hb dX6_isTerm_0 rfl (lv_at hl 0 rfl) ?_
  rcases sw_split (x := w) (lo := 0) (hi := 2) (by decide) with c1 | c1
  · skip
    refine lv_tableOut (tgt := 52) hx hb dX6_isTerm_1 c1 (by decide) ?_
    refine lv_iconst (v := 0) hx hb dX6_isTerm_52 (by decide) ?_
    exact ret_z B hr hlk hP hS dX6_isTerm_53 (Or.inl rfl) ⟨rfl, Or.inr ⟨rfl, tm_out c1⟩⟩
  · skip
    rcases sw_step (x := w) (n := 0) (n' := 1) (by decide) c1 with c1 | c1
    · skip
      refine lv_tableIn (off := 27) (tgt := 28) hx hb dX6_isTerm_1 (by rw [c1]; decide) (by rw [c1]; decide) (by rw [c1]; decide) (by decide) ?_
      refine lv_iload_n hx hb dX6_isTerm_28 rfl (lv_at hl 1 rfl) ?_
      refine lv_iconst (v := 0) hx hb dX6_isTerm_29 (by decide) ?_
      refine lv_ldcw (v := 1000000) hx hb hown (hts _ mw_564) dX6_isTerm_30 ?_
      refine call_i (cS (av := [.int v, .int 0, .int 1000000]) (rest := []) B hP hS (c_isWithin l E ρ v 0 1000000 0 1000000 (by decide) (by decide)) lk_RX6_54 rfl rfl hl.1 (Nat.le_of_ble_eq_true rfl) ⟨Nat.le_of_ble_eq_true rfl, Nat.le_of_ble_eq_true rfl⟩ ⟨Nat.le_of_ble_eq_true rfl, Nat.le_of_ble_eq_true rfl⟩ dX6_isTerm_33) hS (fun r2 ρ3 H locs q4 hP hS => ?_)
      obtain ⟨rfl, q4⟩ := q4
      rcases q4 with ⟨rfl, q4⟩ | ⟨rfl, q4⟩
      · skip
        exact ret_z B hr hlk hP hS dX6_isTerm_36 (Or.inr rfl) ⟨rfl, Or.inl ⟨rfl, tm_0 c1 q4⟩⟩
      · skip
        exact ret_z B hr hlk hP hS dX6_isTerm_36 (Or.inl rfl) ⟨rfl, Or.inr ⟨rfl, tm_n0 c1 q4⟩⟩
    · skip
      rcases sw_step (x := w) (n := 1) (n' := 2) (by decide) c1 with c1 | c1
      · skip
        refine lv_tableIn (off := 36) (tgt := 37) hx hb dX6_isTerm_1 (by rw [c1]; decide) (by rw [c1]; decide) (by rw [c1]; decide) (by decide) ?_
        refine lv_iload_n hx hb dX6_isTerm_37 rfl (lv_at hl 1 rfl) ?_
        refine lv_iconst (v := 0) hx hb dX6_isTerm_38 (by decide) ?_
        refine lv_bipush (v := 32) hx hb dX6_isTerm_39 (by decide) ?_
        refine call_i (cS (av := [.int v, .int 0, .int 32]) (rest := []) B hP hS (c_isEvenWithin l E ρ v 0 32 0 32 (by decide) (by decide)) lk_RX6_156 rfl rfl hl.1 (Nat.le_of_ble_eq_true rfl) ⟨Nat.le_of_ble_eq_true rfl, Nat.le_of_ble_eq_true rfl⟩ ⟨Nat.le_of_ble_eq_true rfl, Nat.le_of_ble_eq_true rfl⟩ dX6_isTerm_41) hS (fun r5 ρ6 H locs q7 hP hS => ?_)
        obtain ⟨rfl, q7⟩ := q7
        rcases q7 with ⟨rfl, q7⟩ | ⟨rfl, q7⟩
        · skip
          exact ret_z B hr hlk hP hS dX6_isTerm_44 (Or.inr rfl) ⟨rfl, Or.inl ⟨rfl, tm_1 c1 q7⟩⟩
        · skip
          exact ret_z B hr hlk hP hS dX6_isTerm_44 (Or.inl rfl) ⟨rfl, Or.inr ⟨rfl, tm_n1 c1 q7⟩⟩
      · skip
        have c1 := sw_last (n := 2) c1
        refine lv_tableIn (off := 44) (tgt := 45) hx hb dX6_isTerm_1 (by rw [c1]; decide) (by rw [c1]; decide) (by rw [c1]; decide) (by decide) ?_
        refine lv_iload_n hx hb dX6_isTerm_45 rfl (lv_at hl 1 rfl) ?_
        refine lv_iconst (v := 1) hx hb dX6_isTerm_46 (by decide) ?_
        refine lv_iconst (v := 4) hx hb dX6_isTerm_47 (by decide) ?_
        refine call_i (cS (av := [.int v, .int 1, .int 4]) (rest := []) B hP hS (c_isWithin l E ρ v 1 4 1 4 (by decide) (by decide)) lk_RX6_54 rfl rfl hl.1 (Nat.le_of_ble_eq_true rfl) ⟨Nat.le_of_ble_eq_true rfl, Nat.le_of_ble_eq_true rfl⟩ ⟨Nat.le_of_ble_eq_true rfl, Nat.le_of_ble_eq_true rfl⟩ dX6_isTerm_48) hS (fun r8 ρ9 H locs q10 hP hS => ?_)
        obtain ⟨rfl, q10⟩ := q10
        rcases q10 with ⟨rfl, q10⟩ | ⟨rfl, q10⟩
        · skip
          exact ret_z B hr hlk hP hS dX6_isTerm_51 (Or.inr rfl) ⟨rfl, Or.inl ⟨rfl, tm_2 c1 q10⟩⟩
        · skip
          exact ret_z B hr hlk hP hS dX6_isTerm_51 (Or.inl rfl) ⟨rfl, Or.inr ⟨rfl, tm_n2 c1 q10⟩⟩

set_option maxHeartbeats 4000000 in
set_option maxRecDepth 100000 in
theorem c_refuse (l : Launch) (E : hE) (ρ : Nat → Nat → Int32) (w : Int32) : Met l yX6_refuse (.code yX6_refuse cX6_refuse 3 (some .int) :: gw_all) (rmk 0 0) (cPre E ρ [.ref (E.2.1 + 0), .int w]) (cI E (fun r ρ1 => w = r)) 0 0 (hA E) := by
  refine ent (own := RX6) (by decide) rfl (Nat.le_of_ble_eq_true rfl) ?_
  intro p e s m below meth c ls B hr hlk hl hP hS
  have hx := B.1.1
  have hb := B.1.2.1
  have hown := B.1.2.2.2.1
  have hts := B.1.2.2.2.2
  have hl : lv_has ls 3 [(0, .ref (E.2.1 + 0)), (1, .int w)] := hl
  refine lv_aload_n hx hb dX6_refuse_0 rfl (lv_at hl 0 rfl) ?_
  refine lv_iload_n hx hb dX6_refuse_1 rfl (lv_at hl 1 rfl) ?_
  refine put6 B hP hS (by decide +kernel) 9 (by decide) mw_421 rfl rfl rfl (fs6_9 E 0 _ _) dX6_refuse_2 (fun H locs hP hS => ?_)
  obtain ⟨ρ1, e2⟩ : ∃ z, z = up ρ 0 9 w := ⟨_, rfl⟩
  rw [← e2] at hP
  refine lv_iload_n hx hb dX6_refuse_5 rfl (lv_at hl 1 rfl) ?_
  refine lv_ineg hx hb dX6_refuse_6 ?_
  refine lv_iconst (v := 1) hx hb dX6_refuse_7 (by decide) ?_
  refine lv_isub hx hb dX6_refuse_8 ?_
  refine lv_istore_n (lv' := [(2, .int ((-w) - 1)), (0, .ref (E.2.1 + 0)), (1, .int w)]) hx hb dX6_refuse_9 rfl hl (by decide) rfl (fun ls hl => ?_)
  refine lv_iload_n hx hb dX6_refuse_10 rfl (lv_at hl 0 rfl) ?_
  refine lv_if_lt (tgt := 33) hx hb dX6_refuse_11 (by decide) (fun c3 => ?_) (fun c3 => ?_)
  · skip
    refine lv_iload_n hx hb dX6_refuse_33 rfl (lv_at hl 2 rfl) ?_
    exact ret_i B hr hlk hP hS dX6_refuse_34 rfl
  · skip
    refine lv_iload_n hx hb dX6_refuse_14 rfl (lv_at hl 0 rfl) ?_
    refine lv_aload_n hx hb dX6_refuse_15 rfl (lv_at hl 1 rfl) ?_
    refine get6 B hP (by decide +kernel) 8 (by decide) mw_420 rfl dX6_refuse_16 ?_
    refine alen8 (n := 5) B hP (by decide +kernel) (by decide +kernel) (v := 5) (by decide) dX6_refuse_19 ?_
    refine lv_icmp_ge (tgt := 33) hx hb dX6_refuse_20 (by decide) (fun c4 => ?_) (fun c4 => ?_)
    · skip
      refine lv_iload_n hx hb dX6_refuse_33 rfl (lv_at hl 2 rfl) ?_
      exact ret_i B hr hlk hP hS dX6_refuse_34 rfl
    · skip
      refine lv_aload_n hx hb dX6_refuse_23 rfl (lv_at hl 1 rfl) ?_
      refine get6 B hP (by decide +kernel) 8 (by decide) mw_420 rfl dX6_refuse_24 ?_
      refine lv_iload_n hx hb dX6_refuse_27 rfl (lv_at hl 0 rfl) ?_
      refine lv_dup2_11 hx hb dX6_refuse_28 rfl rfl ?_
      obtain ⟨j5, hj5, ej5⟩ := ix_of (L := 5) (n := 5) rfl c3 c4
      refine aldn (n := 5) B hP (by decide +kernel) (by decide +kernel) ej5 hj5 (by decide) dX6_refuse_29 ?_
      refine lv_iconst (v := 1) hx hb dX6_refuse_30 (by decide) ?_
      refine lv_iadd hx hb dX6_refuse_31 ?_
      refine astn (n := 5) B hP hS (by decide +kernel) (by decide +kernel) ej5 hj5 (by decide) dX6_refuse_32 (fun H locs hP hS => ?_)
      obtain ⟨ρ7, e8⟩ : ∃ z, z = up ρ1 183 j5 ((ρ1 183 j5) + 1) := ⟨_, rfl⟩
      rw [← e8] at hP
      refine lv_iload_n hx hb dX6_refuse_33 rfl (lv_at hl 2 rfl) ?_
      exact ret_i B hr hlk hP hS dX6_refuse_34 rfl

set_option maxHeartbeats 4000000 in
set_option maxRecDepth 100000 in
theorem c_accept (l : Launch) (E : hE) (ρ : Nat → Nat → Int32) (w : Int32) : Met l yX6_accept (.code yX6_accept cX6_accept 2 (some .int) :: gw_all) (rmk 0 0) (cPre E ρ [.ref (E.2.1 + 0), .int w]) (cI E (fun r ρ1 => w = r)) 0 0 (hA E) := by
  refine ent (own := RX6) (by decide) rfl (Nat.le_of_ble_eq_true rfl) ?_
  intro p e s m below meth c ls B hr hlk hl hP hS
  have hx := B.1.1
  have hb := B.1.2.1
  have hown := B.1.2.2.2.1
  have hts := B.1.2.2.2.2
  have hl : lv_has ls 2 [(0, .ref (E.2.1 + 0)), (1, .int w)] := hl
  refine lv_aload_n hx hb dX6_accept_0 rfl (lv_at hl 0 rfl) ?_
  refine lv_iconst (v := 0) hx hb dX6_accept_1 (by decide) ?_
  refine put6 B hP hS (by decide +kernel) 9 (by decide) mw_421 rfl rfl rfl (fs6_9 E 0 _ _) dX6_accept_2 (fun H locs hP hS => ?_)
  obtain ⟨ρ1, e2⟩ : ∃ z, z = up ρ 0 9 0 := ⟨_, rfl⟩
  rw [← e2] at hP
  refine lv_iload_n hx hb dX6_accept_5 rfl (lv_at hl 1 rfl) ?_
  exact ret_i B hr hlk hP hS dX6_accept_6 rfl

set_option maxHeartbeats 4000000 in
set_option maxRecDepth 100000 in
theorem c_Plan_copyFrom (l : Launch) (E : hE) (ρ : Nat → Nat → Int32) (k1 k2 : Nat) (h1 : hk k1 = 3) (h2 : hk k2 = 3) (ha : ∀ j, ρ k1 j = ρ k2 j) : Met l yX3_copyFrom (.code yX3_copyFrom cX3_copyFrom 2 none :: gw_all) (rmk 0 0) (cPre E ρ [.ref (E.2.1 + k1), .ref (E.2.1 + k2)]) (cV E (fun ρ1 => ρ = ρ1)) 0 0 (hA E) := by
  refine ent (own := RX3) (by decide) rfl (Nat.le_of_ble_eq_true rfl) ?_
  intro p e s m below meth c ls B hr hlk hl hP hS
  have hx := B.1.1
  have hb := B.1.2.1
  have hown := B.1.2.2.2.1
  have hts := B.1.2.2.2.2
  have hl : lv_has ls 2 [(0, .ref (E.2.1 + k1)), (1, .ref (E.2.1 + k2))] := hl
  refine lv_aload_n hx hb dX3_copyFrom_0 rfl (lv_at hl 0 rfl) ?_
  refine lv_aload_n hx hb dX3_copyFrom_1 rfl (lv_at hl 1 rfl) ?_
  refine get3 B hP h2 0 (by decide) mw_91 rfl dX3_copyFrom_2 ?_
  refine put3 B hP hS h1 0 (by decide) mw_91 rfl rfl rfl (fs3_0 E k1 _ _) dX3_copyFrom_5 (fun H locs hP hS => ?_)
  rw [up_self ρ (ha 0)] at hP
  refine lv_aload_n hx hb dX3_copyFrom_8 rfl (lv_at hl 0 rfl) ?_
  refine lv_aload_n hx hb dX3_copyFrom_9 rfl (lv_at hl 1 rfl) ?_
  refine get3 B hP h2 1 (by decide) mw_96 rfl dX3_copyFrom_10 ?_
  refine put3 B hP hS h1 1 (by decide) mw_96 rfl rfl rfl (fs3_1 E k1 _ _) dX3_copyFrom_13 (fun H locs hP hS => ?_)
  rw [up_self ρ (ha 1)] at hP
  refine lv_aload_n hx hb dX3_copyFrom_16 rfl (lv_at hl 0 rfl) ?_
  refine lv_aload_n hx hb dX3_copyFrom_17 rfl (lv_at hl 1 rfl) ?_
  refine get3 B hP h2 2 (by decide) mw_99 rfl dX3_copyFrom_18 ?_
  refine put3 B hP hS h1 2 (by decide) mw_99 rfl rfl rfl (fs3_2 E k1 _ _) dX3_copyFrom_21 (fun H locs hP hS => ?_)
  rw [up_self ρ (ha 2)] at hP
  exact ret_v B hr hlk hP hS dX3_copyFrom_24 rfl

theorem lk_RX2_83 : LkV RX2 83 RX3 yX3_copyFrom cX3_copyFrom 2 none 1 := ⟨⟨mw_477, mw_478, mw_479, mw_55, mw_480⟩, by decide +kernel⟩
set_option maxHeartbeats 4000000 in
set_option maxRecDepth 100000 in
theorem c_Net_copyFrom (l : Launch) (E : hE) (ρ : Nat → Nat → Int32) (k1 k2 : Nat) (h1 : hk k1 = 2) (h2 : hk k2 = 2) (ha : ∀ r, r < 5 → ∀ j, ρ (k1 + r) j = ρ (k2 + r) j) (hz : ρ k2 8 = 0) : Met l yX2_copyFrom (.code yX2_copyFrom cX2_copyFrom 3 none :: gw_all) (rmk 1 40) (cPre E ρ [.ref (E.2.1 + k1), .ref (E.2.1 + k2)]) (cV E (fun ρ1 => ρ = ρ1)) 0 0 (hA E) := by
  refine ent (own := RX2) (by decide) rfl (Nat.le_of_ble_eq_true rfl) ?_
  intro p e s m below meth c ls B hr hlk hl hP hS
  have hx := B.1.1
  have hb := B.1.2.1
  have hown := B.1.2.2.2.1
  have hts := B.1.2.2.2.2
  have hl : lv_has ls 3 [(0, .ref (E.2.1 + k1)), (1, .ref (E.2.1 + k2))] := hl
  refine lv_aload_n hx hb dX2_copyFrom_0 rfl (lv_at hl 0 rfl) ?_
  refine get2 B hP h1 0 (by decide) mw_282 rfl dX2_copyFrom_1 ?_
  refine lv_aload_n hx hb dX2_copyFrom_4 rfl (lv_at hl 1 rfl) ?_
  refine get2 B hP h2 0 (by decide) mw_282 rfl dX2_copyFrom_5 ?_
  refine call_v (cVt (k := (k1 + 1)) (av := [.ref (E.2.1 + (k2 + 1))]) (rest := []) B hP hS (c_Plan_copyFrom l E ρ (k1 + 1) (k2 + 1) (lay2 h1).1 (lay2 h2).1 (ha 1 (by decide))) lk_RX2_83 (hrecv (ci := 3) B hP (hk_lt (lay2 h1).1 (by decide)) (hcc3 _ _ (lay2 h1).1) rfl) rfl rfl hl.1 (Nat.le_of_ble_eq_true rfl) ⟨Nat.le_of_ble_eq_true rfl, Nat.le_of_ble_eq_true rfl⟩ ⟨Nat.le_of_ble_eq_true rfl, Nat.le_of_ble_eq_true rfl⟩ dX2_copyFrom_8) hS (fun ρ2 H locs q3 hP hS => ?_)
  obtain rfl := q3
  refine lv_aload_n hx hb dX2_copyFrom_11 rfl (lv_at hl 1 rfl) ?_
  refine get2 B hP h2 1 (by decide) mw_285 rfl dX2_copyFrom_12 ?_
  refine lv_iconst (v := 0) hx hb dX2_copyFrom_15 (by decide) ?_
  refine lv_aload_n hx hb dX2_copyFrom_16 rfl (lv_at hl 0 rfl) ?_
  refine get2 B hP h1 1 (by decide) mw_285 rfl dX2_copyFrom_17 ?_
  refine lv_iconst (v := 0) hx hb dX2_copyFrom_20 (by decide) ?_
  refine lv_iconst (v := 4) hx hb dX2_copyFrom_21 (by decide) ?_
  refine acopy (n := 4) B hP hS (lay2 h2).2.1 (lay2 h1).2.1 (lay2 h2).2.2.1 (lay2 h1).2.2.1 rfl (by decide) hl.1 mw_481 mw_472 mw_471 mw_60 (Nat.le_of_ble_eq_true rfl) (Nat.le_of_ble_eq_true rfl) dX2_copyFrom_22 (fun H locs hP hS => ?_)
  rw [upc_self ρ (cpy_self (fun j _ => ha 2 (by decide) j))] at hP
  refine lv_aload_n hx hb dX2_copyFrom_25 rfl (lv_at hl 1 rfl) ?_
  refine get2 B hP h2 2 (by decide) mw_287 rfl dX2_copyFrom_26 ?_
  refine lv_iconst (v := 0) hx hb dX2_copyFrom_29 (by decide) ?_
  refine lv_aload_n hx hb dX2_copyFrom_30 rfl (lv_at hl 0 rfl) ?_
  refine get2 B hP h1 2 (by decide) mw_287 rfl dX2_copyFrom_31 ?_
  refine lv_iconst (v := 0) hx hb dX2_copyFrom_34 (by decide) ?_
  refine lv_bipush (v := 23) hx hb dX2_copyFrom_35 (by decide) ?_
  refine acopy (n := 23) B hP hS (lay2 h2).2.2.2.1 (lay2 h1).2.2.2.1 (lay2 h2).2.2.2.2.1 (lay2 h1).2.2.2.2.1 rfl (by decide) hl.1 mw_481 mw_472 mw_471 mw_60 (Nat.le_of_ble_eq_true rfl) (Nat.le_of_ble_eq_true rfl) dX2_copyFrom_37 (fun H locs hP hS => ?_)
  rw [upc_self ρ (cpy_self (fun j _ => ha 3 (by decide) j))] at hP
  refine lv_aload_n hx hb dX2_copyFrom_40 rfl (lv_at hl 1 rfl) ?_
  refine get2 B hP h2 3 (by decide) mw_289 rfl dX2_copyFrom_41 ?_
  refine lv_iconst (v := 0) hx hb dX2_copyFrom_44 (by decide) ?_
  refine lv_aload_n hx hb dX2_copyFrom_45 rfl (lv_at hl 0 rfl) ?_
  refine get2 B hP h1 3 (by decide) mw_289 rfl dX2_copyFrom_46 ?_
  refine lv_iconst (v := 0) hx hb dX2_copyFrom_49 (by decide) ?_
  refine lv_bipush (v := 23) hx hb dX2_copyFrom_50 (by decide) ?_
  refine acopy (n := 23) B hP hS (lay2 h2).2.2.2.2.2.1 (lay2 h1).2.2.2.2.2.1 (lay2 h2).2.2.2.2.2.2.1 (lay2 h1).2.2.2.2.2.2.1 rfl (by decide) hl.1 mw_481 mw_472 mw_471 mw_60 (Nat.le_of_ble_eq_true rfl) (Nat.le_of_ble_eq_true rfl) dX2_copyFrom_52 (fun H locs hP hS => ?_)
  rw [upc_self ρ (cpy_self (fun j _ => ha 4 (by decide) j))] at hP
  refine lv_iconst (v := 0) hx hb dX2_copyFrom_55 (by decide) ?_
  refine lv_istore_n (lv' := [(2, .int 0), (0, .ref (E.2.1 + k1)), (1, .ref (E.2.1 + k2))]) hx hb dX2_copyFrom_56 rfl hl (by decide) rfl (fun ls hl => ?_)
  refine lv_iload_n hx hb dX2_copyFrom_57 rfl (lv_at hl 0 rfl) ?_
  refine lv_aload_n hx hb dX2_copyFrom_58 rfl (lv_at hl 2 rfl) ?_
  refine get2 B hP h2 8 (by decide) mw_303 (v := .int 0) (show some (Value.int (ρ k2 8)) = some (Value.int 0) from congrArg (fun z => some (Value.int z)) hz) dX2_copyFrom_59 ?_
  refine lv_icmp_ge (tgt := 91) hx hb dX2_copyFrom_62 (by decide) (fun _ => ?_) (fun c4 => absurd c4 (by decide))
  refine lv_aload_n hx hb dX2_copyFrom_91 rfl (lv_at hl 1 rfl) ?_
  refine lv_aload_n hx hb dX2_copyFrom_92 rfl (lv_at hl 2 rfl) ?_
  refine get2 B hP h2 5 (by decide) mw_294 rfl dX2_copyFrom_93 ?_
  refine put2 B hP hS h1 5 (by decide) mw_294 rfl rfl rfl (fs2_5 E k1 _ _) dX2_copyFrom_96 (fun H locs hP hS => ?_)
  rw [up_self ρ (show ρ k1 5 = ρ k2 5 from ha 0 (by decide) 5)] at hP
  refine lv_aload_n hx hb dX2_copyFrom_99 rfl (lv_at hl 1 rfl) ?_
  refine lv_aload_n hx hb dX2_copyFrom_100 rfl (lv_at hl 2 rfl) ?_
  refine get2 B hP h2 6 (by decide) mw_297 rfl dX2_copyFrom_101 ?_
  refine put2 B hP hS h1 6 (by decide) mw_297 rfl rfl rfl (fs2_6 E k1 _ _) dX2_copyFrom_104 (fun H locs hP hS => ?_)
  rw [up_self ρ (show ρ k1 6 = ρ k2 6 from ha 0 (by decide) 6)] at hP
  refine lv_aload_n hx hb dX2_copyFrom_107 rfl (lv_at hl 1 rfl) ?_
  refine lv_aload_n hx hb dX2_copyFrom_108 rfl (lv_at hl 2 rfl) ?_
  refine get2 B hP h2 7 (by decide) mw_300 rfl dX2_copyFrom_109 ?_
  refine put2 B hP hS h1 7 (by decide) mw_300 rfl rfl rfl (fs2_7 E k1 _ _) dX2_copyFrom_112 (fun H locs hP hS => ?_)
  rw [up_self ρ (show ρ k1 7 = ρ k2 7 from ha 0 (by decide) 7)] at hP
  refine lv_aload_n hx hb dX2_copyFrom_115 rfl (lv_at hl 1 rfl) ?_
  refine lv_aload_n hx hb dX2_copyFrom_116 rfl (lv_at hl 2 rfl) ?_
  refine get2 B hP h2 8 (by decide) mw_303 (v := .int 0) (show some (Value.int (ρ k2 8)) = some (Value.int 0) from congrArg (fun z => some (Value.int z)) hz) dX2_copyFrom_117 ?_
  refine put2 B hP hS h1 8 (by decide) mw_303 rfl rfl rfl (fs2_8 E k1 _ _) dX2_copyFrom_120 (fun H locs hP hS => ?_)
  rw [up_self ρ (show ρ k1 8 = 0 from (ha 0 (by decide) 8).trans hz)] at hP
  refine lv_aload_n hx hb dX2_copyFrom_123 rfl (lv_at hl 1 rfl) ?_
  refine lv_aload_n hx hb dX2_copyFrom_124 rfl (lv_at hl 2 rfl) ?_
  refine get2 B hP h2 9 (by decide) mw_306 rfl dX2_copyFrom_125 ?_
  refine put2 B hP hS h1 9 (by decide) mw_306 rfl rfl rfl (fs2_9 E k1 _ _) dX2_copyFrom_128 (fun H locs hP hS => ?_)
  rw [up_self ρ (show ρ k1 9 = ρ k2 9 from ha 0 (by decide) 9)] at hP
  refine lv_aload_n hx hb dX2_copyFrom_131 rfl (lv_at hl 1 rfl) ?_
  refine lv_aload_n hx hb dX2_copyFrom_132 rfl (lv_at hl 2 rfl) ?_
  refine get2 B hP h2 10 (by decide) mw_308 rfl dX2_copyFrom_133 ?_
  refine put2 B hP hS h1 10 (by decide) mw_308 rfl rfl rfl (fs2_10 E k1 _ _) dX2_copyFrom_136 (fun H locs hP hS => ?_)
  rw [up_self ρ (show ρ k1 10 = ρ k2 10 from ha 0 (by decide) 10)] at hP
  refine lv_aload_n hx hb dX2_copyFrom_139 rfl (lv_at hl 1 rfl) ?_
  refine lv_aload_n hx hb dX2_copyFrom_140 rfl (lv_at hl 2 rfl) ?_
  refine get2 B hP h2 11 (by decide) mw_309 rfl dX2_copyFrom_141 ?_
  refine put2 B hP hS h1 11 (by decide) mw_309 rfl rfl rfl (fs2_11 E k1 _ _) dX2_copyFrom_144 (fun H locs hP hS => ?_)
  rw [up_self ρ (show ρ k1 11 = ρ k2 11 from ha 0 (by decide) 11)] at hP
  refine lv_aload_n hx hb dX2_copyFrom_147 rfl (lv_at hl 1 rfl) ?_
  refine lv_aload_n hx hb dX2_copyFrom_148 rfl (lv_at hl 2 rfl) ?_
  refine get2 B hP h2 12 (by decide) mw_312 rfl dX2_copyFrom_149 ?_
  refine put2 B hP hS h1 12 (by decide) mw_312 rfl rfl rfl (fs2_12 E k1 _ _) dX2_copyFrom_152 (fun H locs hP hS => ?_)
  rw [up_self ρ (show ρ k1 12 = ρ k2 12 from ha 0 (by decide) 12)] at hP
  refine lv_aload_n hx hb dX2_copyFrom_155 rfl (lv_at hl 1 rfl) ?_
  refine lv_aload_n hx hb dX2_copyFrom_156 rfl (lv_at hl 2 rfl) ?_
  refine get2 B hP h2 13 (by decide) mw_314 rfl dX2_copyFrom_157 ?_
  refine put2 B hP hS h1 13 (by decide) mw_314 rfl rfl rfl (fs2_13 E k1 _ _) dX2_copyFrom_160 (fun H locs hP hS => ?_)
  rw [up_self ρ (show ρ k1 13 = ρ k2 13 from ha 0 (by decide) 13)] at hP
  exact ret_v B hr hlk hP hS dX2_copyFrom_163 rfl

theorem lk_RX5_53 : LkV RX5 53 RX2 yX2_copyFrom cX2_copyFrom 3 none 1 := ⟨⟨mw_473, mw_474, mw_475, mw_54, mw_476⟩, by decide +kernel⟩
set_option maxHeartbeats 4000000 in
set_option maxRecDepth 100000 in
theorem c_World_copyFrom (l : Launch) (E : hE) (ρ : Nat → Nat → Int32) (k1 k2 : Nat) (h1 : hk k1 = 5) (h2 : hk k2 = 5) (hne : k2 ≠ k1) (ha : ∀ r, 0 < r → r < 52 → r ≠ 10 → ∀ j, ρ (k1 + r) j = ρ (k2 + r) j) (hz : ρ (k2 + 5) 8 = 0 ∧ ρ (k2 + 47) 8 = 0) : Met l yX5_copyFrom (.code yX5_copyFrom cX5_copyFrom 3 none :: gw_all) (rmk 2 80) (cPre E ρ [.ref (E.2.1 + k1), .ref (E.2.1 + k2)]) (cV E (fun ρ1 => ρ1 = cpw ρ k1 k2)) 0 0 (hA E) := by
  refine ent (own := RX5) (by decide) rfl (Nat.le_of_ble_eq_true rfl) ?_
  intro p e s m below meth c ls B hr hlk hl hP hS
  have hx := B.1.1
  have hb := B.1.2.1
  have hown := B.1.2.2.2.1
  have hts := B.1.2.2.2.2
  have hl : lv_has ls 3 [(0, .ref (E.2.1 + k1)), (1, .ref (E.2.1 + k2))] := hl
  refine lv_aload_n hx hb dX5_copyFrom_0 rfl (lv_at hl 1 rfl) ?_
  refine get5 B hP h2 0 (by decide) mw_371 rfl dX5_copyFrom_1 ?_
  refine lv_iconst (v := 0) hx hb dX5_copyFrom_4 (by decide) ?_
  refine lv_aload_n hx hb dX5_copyFrom_5 rfl (lv_at hl 0 rfl) ?_
  refine get5 B hP h1 0 (by decide) mw_371 rfl dX5_copyFrom_6 ?_
  refine lv_iconst (v := 0) hx hb dX5_copyFrom_9 (by decide) ?_
  refine lv_bipush (v := 6) hx hb dX5_copyFrom_10 (by decide) ?_
  refine acopy (n := 6) B hP hS (lay5 h2).1 (lay5 h1).1 (lay5 h2).2.1 (lay5 h1).2.1 rfl (by decide) hl.1 mw_470 mw_472 mw_471 mw_60 (Nat.le_of_ble_eq_true rfl) (Nat.le_of_ble_eq_true rfl) dX5_copyFrom_12 (fun H locs hP hS => ?_)
  rw [upc_self ρ (cpy_self (fun j _ => ha 1 (by decide) (by decide) (by decide) j))] at hP
  refine lv_aload_n hx hb dX5_copyFrom_15 rfl (lv_at hl 1 rfl) ?_
  refine get5 B hP h2 1 (by decide) mw_373 rfl dX5_copyFrom_16 ?_
  refine lv_iconst (v := 0) hx hb dX5_copyFrom_19 (by decide) ?_
  refine lv_aload_n hx hb dX5_copyFrom_20 rfl (lv_at hl 0 rfl) ?_
  refine get5 B hP h1 1 (by decide) mw_373 rfl dX5_copyFrom_21 ?_
  refine lv_iconst (v := 0) hx hb dX5_copyFrom_24 (by decide) ?_
  refine lv_bipush (v := 23) hx hb dX5_copyFrom_25 (by decide) ?_
  refine acopy (n := 23) B hP hS (lay5 h2).2.2.1 (lay5 h1).2.2.1 (lay5 h2).2.2.2.1 (lay5 h1).2.2.2.1 rfl (by decide) hl.1 mw_470 mw_472 mw_471 mw_60 (Nat.le_of_ble_eq_true rfl) (Nat.le_of_ble_eq_true rfl) dX5_copyFrom_27 (fun H locs hP hS => ?_)
  rw [upc_self ρ (cpy_self (fun j _ => ha 2 (by decide) (by decide) (by decide) j))] at hP
  refine lv_aload_n hx hb dX5_copyFrom_30 rfl (lv_at hl 1 rfl) ?_
  refine get5 B hP h2 2 (by decide) mw_375 rfl dX5_copyFrom_31 ?_
  refine lv_iconst (v := 0) hx hb dX5_copyFrom_34 (by decide) ?_
  refine lv_aload_n hx hb dX5_copyFrom_35 rfl (lv_at hl 0 rfl) ?_
  refine get5 B hP h1 2 (by decide) mw_375 rfl dX5_copyFrom_36 ?_
  refine lv_iconst (v := 0) hx hb dX5_copyFrom_39 (by decide) ?_
  refine lv_bipush (v := 9) hx hb dX5_copyFrom_40 (by decide) ?_
  refine acopy (n := 9) B hP hS (lay5 h2).2.2.2.2.1 (lay5 h1).2.2.2.2.1 (lay5 h2).2.2.2.2.2.1 (lay5 h1).2.2.2.2.2.1 rfl (by decide) hl.1 mw_470 mw_472 mw_471 mw_60 (Nat.le_of_ble_eq_true rfl) (Nat.le_of_ble_eq_true rfl) dX5_copyFrom_42 (fun H locs hP hS => ?_)
  rw [upc_self ρ (cpy_self (fun j _ => ha 3 (by decide) (by decide) (by decide) j))] at hP
  refine lv_iconst (v := 0) hx hb dX5_copyFrom_45 (by decide) ?_
  refine lv_istore_n (lv' := [(2, .int 0), (0, .ref (E.2.1 + k1)), (1, .ref (E.2.1 + k2))]) hx hb dX5_copyFrom_46 rfl hl (by decide) rfl (fun ls hl => ?_)
  refine lv_iload_n hx hb dX5_copyFrom_47 rfl (lv_at hl 0 rfl) ?_
  refine lv_iconst (v := 2) hx hb dX5_copyFrom_48 (by decide) ?_
  refine lv_icmp_ge (tgt := 73) hx hb dX5_copyFrom_49 (by decide) (fun c1 => absurd c1 (by decide)) (fun _ => ?_)
  refine lv_aload_n hx hb dX5_copyFrom_52 rfl (lv_at hl 1 rfl) ?_
  refine get5 B hP h1 3 (by decide) mw_377 rfl dX5_copyFrom_53 ?_
  refine lv_iload_n hx hb dX5_copyFrom_56 rfl (lv_at hl 0 rfl) ?_
  refine aldNn B hP (lay5 h1).2.2.2.2.2.2.1 (lay5 h1).2.2.2.2.2.2.2.1 rfl (by decide) dX5_copyFrom_57 ?_
  refine lv_aload_n hx hb dX5_copyFrom_58 rfl (lv_at hl 2 rfl) ?_
  refine get5 B hP h2 3 (by decide) mw_377 rfl dX5_copyFrom_59 ?_
  refine lv_iload_n hx hb dX5_copyFrom_62 rfl (lv_at hl 0 rfl) ?_
  refine aldNn B hP (lay5 h2).2.2.2.2.2.2.1 (lay5 h2).2.2.2.2.2.2.2.1 rfl (by decide) dX5_copyFrom_63 ?_
  refine call_v (cVt (k := (k1 + 5)) (av := [.ref (E.2.1 + (k2 + 5))]) (rest := []) B hP hS (c_Net_copyFrom l E ρ (k1 + 5) (k2 + 5) (lay5 h1).2.2.2.2.2.2.2.2.1 (lay5 h2).2.2.2.2.2.2.2.2.1 (fun r hr j => by have := ha (5 + r) (by omega) (by omega) (by omega) j; rw [← Nat.add_assoc, ← Nat.add_assoc] at this; exact this) hz.1) lk_RX5_53 (hrecv (ci := 2) B hP (hk_lt (lay5 h1).2.2.2.2.2.2.2.2.1 (by decide)) (hcc2 _ _ (lay5 h1).2.2.2.2.2.2.2.2.1) rfl) rfl rfl hl.1 (Nat.le_of_ble_eq_true rfl) ⟨Nat.le_of_ble_eq_true rfl, Nat.le_of_ble_eq_true rfl⟩ ⟨Nat.le_of_ble_eq_true rfl, Nat.le_of_ble_eq_true rfl⟩ dX5_copyFrom_64) hS (fun ρ3 H locs q4 hP hS => ?_)
  obtain rfl := q4
  refine lv_iinc (v := 1) (lv' := [(2, .int 1), (0, .ref (E.2.1 + k1)), (1, .ref (E.2.1 + k2))]) hx hb dX5_copyFrom_67 hl (k := 0) rfl (by decide) (by decide) rfl (fun ls hl => ?_)
  refine lv_goto (tgt := 47) hx hb dX5_copyFrom_70 (by decide) ?_
  refine lv_iload_n hx hb dX5_copyFrom_47 rfl (lv_at hl 0 rfl) ?_
  refine lv_iconst (v := 2) hx hb dX5_copyFrom_48 (by decide) ?_
  refine lv_icmp_ge (tgt := 73) hx hb dX5_copyFrom_49 (by decide) (fun c5 => absurd c5 (by decide)) (fun _ => ?_)
  refine lv_aload_n hx hb dX5_copyFrom_52 rfl (lv_at hl 1 rfl) ?_
  refine get5 B hP h1 3 (by decide) mw_377 rfl dX5_copyFrom_53 ?_
  refine lv_iload_n hx hb dX5_copyFrom_56 rfl (lv_at hl 0 rfl) ?_
  refine aldNn B hP (lay5 h1).2.2.2.2.2.2.1 (lay5 h1).2.2.2.2.2.2.2.1 rfl (by decide) dX5_copyFrom_57 ?_
  refine lv_aload_n hx hb dX5_copyFrom_58 rfl (lv_at hl 2 rfl) ?_
  refine get5 B hP h2 3 (by decide) mw_377 rfl dX5_copyFrom_59 ?_
  refine lv_iload_n hx hb dX5_copyFrom_62 rfl (lv_at hl 0 rfl) ?_
  refine aldNn B hP (lay5 h2).2.2.2.2.2.2.1 (lay5 h2).2.2.2.2.2.2.2.1 rfl (by decide) dX5_copyFrom_63 ?_
  refine call_v (cVt (k := (k1 + 47)) (av := [.ref (E.2.1 + (k2 + 47))]) (rest := []) B hP hS (c_Net_copyFrom l E ρ (k1 + 47) (k2 + 47) (lay5 h1).2.2.2.2.2.2.2.2.2 (lay5 h2).2.2.2.2.2.2.2.2.2 (fun r hr j => by have := ha (47 + r) (by omega) (by omega) (by omega) j; rw [← Nat.add_assoc, ← Nat.add_assoc] at this; exact this) hz.2) lk_RX5_53 (hrecv (ci := 2) B hP (hk_lt (lay5 h1).2.2.2.2.2.2.2.2.2 (by decide)) (hcc2 _ _ (lay5 h1).2.2.2.2.2.2.2.2.2) rfl) rfl rfl hl.1 (Nat.le_of_ble_eq_true rfl) ⟨Nat.le_of_ble_eq_true rfl, Nat.le_of_ble_eq_true rfl⟩ ⟨Nat.le_of_ble_eq_true rfl, Nat.le_of_ble_eq_true rfl⟩ dX5_copyFrom_64) hS (fun ρ7 H locs q8 hP hS => ?_)
  obtain rfl := q8
  refine lv_iinc (v := 2) (lv' := [(2, .int 2), (0, .ref (E.2.1 + k1)), (1, .ref (E.2.1 + k2))]) hx hb dX5_copyFrom_67 hl (k := 0) rfl (by decide) (by decide) rfl (fun ls hl => ?_)
  refine lv_goto (tgt := 47) hx hb dX5_copyFrom_70 (by decide) ?_
  refine lv_iload_n hx hb dX5_copyFrom_47 rfl (lv_at hl 0 rfl) ?_
  refine lv_iconst (v := 2) hx hb dX5_copyFrom_48 (by decide) ?_
  refine lv_icmp_ge (tgt := 73) hx hb dX5_copyFrom_49 (by decide) (fun _ => ?_) (fun c9 => absurd c9 (by decide))
  refine lv_aload_n hx hb dX5_copyFrom_73 rfl (lv_at hl 1 rfl) ?_
  refine lv_aload_n hx hb dX5_copyFrom_74 rfl (lv_at hl 2 rfl) ?_
  refine get5 B hP h2 4 (by decide) mw_379 (v := .int (ρ k2 4)) (show some (Value.int (ρ k2 4)) = some (Value.int (ρ k2 4)) from congrArg (fun z => some (Value.int z)) (show ρ k2 4 = ρ k2 4 from rfl)) dX5_copyFrom_75 ?_
  refine put5 B hP hS h1 4 (by decide) mw_379 rfl rfl rfl (fs5_4 E k1 _ _) dX5_copyFrom_78 (fun H locs hP hS => ?_)
  obtain ⟨ρ10, e11⟩ : ∃ z, z = up ρ k1 4 (ρ k2 4) := ⟨_, rfl⟩
  rw [← e11] at hP
  refine lv_aload_n hx hb dX5_copyFrom_81 rfl (lv_at hl 1 rfl) ?_
  refine lv_aload_n hx hb dX5_copyFrom_82 rfl (lv_at hl 2 rfl) ?_
  refine get5 B hP h2 5 (by decide) mw_381 (v := .int (ρ k2 5)) (show some (Value.int (ρ10 k2 5)) = some (Value.int (ρ k2 5)) from congrArg (fun z => some (Value.int z)) (by rw [e11]; exact up_get_ne (Or.inl (by omega)) (show ρ k2 5 = ρ k2 5 from rfl))) dX5_copyFrom_83 ?_
  refine put5 B hP hS h1 5 (by decide) mw_381 rfl rfl rfl (fs5_5 E k1 _ _) dX5_copyFrom_86 (fun H locs hP hS => ?_)
  obtain ⟨ρ12, e13⟩ : ∃ z, z = up ρ10 k1 5 (ρ k2 5) := ⟨_, rfl⟩
  rw [← e13] at hP
  refine lv_aload_n hx hb dX5_copyFrom_89 rfl (lv_at hl 1 rfl) ?_
  refine lv_aload_n hx hb dX5_copyFrom_90 rfl (lv_at hl 2 rfl) ?_
  refine get5 B hP h2 6 (by decide) mw_383 (v := .int (ρ k2 6)) (show some (Value.int (ρ12 k2 6)) = some (Value.int (ρ k2 6)) from congrArg (fun z => some (Value.int z)) (by rw [e13]; exact up_get_ne (Or.inl (by omega)) (by rw [e11]; exact up_get_ne (Or.inl (by omega)) (show ρ k2 6 = ρ k2 6 from rfl)))) dX5_copyFrom_91 ?_
  refine put5 B hP hS h1 6 (by decide) mw_383 rfl rfl rfl (fs5_6 E k1 _ _) dX5_copyFrom_94 (fun H locs hP hS => ?_)
  obtain ⟨ρ14, e15⟩ : ∃ z, z = up ρ12 k1 6 (ρ k2 6) := ⟨_, rfl⟩
  rw [← e15] at hP
  refine lv_aload_n hx hb dX5_copyFrom_97 rfl (lv_at hl 1 rfl) ?_
  refine lv_aload_n hx hb dX5_copyFrom_98 rfl (lv_at hl 2 rfl) ?_
  refine get5 B hP h2 7 (by decide) mw_385 (v := .int (ρ k2 7)) (show some (Value.int (ρ14 k2 7)) = some (Value.int (ρ k2 7)) from congrArg (fun z => some (Value.int z)) (by rw [e15]; exact up_get_ne (Or.inl (by omega)) (by rw [e13]; exact up_get_ne (Or.inl (by omega)) (by rw [e11]; exact up_get_ne (Or.inl (by omega)) (show ρ k2 7 = ρ k2 7 from rfl))))) dX5_copyFrom_99 ?_
  refine put5 B hP hS h1 7 (by decide) mw_385 rfl rfl rfl (fs5_7 E k1 _ _) dX5_copyFrom_102 (fun H locs hP hS => ?_)
  obtain ⟨ρ16, e17⟩ : ∃ z, z = up ρ14 k1 7 (ρ k2 7) := ⟨_, rfl⟩
  rw [← e17] at hP
  refine lv_aload_n hx hb dX5_copyFrom_105 rfl (lv_at hl 1 rfl) ?_
  refine lv_aload_n hx hb dX5_copyFrom_106 rfl (lv_at hl 2 rfl) ?_
  refine get5 B hP h2 8 (by decide) mw_387 (v := .int (ρ k2 8)) (show some (Value.int (ρ16 k2 8)) = some (Value.int (ρ k2 8)) from congrArg (fun z => some (Value.int z)) (by rw [e17]; exact up_get_ne (Or.inl (by omega)) (by rw [e15]; exact up_get_ne (Or.inl (by omega)) (by rw [e13]; exact up_get_ne (Or.inl (by omega)) (by rw [e11]; exact up_get_ne (Or.inl (by omega)) (show ρ k2 8 = ρ k2 8 from rfl)))))) dX5_copyFrom_107 ?_
  refine put5 B hP hS h1 8 (by decide) mw_387 rfl rfl rfl (fs5_8 E k1 _ _) dX5_copyFrom_110 (fun H locs hP hS => ?_)
  obtain ⟨ρ18, e19⟩ : ∃ z, z = up ρ16 k1 8 (ρ k2 8) := ⟨_, rfl⟩
  rw [← e19] at hP
  exact ret_v B hr hlk hP hS dX5_copyFrom_113 (cpw_eq e11 e13 e15 e17 e19)
end
