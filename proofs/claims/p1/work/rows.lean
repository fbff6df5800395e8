section
/-- a private method of a class that the tables say can be made, by its rows of tables_1 -/
def lw_okq (q : MethodName × Nat) : Prop := (q.1.cls ≠ "java/lang/invoke/MethodHandle" ∧ q.1.cls ≠ "java/lang/invoke/VarHandle") ∧ Cond.instantiable q.1.cls q.2 ∈ tables_1 ∧ Cond.privateMethod q.1 ∈ tables_1 ∧ Cond.instanceMethod q.1 ∈ tables_1
theorem lw_p0 : lw_okq (⟨"HopNet", "refuse", "(I)I"⟩, 12) := ⟨⟨by decide +kernel, by decide +kernel⟩, List.mem_of_getElem? (i := 13) (by decide +kernel), List.mem_of_getElem? (i := 408) (by decide +kernel), List.mem_of_getElem? (i := 409) (by decide +kernel)⟩
theorem lw_p1 : lw_okq (⟨"HopNet", "keepForUndo", "(I)V"⟩, 12) := ⟨⟨by decide +kernel, by decide +kernel⟩, List.mem_of_getElem? (i := 13) (by decide +kernel), List.mem_of_getElem? (i := 412) (by decide +kernel), List.mem_of_getElem? (i := 413) (by decide +kernel)⟩
theorem lw_p2 : lw_okq (⟨"HopNet", "accept", "(I)I"⟩, 12) := ⟨⟨by decide +kernel, by decide +kernel⟩, List.mem_of_getElem? (i := 13) (by decide +kernel), List.mem_of_getElem? (i := 449) (by decide +kernel), List.mem_of_getElem? (i := 450) (by decide +kernel)⟩
theorem lw_p3 : lw_okq (⟨"HopNet", "tellMap", "(LHopNet$Net;II)I"⟩, 12) := ⟨⟨by decide +kernel, by decide +kernel⟩, List.mem_of_getElem? (i := 13) (by decide +kernel), List.mem_of_getElem? (i := 571) (by decide +kernel), List.mem_of_getElem? (i := 572) (by decide +kernel)⟩
theorem lw_p4 : lw_okq (⟨"HopNet", "hasTimeFor", "(I)Z"⟩, 12) := ⟨⟨by decide +kernel, by decide +kernel⟩, List.mem_of_getElem? (i := 13) (by decide +kernel), List.mem_of_getElem? (i := 599) (by decide +kernel), List.mem_of_getElem? (i := 600) (by decide +kernel)⟩
theorem lw_p5 : lw_okq (⟨"HopNet", "planOf", "(II)LHopNet$Plan;"⟩, 12) := ⟨⟨by decide +kernel, by decide +kernel⟩, List.mem_of_getElem? (i := 13) (by decide +kernel), List.mem_of_getElem? (i := 805) (by decide +kernel), List.mem_of_getElem? (i := 806) (by decide +kernel)⟩
theorem lw_p6 : lw_okq (⟨"HopNet", "noteHops", "(I)V"⟩, 12) := ⟨⟨by decide +kernel, by decide +kernel⟩, List.mem_of_getElem? (i := 13) (by decide +kernel), List.mem_of_getElem? (i := 890) (by decide +kernel), List.mem_of_getElem? (i := 891) (by decide +kernel)⟩
theorem lw_p7 : lw_okq (⟨"HopNet", "clashesAt", "(II)I"⟩, 12) := ⟨⟨by decide +kernel, by decide +kernel⟩, List.mem_of_getElem? (i := 13) (by decide +kernel), List.mem_of_getElem? (i := 896) (by decide +kernel), List.mem_of_getElem? (i := 897) (by decide +kernel)⟩
theorem lw_p8 : lw_okq (⟨"HopNet", "paperWith", "(I)LHopNet$World;"⟩, 12) := ⟨⟨by decide +kernel, by decide +kernel⟩, List.mem_of_getElem? (i := 13) (by decide +kernel), List.mem_of_getElem? (i := 909) (by decide +kernel), List.mem_of_getElem? (i := 910) (by decide +kernel)⟩
theorem lw_p9 : lw_okq (⟨"HopNetModel", "refuse", "(I)I"⟩, 18) := ⟨⟨by decide +kernel, by decide +kernel⟩, List.mem_of_getElem? (i := 971) (by decide +kernel), List.mem_of_getElem? (i := 1036) (by decide +kernel), List.mem_of_getElem? (i := 1037) (by decide +kernel)⟩
theorem lw_p10 : lw_okq (⟨"HopNetModel", "tell", "(I)I"⟩, 18) := ⟨⟨by decide +kernel, by decide +kernel⟩, List.mem_of_getElem? (i := 971) (by decide +kernel), List.mem_of_getElem? (i := 1043) (by decide +kernel), List.mem_of_getElem? (i := 1044) (by decide +kernel)⟩
theorem lw_p11 : lw_okq (⟨"HopNetModel", "isNet", "(I)Z"⟩, 18) := ⟨⟨by decide +kernel, by decide +kernel⟩, List.mem_of_getElem? (i := 971) (by decide +kernel), List.mem_of_getElem? (i := 1073) (by decide +kernel), List.mem_of_getElem? (i := 1074) (by decide +kernel)⟩
theorem lw_p12 : lw_okq (⟨"HopNetModel", "isLink", "(II)Z"⟩, 18) := ⟨⟨by decide +kernel, by decide +kernel⟩, List.mem_of_getElem? (i := 971) (by decide +kernel), List.mem_of_getElem? (i := 1080) (by decide +kernel), List.mem_of_getElem? (i := 1081) (by decide +kernel)⟩
theorem lw_p13 : lw_okq (⟨"HopNetModel", "mapHeld", "(II)I"⟩, 18) := ⟨⟨by decide +kernel, by decide +kernel⟩, List.mem_of_getElem? (i := 971) (by decide +kernel), List.mem_of_getElem? (i := 1085) (by decide +kernel), List.mem_of_getElem? (i := 1086) (by decide +kernel)⟩
theorem lw_p14 : lw_okq (⟨"HopNetModel", "hopOf", "(III)I"⟩, 18) := ⟨⟨by decide +kernel, by decide +kernel⟩, List.mem_of_getElem? (i := 971) (by decide +kernel), List.mem_of_getElem? (i := 1092) (by decide +kernel), List.mem_of_getElem? (i := 1093) (by decide +kernel)⟩
theorem lw_p15 : lw_okq (⟨"HopNetModel", "remember", "(I)V"⟩, 18) := ⟨⟨by decide +kernel, by decide +kernel⟩, List.mem_of_getElem? (i := 971) (by decide +kernel), List.mem_of_getElem? (i := 1106) (by decide +kernel), List.mem_of_getElem? (i := 1107) (by decide +kernel)⟩
def lw_privs_1 : List (MethodName × Nat) := [(⟨"HopNet", "refuse", "(I)I"⟩, 12), (⟨"HopNet", "keepForUndo", "(I)V"⟩, 12), (⟨"HopNet", "accept", "(I)I"⟩, 12), (⟨"HopNet", "tellMap", "(LHopNet$Net;II)I"⟩, 12), (⟨"HopNet", "hasTimeFor", "(I)Z"⟩, 12), (⟨"HopNet", "planOf", "(II)LHopNet$Plan;"⟩, 12), (⟨"HopNet", "noteHops", "(I)V"⟩, 12), (⟨"HopNet", "clashesAt", "(II)I"⟩, 12), (⟨"HopNet", "paperWith", "(I)LHopNet$World;"⟩, 12), (⟨"HopNetModel", "refuse", "(I)I"⟩, 18), (⟨"HopNetModel", "tell", "(I)I"⟩, 18), (⟨"HopNetModel", "isNet", "(I)Z"⟩, 18), (⟨"HopNetModel", "isLink", "(II)Z"⟩, 18), (⟨"HopNetModel", "mapHeld", "(II)I"⟩, 18), (⟨"HopNetModel", "hopOf", "(III)I"⟩, 18), (⟨"HopNetModel", "remember", "(I)V"⟩, 18)]
theorem lw_r1 : ∀ q ∈ lw_privs_1, lw_okq q := List.forall_mem_cons.mpr ⟨lw_p0, List.forall_mem_cons.mpr ⟨lw_p1, List.forall_mem_cons.mpr ⟨lw_p2, List.forall_mem_cons.mpr ⟨lw_p3, List.forall_mem_cons.mpr ⟨lw_p4, List.forall_mem_cons.mpr ⟨lw_p5, List.forall_mem_cons.mpr ⟨lw_p6, List.forall_mem_cons.mpr ⟨lw_p7, List.forall_mem_cons.mpr ⟨lw_p8, List.forall_mem_cons.mpr ⟨lw_p9, List.forall_mem_cons.mpr ⟨lw_p10, List.forall_mem_cons.mpr ⟨lw_p11, List.forall_mem_cons.mpr ⟨lw_p12, List.forall_mem_cons.mpr ⟨lw_p13, List.forall_mem_cons.mpr ⟨lw_p14, List.forall_mem_cons.mpr ⟨lw_p15, fun _ h => absurd h List.not_mem_nil⟩⟩⟩⟩⟩⟩⟩⟩⟩⟩⟩⟩⟩⟩⟩⟩
theorem lw_p16 : lw_okq (⟨"HopNetModel", "isRadio", "(I)Z"⟩, 18) := ⟨⟨by decide +kernel, by decide +kernel⟩, List.mem_of_getElem? (i := 971) (by decide +kernel), List.mem_of_getElem? (i := 1115) (by decide +kernel), List.mem_of_getElem? (i := 1116) (by decide +kernel)⟩
theorem lw_p17 : lw_okq (⟨"HopNetModel", "isIn", "(II)Z"⟩, 18) := ⟨⟨by decide +kernel, by decide +kernel⟩, List.mem_of_getElem? (i := 971) (by decide +kernel), List.mem_of_getElem? (i := 1124) (by decide +kernel), List.mem_of_getElem? (i := 1125) (by decide +kernel)⟩
theorem lw_p18 : lw_okq (⟨"HopNetModel", "comes", "(IIII)V"⟩, 18) := ⟨⟨by decide +kernel, by decide +kernel⟩, List.mem_of_getElem? (i := 971) (by decide +kernel), List.mem_of_getElem? (i := 1154) (by decide +kernel), List.mem_of_getElem? (i := 1155) (by decide +kernel)⟩
theorem lw_p19 : lw_okq (⟨"HopNetModel", "tellMap", "(III)I"⟩, 18) := ⟨⟨by decide +kernel, by decide +kernel⟩, List.mem_of_getElem? (i := 971) (by decide +kernel), List.mem_of_getElem? (i := 1184) (by decide +kernel), List.mem_of_getElem? (i := 1185) (by decide +kernel)⟩
theorem lw_p20 : lw_okq (⟨"HopNetModel", "badOf", "(II)I"⟩, 18) := ⟨⟨by decide +kernel, by decide +kernel⟩, List.mem_of_getElem? (i := 971) (by decide +kernel), List.mem_of_getElem? (i := 1193) (by decide +kernel), List.mem_of_getElem? (i := 1194) (by decide +kernel)⟩
theorem lw_p21 : lw_okq (⟨"HopNetModel", "aheadOf", "(II)I"⟩, 18) := ⟨⟨by decide +kernel, by decide +kernel⟩, List.mem_of_getElem? (i := 971) (by decide +kernel), List.mem_of_getElem? (i := 1197) (by decide +kernel), List.mem_of_getElem? (i := 1198) (by decide +kernel)⟩
theorem lw_p22 : lw_okq (⟨"HopNetModel", "turnsBy", "(I)V"⟩, 18) := ⟨⟨by decide +kernel, by decide +kernel⟩, List.mem_of_getElem? (i := 971) (by decide +kernel), List.mem_of_getElem? (i := 1207) (by decide +kernel), List.mem_of_getElem? (i := 1208) (by decide +kernel)⟩
theorem lw_p23 : lw_okq (⟨"HopNetModel", "turn", "()V"⟩, 18) := ⟨⟨by decide +kernel, by decide +kernel⟩, List.mem_of_getElem? (i := 971) (by decide +kernel), List.mem_of_getElem? (i := 1211) (by decide +kernel), List.mem_of_getElem? (i := 1212) (by decide +kernel)⟩
theorem lw_p24 : lw_okq (⟨"HopNetModel", "mapsBecome", "(IIII)V"⟩, 18) := ⟨⟨by decide +kernel, by decide +kernel⟩, List.mem_of_getElem? (i := 971) (by decide +kernel), List.mem_of_getElem? (i := 1215) (by decide +kernel), List.mem_of_getElem? (i := 1216) (by decide +kernel)⟩
theorem lw_p25 : lw_okq (⟨"HopNetModel", "framesCome", "(I)V"⟩, 18) := ⟨⟨by decide +kernel, by decide +kernel⟩, List.mem_of_getElem? (i := 971) (by decide +kernel), List.mem_of_getElem? (i := 1219) (by decide +kernel), List.mem_of_getElem? (i := 1220) (by decide +kernel)⟩
theorem lw_p26 : lw_okq (⟨"HopNetModel", "isLinkHere", "(II)Z"⟩, 18) := ⟨⟨by decide +kernel, by decide +kernel⟩, List.mem_of_getElem? (i := 971) (by decide +kernel), List.mem_of_getElem? (i := 1223) (by decide +kernel), List.mem_of_getElem? (i := 1224) (by decide +kernel)⟩
theorem lw_p27 : lw_okq (⟨"HopNetModel", "isReady", "(III)Z"⟩, 18) := ⟨⟨by decide +kernel, by decide +kernel⟩, List.mem_of_getElem? (i := 971) (by decide +kernel), List.mem_of_getElem? (i := 1227) (by decide +kernel), List.mem_of_getElem? (i := 1228) (by decide +kernel)⟩
theorem lw_p28 : lw_okq (⟨"HopNetModel", "isHere", "(III)Z"⟩, 18) := ⟨⟨by decide +kernel, by decide +kernel⟩, List.mem_of_getElem? (i := 971) (by decide +kernel), List.mem_of_getElem? (i := 1231) (by decide +kernel), List.mem_of_getElem? (i := 1232) (by decide +kernel)⟩
theorem lw_p29 : lw_okq (⟨"HopNetModel", "choose", "(I)I"⟩, 18) := ⟨⟨by decide +kernel, by decide +kernel⟩, List.mem_of_getElem? (i := 971) (by decide +kernel), List.mem_of_getElem? (i := 1235) (by decide +kernel), List.mem_of_getElem? (i := 1236) (by decide +kernel)⟩
theorem lw_p30 : lw_okq (⟨"HopNetModel", "sendsDown", "()V"⟩, 18) := ⟨⟨by decide +kernel, by decide +kernel⟩, List.mem_of_getElem? (i := 971) (by decide +kernel), List.mem_of_getElem? (i := 1239) (by decide +kernel), List.mem_of_getElem? (i := 1240) (by decide +kernel)⟩
theorem lw_p31 : lw_okq (⟨"HopNetModel", "mapFor", "(I)I"⟩, 18) := ⟨⟨by decide +kernel, by decide +kernel⟩, List.mem_of_getElem? (i := 971) (by decide +kernel), List.mem_of_getElem? (i := 1243) (by decide +kernel), List.mem_of_getElem? (i := 1244) (by decide +kernel)⟩
def lw_privs_2 : List (MethodName × Nat) := [(⟨"HopNetModel", "isRadio", "(I)Z"⟩, 18), (⟨"HopNetModel", "isIn", "(II)Z"⟩, 18), (⟨"HopNetModel", "comes", "(IIII)V"⟩, 18), (⟨"HopNetModel", "tellMap", "(III)I"⟩, 18), (⟨"HopNetModel", "badOf", "(II)I"⟩, 18), (⟨"HopNetModel", "aheadOf", "(II)I"⟩, 18), (⟨"HopNetModel", "turnsBy", "(I)V"⟩, 18), (⟨"HopNetModel", "turn", "()V"⟩, 18), (⟨"HopNetModel", "mapsBecome", "(IIII)V"⟩, 18), (⟨"HopNetModel", "framesCome", "(I)V"⟩, 18), (⟨"HopNetModel", "isLinkHere", "(II)Z"⟩, 18), (⟨"HopNetModel", "isReady", "(III)Z"⟩, 18), (⟨"HopNetModel", "isHere", "(III)Z"⟩, 18), (⟨"HopNetModel", "choose", "(I)I"⟩, 18), (⟨"HopNetModel", "sendsDown", "()V"⟩, 18), (⟨"HopNetModel", "mapFor", "(I)I"⟩, 18)]
theorem lw_r2 : ∀ q ∈ lw_privs_2, lw_okq q := List.forall_mem_cons.mpr ⟨lw_p16, List.forall_mem_cons.mpr ⟨lw_p17, List.forall_mem_cons.mpr ⟨lw_p18, List.forall_mem_cons.mpr ⟨lw_p19, List.forall_mem_cons.mpr ⟨lw_p20, List.forall_mem_cons.mpr ⟨lw_p21, List.forall_mem_cons.mpr ⟨lw_p22, List.forall_mem_cons.mpr ⟨lw_p23, List.forall_mem_cons.mpr ⟨lw_p24, List.forall_mem_cons.mpr ⟨lw_p25, List.forall_mem_cons.mpr ⟨lw_p26, List.forall_mem_cons.mpr ⟨lw_p27, List.forall_mem_cons.mpr ⟨lw_p28, List.forall_mem_cons.mpr ⟨lw_p29, List.forall_mem_cons.mpr ⟨lw_p30, List.forall_mem_cons.mpr ⟨lw_p31, fun _ h => absurd h List.not_mem_nil⟩⟩⟩⟩⟩⟩⟩⟩⟩⟩⟩⟩⟩⟩⟩⟩
theorem lw_p32 : lw_okq (⟨"HopNetModel", "casts", "(I)V"⟩, 18) := ⟨⟨by decide +kernel, by decide +kernel⟩, List.mem_of_getElem? (i := 971) (by decide +kernel), List.mem_of_getElem? (i := 1247) (by decide +kernel), List.mem_of_getElem? (i := 1248) (by decide +kernel)⟩
theorem lw_p33 : lw_okq (⟨"HopNetModel", "whyNot", "(II)I"⟩, 18) := ⟨⟨by decide +kernel, by decide +kernel⟩, List.mem_of_getElem? (i := 971) (by decide +kernel), List.mem_of_getElem? (i := 1251) (by decide +kernel), List.mem_of_getElem? (i := 1252) (by decide +kernel)⟩
theorem lw_p34 : lw_okq (⟨"HopNetModel", "draw", "()I"⟩, 18) := ⟨⟨by decide +kernel, by decide +kernel⟩, List.mem_of_getElem? (i := 971) (by decide +kernel), List.mem_of_getElem? (i := 1255) (by decide +kernel), List.mem_of_getElem? (i := 1256) (by decide +kernel)⟩
theorem lw_p35 : lw_okq (⟨"HopNetModel", "memberHears", "(II)V"⟩, 18) := ⟨⟨by decide +kernel, by decide +kernel⟩, List.mem_of_getElem? (i := 971) (by decide +kernel), List.mem_of_getElem? (i := 1262) (by decide +kernel), List.mem_of_getElem? (i := 1263) (by decide +kernel)⟩
theorem lw_p36 : lw_okq (⟨"HopNetModel", "hears", "(IIII)V"⟩, 18) := ⟨⟨by decide +kernel, by decide +kernel⟩, List.mem_of_getElem? (i := 971) (by decide +kernel), List.mem_of_getElem? (i := 1266) (by decide +kernel), List.mem_of_getElem? (i := 1267) (by decide +kernel)⟩
theorem lw_p37 : lw_okq (⟨"HopNetModel", "passes", "(III)V"⟩, 18) := ⟨⟨by decide +kernel, by decide +kernel⟩, List.mem_of_getElem? (i := 971) (by decide +kernel), List.mem_of_getElem? (i := 1270) (by decide +kernel), List.mem_of_getElem? (i := 1271) (by decide +kernel)⟩
theorem lw_p38 : lw_okq (⟨"HopNetModel", "goes", "(III)V"⟩, 18) := ⟨⟨by decide +kernel, by decide +kernel⟩, List.mem_of_getElem? (i := 971) (by decide +kernel), List.mem_of_getElem? (i := 1274) (by decide +kernel), List.mem_of_getElem? (i := 1275) (by decide +kernel)⟩
theorem lw_p39 : lw_okq (⟨"HopNetModel", "sendsUp", "()V"⟩, 18) := ⟨⟨by decide +kernel, by decide +kernel⟩, List.mem_of_getElem? (i := 971) (by decide +kernel), List.mem_of_getElem? (i := 1278) (by decide +kernel), List.mem_of_getElem? (i := 1279) (by decide +kernel)⟩
theorem lw_p40 : lw_okq (⟨"HopNetModel", "masterHears", "(II)V"⟩, 18) := ⟨⟨by decide +kernel, by decide +kernel⟩, List.mem_of_getElem? (i := 971) (by decide +kernel), List.mem_of_getElem? (i := 1282) (by decide +kernel), List.mem_of_getElem? (i := 1283) (by decide +kernel)⟩
theorem lw_p41 : lw_okq (⟨"HopNetModel", "chance", "(III)I"⟩, 18) := ⟨⟨by decide +kernel, by decide +kernel⟩, List.mem_of_getElem? (i := 971) (by decide +kernel), List.mem_of_getElem? (i := 1333) (by decide +kernel), List.mem_of_getElem? (i := 1334) (by decide +kernel)⟩
theorem lw_p42 : lw_okq (⟨"HopNetModel", "areBoth", "(I)Z"⟩, 18) := ⟨⟨by decide +kernel, by decide +kernel⟩, List.mem_of_getElem? (i := 971) (by decide +kernel), List.mem_of_getElem? (i := 1344) (by decide +kernel), List.mem_of_getElem? (i := 1345) (by decide +kernel)⟩
theorem lw_p43 : lw_okq (⟨"HopNetModel", "clashesBy", "(I)I"⟩, 18) := ⟨⟨by decide +kernel, by decide +kernel⟩, List.mem_of_getElem? (i := 971) (by decide +kernel), List.mem_of_getElem? (i := 1348) (by decide +kernel), List.mem_of_getElem? (i := 1349) (by decide +kernel)⟩
theorem lw_p44 : lw_okq (⟨"HopNetModel", "canTurn", "(I)Z"⟩, 18) := ⟨⟨by decide +kernel, by decide +kernel⟩, List.mem_of_getElem? (i := 971) (by decide +kernel), List.mem_of_getElem? (i := 1368) (by decide +kernel), List.mem_of_getElem? (i := 1369) (by decide +kernel)⟩
theorem lw_p45 : lw_okq (⟨"HopNetModel", "comesAt", "(II)Z"⟩, 18) := ⟨⟨by decide +kernel, by decide +kernel⟩, List.mem_of_getElem? (i := 971) (by decide +kernel), List.mem_of_getElem? (i := 1376) (by decide +kernel), List.mem_of_getElem? (i := 1377) (by decide +kernel)⟩
theorem lw_p46 : lw_okq (⟨"HopNetModel", "isAhead", "(III)Z"⟩, 18) := ⟨⟨by decide +kernel, by decide +kernel⟩, List.mem_of_getElem? (i := 971) (by decide +kernel), List.mem_of_getElem? (i := 1384) (by decide +kernel), List.mem_of_getElem? (i := 1385) (by decide +kernel)⟩
theorem lw_p47 : lw_okq (⟨"HopNetModel", "isEmpty", "(II)Z"⟩, 18) := ⟨⟨by decide +kernel, by decide +kernel⟩, List.mem_of_getElem? (i := 971) (by decide +kernel), List.mem_of_getElem? (i := 1397) (by decide +kernel), List.mem_of_getElem? (i := 1398) (by decide +kernel)⟩
def lw_privs_3 : List (MethodName × Nat) := [(⟨"HopNetModel", "casts", "(I)V"⟩, 18), (⟨"HopNetModel", "whyNot", "(II)I"⟩, 18), (⟨"HopNetModel", "draw", "()I"⟩, 18), (⟨"HopNetModel", "memberHears", "(II)V"⟩, 18), (⟨"HopNetModel", "hears", "(IIII)V"⟩, 18), (⟨"HopNetModel", "passes", "(III)V"⟩, 18), (⟨"HopNetModel", "goes", "(III)V"⟩, 18), (⟨"HopNetModel", "sendsUp", "()V"⟩, 18), (⟨"HopNetModel", "masterHears", "(II)V"⟩, 18), (⟨"HopNetModel", "chance", "(III)I"⟩, 18), (⟨"HopNetModel", "areBoth", "(I)Z"⟩, 18), (⟨"HopNetModel", "clashesBy", "(I)I"⟩, 18), (⟨"HopNetModel", "canTurn", "(I)Z"⟩, 18), (⟨"HopNetModel", "comesAt", "(II)Z"⟩, 18), (⟨"HopNetModel", "isAhead", "(III)Z"⟩, 18), (⟨"HopNetModel", "isEmpty", "(II)Z"⟩, 18)]
theorem lw_r3 : ∀ q ∈ lw_privs_3, lw_okq q := List.forall_mem_cons.mpr ⟨lw_p32, List.forall_mem_cons.mpr ⟨lw_p33, List.forall_mem_cons.mpr ⟨lw_p34, List.forall_mem_cons.mpr ⟨lw_p35, List.forall_mem_cons.mpr ⟨lw_p36, List.forall_mem_cons.mpr ⟨lw_p37, List.forall_mem_cons.mpr ⟨lw_p38, List.forall_mem_cons.mpr ⟨lw_p39, List.forall_mem_cons.mpr ⟨lw_p40, List.forall_mem_cons.mpr ⟨lw_p41, List.forall_mem_cons.mpr ⟨lw_p42, List.forall_mem_cons.mpr ⟨lw_p43, List.forall_mem_cons.mpr ⟨lw_p44, List.forall_mem_cons.mpr ⟨lw_p45, List.forall_mem_cons.mpr ⟨lw_p46, List.forall_mem_cons.mpr ⟨lw_p47, fun _ h => absurd h List.not_mem_nil⟩⟩⟩⟩⟩⟩⟩⟩⟩⟩⟩⟩⟩⟩⟩⟩
theorem lw_p48 : lw_okq (⟨"HopNetModel", "tries", "(III)I"⟩, 18) := ⟨⟨by decide +kernel, by decide +kernel⟩, List.mem_of_getElem? (i := 971) (by decide +kernel), List.mem_of_getElem? (i := 1405) (by decide +kernel), List.mem_of_getElem? (i := 1406) (by decide +kernel)⟩
theorem lw_p49 : lw_okq (⟨"HopNetModel", "otherMaps", "()I"⟩, 18) := ⟨⟨by decide +kernel, by decide +kernel⟩, List.mem_of_getElem? (i := 971) (by decide +kernel), List.mem_of_getElem? (i := 1409) (by decide +kernel), List.mem_of_getElem? (i := 1410) (by decide +kernel)⟩
theorem lw_p50 : lw_okq (⟨"HopNetModel", "heardOfAll", "()I"⟩, 18) := ⟨⟨by decide +kernel, by decide +kernel⟩, List.mem_of_getElem? (i := 971) (by decide +kernel), List.mem_of_getElem? (i := 1425) (by decide +kernel), List.mem_of_getElem? (i := 1426) (by decide +kernel)⟩
def lw_privs_4 : List (MethodName × Nat) := [(⟨"HopNetModel", "tries", "(III)I"⟩, 18), (⟨"HopNetModel", "otherMaps", "()I"⟩, 18), (⟨"HopNetModel", "heardOfAll", "()I"⟩, 18)]
theorem lw_r4 : ∀ q ∈ lw_privs_4, lw_okq q := List.forall_mem_cons.mpr ⟨lw_p48, List.forall_mem_cons.mpr ⟨lw_p49, List.forall_mem_cons.mpr ⟨lw_p50, fun _ h => absurd h List.not_mem_nil⟩⟩⟩
def lw_privs : List (MethodName × Nat) := lw_privs_1 ++ (lw_privs_2 ++ (lw_privs_3 ++ (lw_privs_4)))
def lw_tbl : List Cond := k2_sels lw_privs ++ tables_1
theorem lw_privs_ok : ∀ q ∈ lw_privs, lw_okq q := by
  show ∀ q ∈ lw_privs_1 ++ (lw_privs_2 ++ (lw_privs_3 ++ (lw_privs_4))), lw_okq q
  exact List.forall_mem_append.mpr ⟨lw_r1, List.forall_mem_append.mpr ⟨lw_r2, List.forall_mem_append.mpr ⟨lw_r3, lw_r4⟩⟩⟩
end
section
/-! names of the program, as TURN prints them -/
def RX0 : String := "HopNet$Frames"
def TX0 : u_T := fun k => match k with
  | 0 => ("HopNet$Frames", "period", "I", false)
  | 1 => ("HopNet$Frames", "phase", "I", false)
  | 2 => ("HopNet$Frames", "window", "I", false)
  | 3 => ("HopNet$Frames", "got", "I", false)
  | 4 => ("HopNet$Frames", "missed", "I", false)
  | _ => ("HopNet$Frames", "turnsLeft", "I", false)
def tyX0 : Nat → FieldType := fun k => match k with
  | 0 => .int
  | 1 => .int
  | 2 => .int
  | 3 => .int
  | 4 => .int
  | _ => .int
abbrev wsX00 : List Cond := u_ws RX0 TX0 6
theorem nmX0 : ∀ a, a < 6 → ∀ b, b < 6 → a ≠ b → (TX0 a).2.1 ≠ (TX0 b).2.1 := by decide +kernel
theorem tyX0_ok : ∀ k, k < 6 → parseFieldDescriptor (TX0 k).2.2.1 = some (tyX0 k) := by decide +kernel
abbrev cX0_init : ByteArray := prog_2_method_1_code
def yX0_init : MethodName := ⟨RX0, "<init>", "()V"⟩
abbrev cX0_set : ByteArray := prog_2_method_2_code
def yX0_set : MethodName := ⟨RX0, "set", "(III)V"⟩
abbrev cX0_copyFrom : ByteArray := prog_2_method_3_code
def yX0_copyFrom : MethodName := ⟨RX0, "copyFrom", "(LHopNet$Frames;)V"⟩
abbrev cX0_isDue : ByteArray := prog_2_method_4_code
def yX0_isDue : MethodName := ⟨RX0, "isDue", "(I)Z"⟩
abbrev cX0_openAt : ByteArray := prog_2_method_5_code
def yX0_openAt : MethodName := ⟨RX0, "openAt", "(I)V"⟩
abbrev cX0_answer : ByteArray := prog_2_method_6_code
def yX0_answer : MethodName := ⟨RX0, "answer", "()V"⟩
abbrev cX0_endTurn : ByteArray := prog_2_method_7_code
def yX0_endTurn : MethodName := ⟨RX0, "endTurn", "()V"⟩
def RX1 : String := "HopNet$Link"
def TX1 : u_T := fun k => match k with
  | 0 => ("HopNet$Link", "plan", "LHopNet$Plan;", true)
  | 1 => ("HopNet$Link", "down", "LHopNet$Row;", true)
  | 2 => ("HopNet$Link", "up", "LHopNet$Row;", true)
  | 3 => ("HopNet$Link", "frames", "LHopNet$Frames;", true)
  | 4 => ("HopNet$Link", "radio", "I", false)
  | 5 => ("HopNet$Link", "known", "Z", false)
  | 6 => ("HopNet$Link", "upWasHeard", "Z", false)
  | 7 => ("HopNet$Link", "sniffPeriod", "I", false)
  | 8 => ("HopNet$Link", "sniffTries", "I", false)
  | 9 => ("HopNet$Link", "weight", "I", false)
  | 10 => ("HopNet$Link", "castBit", "I", false)
  | 11 => ("HopNet$Link", "castsHeard", "I", false)
  | 12 => ("HopNet$Link", "castHash", "I", false)
  | 13 => ("HopNet$Link", "timesChosen", "I", false)
  | 14 => ("HopNet$Link", "turnsReady", "I", false)
  | 15 => ("HopNet$Link", "why", "I", false)
  | 16 => ("HopNet$Link", "lastHeard", "I", false)
  | _ => ("HopNet$Link", "isReady", "Z", false)
def tyX1 : Nat → FieldType := fun k => match k with
  | 0 => .object "HopNet$Plan"
  | 1 => .object "HopNet$Row"
  | 2 => .object "HopNet$Row"
  | 3 => .object "HopNet$Frames"
  | 4 => .int
  | 5 => .boolean
  | 6 => .boolean
  | 7 => .int
  | 8 => .int
  | 9 => .int
  | 10 => .int
  | 11 => .int
  | 12 => .int
  | 13 => .int
  | 14 => .int
  | 15 => .int
  | 16 => .int
  | _ => .boolean
abbrev wsX10 : List Cond := u_ws RX1 TX1 18
theorem nmX1 : ∀ a, a < 18 → ∀ b, b < 18 → a ≠ b → (TX1 a).2.1 ≠ (TX1 b).2.1 := by decide +kernel
theorem tyX1_ok : ∀ k, k < 18 → parseFieldDescriptor (TX1 k).2.2.1 = some (tyX1 k) := by decide +kernel
abbrev cX1_init : ByteArray := prog_3_method_1_code
def yX1_init : MethodName := ⟨RX1, "<init>", "()V"⟩
abbrev cX1_begin : ByteArray := prog_3_method_2_code
def yX1_begin : MethodName := ⟨RX1, "begin", "(ILHopNet$Plan;I)V"⟩
abbrev cX1_copyFrom : ByteArray := prog_3_method_3_code
def yX1_copyFrom : MethodName := ⟨RX1, "copyFrom", "(LHopNet$Link;)V"⟩
abbrev cX1_isAwake : ByteArray := prog_3_method_4_code
def yX1_isAwake : MethodName := ⟨RX1, "isAwake", "(I)Z"⟩
abbrev cX1_hearCast : ByteArray := prog_3_method_5_code
def yX1_hearCast : MethodName := ⟨RX1, "hearCast", "(II)V"⟩
abbrev cX1_hearMapOf : ByteArray := prog_3_method_6_code
def yX1_hearMapOf : MethodName := ⟨RX1, "hearMapOf", "(LHopNet$Plan;)V"⟩
def RX2 : String := "HopNet$Net"
def TX2 : u_T := fun k => match k with
  | 0 => ("HopNet$Net", "plan", "LHopNet$Plan;", true)
  | 1 => ("HopNet$Net", "casts", "[I", true)
  | 2 => ("HopNet$Net", "sentOn", "[I", true)
  | 3 => ("HopNet$Net", "answeredOn", "[I", true)
  | 4 => ("HopNet$Net", "links", "[LHopNet$Link;", true)
  | 5 => ("HopNet$Net", "master", "I", false)
  | 6 => ("HopNet$Net", "offset", "I", false)
  | 7 => ("HopNet$Net", "mapAhead", "I", false)
  | 8 => ("HopNet$Net", "linkCount", "I", false)
  | 9 => ("HopNet$Net", "polled", "I", false)
  | 10 => ("HopNet$Net", "pollsInRow", "I", false)
  | 11 => ("HopNet$Net", "castCount", "I", false)
  | 12 => ("HopNet$Net", "castBit", "I", false)
  | 13 => ("HopNet$Net", "firstCastSent", "I", false)
  | 14 => ("HopNet$Net", "isCasting", "Z", false)
  | 15 => ("HopNet$Net", "chosen", "I", false)
  | 16 => ("HopNet$Net", "hopInSlot", "I", false)
  | 17 => ("HopNet$Net", "channelInSlot", "I", false)
  | 18 => ("HopNet$Net", "masterSentOn", "I", false)
  | _ => ("HopNet$Net", "packetHeard", "Z", false)
def tyX2 : Nat → FieldType := fun k => match k with
  | 0 => .object "HopNet$Plan"
  | 1 => .array .int
  | 2 => .array .int
  | 3 => .array .int
  | 4 => .array (.object "HopNet$Link")
  | 5 => .int
  | 6 => .int
  | 7 => .int
  | 8 => .int
  | 9 => .int
  | 10 => .int
  | 11 => .int
  | 12 => .int
  | 13 => .int
  | 14 => .boolean
  | 15 => .int
  | 16 => .int
  | 17 => .int
  | 18 => .int
  | _ => .boolean
abbrev wsX20 : List Cond := u_ws RX2 TX2 20
theorem nmX2 : ∀ a, a < 20 → ∀ b, b < 20 → a ≠ b → (TX2 a).2.1 ≠ (TX2 b).2.1 := by decide +kernel
theorem tyX2_ok : ∀ k, k < 20 → parseFieldDescriptor (TX2 k).2.2.1 = some (tyX2 k) := by decide +kernel
abbrev cX2_init : ByteArray := prog_4_method_1_code
def yX2_init : MethodName := ⟨RX2, "<init>", "()V"⟩
abbrev cX2_copyFrom : ByteArray := prog_4_method_2_code
def yX2_copyFrom : MethodName := ⟨RX2, "copyFrom", "(LHopNet$Net;)V"⟩
abbrev cX2_linkAt : ByteArray := prog_4_method_3_code
def yX2_linkAt : MethodName := ⟨RX2, "linkAt", "(I)LHopNet$Link;"⟩
abbrev cX2_linkOfRadio : ByteArray := prog_4_method_4_code
def yX2_linkOfRadio : MethodName := ⟨RX2, "linkOfRadio", "(I)LHopNet$Link;"⟩
abbrev cX2_holds : ByteArray := prog_4_method_5_code
def yX2_holds : MethodName := ⟨RX2, "holds", "(I)Z"⟩
abbrev cX2_addMember : ByteArray := prog_4_method_6_code
def yX2_addMember : MethodName := ⟨RX2, "addMember", "(II)V"⟩
abbrev cX2_removeMember : ByteArray := prog_4_method_7_code
def yX2_removeMember : MethodName := ⟨RX2, "removeMember", "(I)V"⟩
abbrev cX2_tellMap : ByteArray := prog_4_method_8_code
def yX2_tellMap : MethodName := ⟨RX2, "tellMap", "(II)V"⟩
abbrev cX2_badChannels : ByteArray := prog_4_method_9_code
def yX2_badChannels : MethodName := ⟨RX2, "badChannels", "(I)I"⟩
abbrev cX2_mostAnswered : ByteArray := prog_4_method_10_code
def yX2_mostAnswered : MethodName := ⟨RX2, "mostAnswered", "()I"⟩
abbrev cX2_rankOf : ByteArray := prog_4_method_11_code
def yX2_rankOf : MethodName := ⟨RX2, "rankOf", "(I)I"⟩
abbrev cX2_firstWithOpenFrame : ByteArray := prog_4_method_12_code
def yX2_firstWithOpenFrame : MethodName := ⟨RX2, "firstWithOpenFrame", "()I"⟩
abbrev cX2_firstNotKnown : ByteArray := prog_4_method_13_code
def yX2_firstNotKnown : MethodName := ⟨RX2, "firstNotKnown", "()I"⟩
abbrev cX2_nextPolled : ByteArray := prog_4_method_14_code
def yX2_nextPolled : MethodName := ⟨RX2, "nextPolled", "()I"⟩
abbrev cX2_tallySent : ByteArray := prog_4_method_15_code
def yX2_tallySent : MethodName := ⟨RX2, "tallySent", "()V"⟩
abbrev cX2_tallyAnswered : ByteArray := prog_4_method_16_code
def yX2_tallyAnswered : MethodName := ⟨RX2, "tallyAnswered", "()V"⟩
abbrev cX2_endCastTurn : ByteArray := prog_4_method_17_code
def yX2_endCastTurn : MethodName := ⟨RX2, "endCastTurn", "(I)V"⟩
abbrev cX2_dropFirstCast : ByteArray := prog_4_method_18_code
def yX2_dropFirstCast : MethodName := ⟨RX2, "dropFirstCast", "()V"⟩
def RX3 : String := "HopNet$Plan"
def TX3 : u_T := fun k => match k with
  | 0 => ("HopNet$Plan", "map", "I", false)
  | 1 => ("HopNet$Plan", "next", "I", false)
  | _ => ("HopNet$Plan", "instant", "I", false)
def tyX3 : Nat → FieldType := fun k => match k with
  | 0 => .int
  | 1 => .int
  | _ => .int
abbrev wsX30 : List Cond := u_ws RX3 TX3 3
theorem nmX3 : ∀ a, a < 3 → ∀ b, b < 3 → a ≠ b → (TX3 a).2.1 ≠ (TX3 b).2.1 := by decide +kernel
theorem tyX3_ok : ∀ k, k < 3 → parseFieldDescriptor (TX3 k).2.2.1 = some (tyX3 k) := by decide +kernel
abbrev cX3_init : ByteArray := prog_5_method_1_code
def yX3_init : MethodName := ⟨RX3, "<init>", "()V"⟩
abbrev cX3_copyFrom : ByteArray := prog_5_method_2_code
def yX3_copyFrom : MethodName := ⟨RX3, "copyFrom", "(LHopNet$Plan;)V"⟩
abbrev cX3_hasNext : ByteArray := prog_5_method_3_code
def yX3_hasNext : MethodName := ⟨RX3, "hasNext", "()Z"⟩
abbrev cX3_expect : ByteArray := prog_5_method_4_code
def yX3_expect : MethodName := ⟨RX3, "expect", "(II)V"⟩
abbrev cX3_takeAtOnce : ByteArray := prog_5_method_5_code
def yX3_takeAtOnce : MethodName := ⟨RX3, "takeAtOnce", "(I)V"⟩
abbrev cX3_changesAt : ByteArray := prog_5_method_6_code
def yX3_changesAt : MethodName := ⟨RX3, "changesAt", "(I)Z"⟩
abbrev cX3_isLike : ByteArray := prog_5_method_7_code
def yX3_isLike : MethodName := ⟨RX3, "isLike", "(LHopNet$Plan;)Z"⟩
def RX4 : String := "HopNet$Row"
def TX4 : u_T := fun k => match k with
  | 0 => ("HopNet$Row", "numbers", "[I", true)
  | 1 => ("HopNet$Row", "since", "[I", true)
  | 2 => ("HopNet$Row", "size", "I", false)
  | 3 => ("HopNet$Row", "sendBit", "I", false)
  | 4 => ("HopNet$Row", "heardBit", "I", false)
  | 5 => ("HopNet$Row", "heard", "I", false)
  | 6 => ("HopNet$Row", "hash", "I", false)
  | _ => ("HopNet$Row", "greatestLag", "I", false)
def tyX4 : Nat → FieldType := fun k => match k with
  | 0 => .array .int
  | 1 => .array .int
  | 2 => .int
  | 3 => .int
  | 4 => .int
  | 5 => .int
  | 6 => .int
  | _ => .int
abbrev wsX40 : List Cond := u_ws RX4 TX4 8
theorem nmX4 : ∀ a, a < 8 → ∀ b, b < 8 → a ≠ b → (TX4 a).2.1 ≠ (TX4 b).2.1 := by decide +kernel
theorem tyX4_ok : ∀ k, k < 8 → parseFieldDescriptor (TX4 k).2.2.1 = some (tyX4 k) := by decide +kernel
abbrev cX4_init : ByteArray := prog_6_method_1_code
def yX4_init : MethodName := ⟨RX4, "<init>", "()V"⟩
abbrev cX4_begin : ByteArray := prog_6_method_2_code
def yX4_begin : MethodName := ⟨RX4, "begin", "()V"⟩
abbrev cX4_copyFrom : ByteArray := prog_6_method_3_code
def yX4_copyFrom : MethodName := ⟨RX4, "copyFrom", "(LHopNet$Row;)V"⟩
abbrev cX4_isFull : ByteArray := prog_6_method_4_code
def yX4_isFull : MethodName := ⟨RX4, "isFull", "()Z"⟩
abbrev cX4_append : ByteArray := prog_6_method_5_code
def yX4_append : MethodName := ⟨RX4, "append", "(II)V"⟩
abbrev cX4_hearFirst : ByteArray := prog_6_method_6_code
def yX4_hearFirst : MethodName := ⟨RX4, "hearFirst", "()Z"⟩
abbrev cX4_takeFirst : ByteArray := prog_6_method_7_code
def yX4_takeFirst : MethodName := ⟨RX4, "takeFirst", "(I)V"⟩
def RX5 : String := "HopNet$World"
def TX5 : u_T := fun k => match k with
  | 0 => ("HopNet$World", "addresses", "[I", true)
  | 1 => ("HopNet$World", "noises", "[I", true)
  | 2 => ("HopNet$World", "tallies", "[I", true)
  | 3 => ("HopNet$World", "nets", "[LHopNet$Net;", true)
  | 4 => ("HopNet$World", "radioCount", "I", false)
  | 5 => ("HopNet$World", "time", "I", false)
  | 6 => ("HopNet$World", "seed", "I", false)
  | 7 => ("HopNet$World", "share", "I", false)
  | 8 => ("HopNet$World", "repeats", "I", false)
  | _ => ("HopNet$World", "heardNow", "I", false)
def tyX5 : Nat → FieldType := fun k => match k with
  | 0 => .array .int
  | 1 => .array .int
  | 2 => .array .int
  | 3 => .array (.object "HopNet$Net")
  | 4 => .int
  | 5 => .int
  | 6 => .int
  | 7 => .int
  | 8 => .int
  | _ => .int
abbrev wsX50 : List Cond := u_ws RX5 TX5 10
theorem nmX5 : ∀ a, a < 10 → ∀ b, b < 10 → a ≠ b → (TX5 a).2.1 ≠ (TX5 b).2.1 := by decide +kernel
theorem tyX5_ok : ∀ k, k < 10 → parseFieldDescriptor (TX5 k).2.2.1 = some (tyX5 k) := by decide +kernel
abbrev cX5_init : ByteArray := prog_7_method_1_code
def yX5_init : MethodName := ⟨RX5, "<init>", "()V"⟩
abbrev cX5_copyFrom : ByteArray := prog_7_method_2_code
def yX5_copyFrom : MethodName := ⟨RX5, "copyFrom", "(LHopNet$World;)V"⟩
abbrev cX5_hasRadio : ByteArray := prog_7_method_3_code
def yX5_hasRadio : MethodName := ⟨RX5, "hasRadio", "(I)Z"⟩
abbrev cX5_netAt : ByteArray := prog_7_method_4_code
def yX5_netAt : MethodName := ⟨RX5, "netAt", "(I)LHopNet$Net;"⟩
abbrev cX5_linkAt : ByteArray := prog_7_method_5_code
def yX5_linkAt : MethodName := ⟨RX5, "linkAt", "(II)LHopNet$Link;"⟩
abbrev cX5_hasBothNets : ByteArray := prog_7_method_6_code
def yX5_hasBothNets : MethodName := ⟨RX5, "hasBothNets", "()Z"⟩
abbrev cX5_isPresent : ByteArray := prog_7_method_7_code
def yX5_isPresent : MethodName := ⟨RX5, "isPresent", "(III)Z"⟩
abbrev cX5_isReadyAt : ByteArray := prog_7_method_8_code
def yX5_isReadyAt : MethodName := ⟨RX5, "isReadyAt", "(ILHopNet$Link;I)Z"⟩
abbrev cX5_addressOf : ByteArray := prog_7_method_9_code
def yX5_addressOf : MethodName := ⟨RX5, "addressOf", "(I)I"⟩
abbrev cX5_hopIn : ByteArray := prog_7_method_10_code
def yX5_hopIn : MethodName := ⟨RX5, "hopIn", "(II)I"⟩
abbrev cX5_channelBy : ByteArray := prog_7_method_11_code
def yX5_channelBy : MethodName := ⟨RX5, "channelBy", "(III)I"⟩
abbrev cX5_mastersMeet : ByteArray := prog_7_method_12_code
def yX5_mastersMeet : MethodName := ⟨RX5, "mastersMeet", "(I)Z"⟩
abbrev cX5_clearOf : ByteArray := prog_7_method_13_code
def yX5_clearOf : MethodName := ⟨RX5, "clearOf", "(ILHopNet$Link;I)I"⟩
abbrev cX5_noiseOn : ByteArray := prog_7_method_14_code
def yX5_noiseOn : MethodName := ⟨RX5, "noiseOn", "(I)I"⟩
abbrev cX5_framesMissed : ByteArray := prog_7_method_15_code
def yX5_framesMissed : MethodName := ⟨RX5, "framesMissed", "()I"⟩
abbrev cX5_linksOfOtherMap : ByteArray := prog_7_method_16_code
def yX5_linksOfOtherMap : MethodName := ⟨RX5, "linksOfOtherMap", "()I"⟩
abbrev cX5_heardOfAll : ByteArray := prog_7_method_17_code
def yX5_heardOfAll : MethodName := ⟨RX5, "heardOfAll", "()I"⟩
abbrev cX5_heardInTurns : ByteArray := prog_7_method_18_code
def yX5_heardInTurns : MethodName := ⟨RX5, "heardInTurns", "(I)I"⟩
abbrev cX5_goOneTurn : ByteArray := prog_7_method_19_code
def yX5_goOneTurn : MethodName := ⟨RX5, "goOneTurn", "()V"⟩
abbrev cX5_changeMaps : ByteArray := prog_7_method_20_code
def yX5_changeMaps : MethodName := ⟨RX5, "changeMaps", "(LHopNet$Net;)V"⟩
abbrev cX5_beginTurnOfLinks : ByteArray := prog_7_method_21_code
def yX5_beginTurnOfLinks : MethodName := ⟨RX5, "beginTurnOfLinks", "(I)V"⟩
abbrev cX5_endTurnOfLinks : ByteArray := prog_7_method_22_code
def yX5_endTurnOfLinks : MethodName := ⟨RX5, "endTurnOfLinks", "(LHopNet$Net;)V"⟩
abbrev cX5_chooseIn : ByteArray := prog_7_method_23_code
def yX5_chooseIn : MethodName := ⟨RX5, "chooseIn", "(I)V"⟩
abbrev cX5_draw : ByteArray := prog_7_method_24_code
def yX5_draw : MethodName := ⟨RX5, "draw", "()I"⟩
abbrev cX5_lossOnAir : ByteArray := prog_7_method_25_code
def yX5_lossOnAir : MethodName := ⟨RX5, "lossOnAir", "(I)I"⟩
abbrev cX5_tunePacket : ByteArray := prog_7_method_26_code
def yX5_tunePacket : MethodName := ⟨RX5, "tunePacket", "(I)V"⟩
abbrev cX5_sendPacket : ByteArray := prog_7_method_27_code
def yX5_sendPacket : MethodName := ⟨RX5, "sendPacket", "(I)V"⟩
abbrev cX5_hearPacket : ByteArray := prog_7_method_28_code
def yX5_hearPacket : MethodName := ⟨RX5, "hearPacket", "(I)V"⟩
abbrev cX5_passOn : ByteArray := prog_7_method_29_code
def yX5_passOn : MethodName := ⟨RX5, "passOn", "(ILHopNet$Link;)V"⟩
abbrev cX5_tuneAnswer : ByteArray := prog_7_method_30_code
def yX5_tuneAnswer : MethodName := ⟨RX5, "tuneAnswer", "(I)V"⟩
abbrev cX5_sendAnswer : ByteArray := prog_7_method_31_code
def yX5_sendAnswer : MethodName := ⟨RX5, "sendAnswer", "(I)V"⟩
abbrev cX5_hearAnswer : ByteArray := prog_7_method_32_code
def yX5_hearAnswer : MethodName := ⟨RX5, "hearAnswer", "(LHopNet$Net;LHopNet$Link;)V"⟩
def RX6 : String := "HopNet"
def TX6 : u_T := fun k => match k with
  | 0 => ("HopNet", "world", "LHopNet$World;", true)
  | 1 => ("HopNet", "paper", "LHopNet$World;", true)
  | 2 => ("HopNet", "images", "[LHopNet$World;", true)
  | 3 => ("HopNet", "imageKept", "[Z", true)
  | 4 => ("HopNet", "past", "[LHopNet$World;", true)
  | 5 => ("HopNet", "pastActs", "[I", true)
  | 6 => ("HopNet", "pastNext", "I", false)
  | 7 => ("HopNet", "pastCount", "I", false)
  | 8 => ("HopNet", "refusals", "[I", true)
  | 9 => ("HopNet", "latestRefusal", "I", false)
  | 10 => ("HopNet", "hopsOfFirst", "[I", true)
  | _ => ("HopNet", "hopsOfSecond", "[I", true)
def tyX6 : Nat → FieldType := fun k => match k with
  | 0 => .object "HopNet$World"
  | 1 => .object "HopNet$World"
  | 2 => .array (.object "HopNet$World")
  | 3 => .array .boolean
  | 4 => .array (.object "HopNet$World")
  | 5 => .array .int
  | 6 => .int
  | 7 => .int
  | 8 => .array .int
  | 9 => .int
  | 10 => .array .int
  | _ => .array .int
abbrev wsX60 : List Cond := u_ws RX6 TX6 12
theorem nmX6 : ∀ a, a < 12 → ∀ b, b < 12 → a ≠ b → (TX6 a).2.1 ≠ (TX6 b).2.1 := by decide +kernel
theorem tyX6_ok : ∀ k, k < 12 → parseFieldDescriptor (TX6 k).2.2.1 = some (tyX6 k) := by decide +kernel
abbrev cX6_init : ByteArray := prog_1_method_1_code
def yX6_init : MethodName := ⟨RX6, "<init>", "()V"⟩
abbrev cX6_radio : ByteArray := prog_1_method_2_code
def yX6_radio : MethodName := ⟨RX6, "radio", "(I)I"⟩
abbrev cX6_net : ByteArray := prog_1_method_3_code
def yX6_net : MethodName := ⟨RX6, "net", "(III)I"⟩
abbrev cX6_join : ByteArray := prog_1_method_4_code
def yX6_join : MethodName := ⟨RX6, "join", "(II)I"⟩
abbrev cX6_leave : ByteArray := prog_1_method_5_code
def yX6_leave : MethodName := ⟨RX6, "leave", "(II)I"⟩
abbrev cX6_noise : ByteArray := prog_1_method_6_code
def yX6_noise : MethodName := ⟨RX6, "noise", "(II)I"⟩
abbrev cX6_terms : ByteArray := prog_1_method_7_code
def yX6_terms : MethodName := ⟨RX6, "terms", "(II)I"⟩
abbrev cX6_put : ByteArray := prog_1_method_8_code
def yX6_put : MethodName := ⟨RX6, "put", "(IIII)I"⟩
abbrev cX6_reserve : ByteArray := prog_1_method_9_code
def yX6_reserve : MethodName := ⟨RX6, "reserve", "(IIIII)I"⟩
abbrev cX6_sniff : ByteArray := prog_1_method_10_code
def yX6_sniff : MethodName := ⟨RX6, "sniff", "(IIII)I"⟩
abbrev cX6_weigh : ByteArray := prog_1_method_11_code
def yX6_weigh : MethodName := ⟨RX6, "weigh", "(III)I"⟩
abbrev cX6_cast : ByteArray := prog_1_method_12_code
def yX6_cast : MethodName := ⟨RX6, "cast", "(II)I"⟩
abbrev cX6_map : ByteArray := prog_1_method_13_code
def yX6_map : MethodName := ⟨RX6, "map", "(III)I"⟩
abbrev cX6_adapt : ByteArray := prog_1_method_14_code
def yX6_adapt : MethodName := ⟨RX6, "adapt", "(III)I"⟩
abbrev cX6_run : ByteArray := prog_1_method_15_code
def yX6_run : MethodName := ⟨RX6, "run", "(I)I"⟩
abbrev cX6_undo : ByteArray := prog_1_method_16_code
def yX6_undo : MethodName := ⟨RX6, "undo", "()I"⟩
abbrev cX6_image : ByteArray := prog_1_method_17_code
def yX6_image : MethodName := ⟨RX6, "image", "(I)I"⟩
abbrev cX6_back : ByteArray := prog_1_method_18_code
def yX6_back : MethodName := ⟨RX6, "back", "(I)I"⟩
abbrev cX6_kernel : ByteArray := prog_1_method_19_code
def yX6_kernel : MethodName := ⟨RX6, "kernel", "(II)I"⟩
abbrev cX6_hop : ByteArray := prog_1_method_20_code
def yX6_hop : MethodName := ⟨RX6, "hop", "(III)I"⟩
abbrev cX6_alike : ByteArray := prog_1_method_21_code
def yX6_alike : MethodName := ⟨RX6, "alike", "(III)I"⟩
abbrev cX6_mapOf : ByteArray := prog_1_method_22_code
def yX6_mapOf : MethodName := ⟨RX6, "mapOf", "(III)I"⟩
abbrev cX6_meets : ByteArray := prog_1_method_23_code
def yX6_meets : MethodName := ⟨RX6, "meets", "()I"⟩
abbrev cX6_used : ByteArray := prog_1_method_24_code
def yX6_used : MethodName := ⟨RX6, "used", "(III)I"⟩
abbrev cX6_bad : ByteArray := prog_1_method_25_code
def yX6_bad : MethodName := ⟨RX6, "bad", "(II)I"⟩
abbrev cX6_sent : ByteArray := prog_1_method_26_code
def yX6_sent : MethodName := ⟨RX6, "sent", "(III)I"⟩
abbrev cX6_link : ByteArray := prog_1_method_27_code
def yX6_link : MethodName := ⟨RX6, "link", "(III)I"⟩
abbrev cX6_hash : ByteArray := prog_1_method_28_code
def yX6_hash : MethodName := ⟨RX6, "hash", "(III)I"⟩
abbrev cX6_reserved : ByteArray := prog_1_method_29_code
def yX6_reserved : MethodName := ⟨RX6, "reserved", "(III)I"⟩
abbrev cX6_isThere : ByteArray := prog_1_method_30_code
def yX6_isThere : MethodName := ⟨RX6, "isThere", "(III)I"⟩
abbrev cX6_odds : ByteArray := prog_1_method_31_code
def yX6_odds : MethodName := ⟨RX6, "odds", "(IIII)I"⟩
abbrev cX6_clashes : ByteArray := prog_1_method_32_code
def yX6_clashes : MethodName := ⟨RX6, "clashes", "(I)I"⟩
abbrev cX6_bestOffset : ByteArray := prog_1_method_33_code
def yX6_bestOffset : MethodName := ⟨RX6, "bestOffset", "(I)I"⟩
abbrev cX6_drain : ByteArray := prog_1_method_34_code
def yX6_drain : MethodName := ⟨RX6, "drain", "(II)I"⟩
abbrev cX6_would : ByteArray := prog_1_method_35_code
def yX6_would : MethodName := ⟨RX6, "would", "(III)I"⟩
abbrev cX6_ready : ByteArray := prog_1_method_36_code
def yX6_ready : MethodName := ⟨RX6, "ready", "(II)I"⟩
abbrev cX6_bothReady : ByteArray := prog_1_method_37_code
def yX6_bothReady : MethodName := ⟨RX6, "bothReady", "(IIII)I"⟩
abbrev cX6_ahead : ByteArray := prog_1_method_38_code
def yX6_ahead : MethodName := ⟨RX6, "ahead", "(II)I"⟩
abbrev cX6_together : ByteArray := prog_1_method_39_code
def yX6_together : MethodName := ⟨RX6, "together", "(III)I"⟩
abbrev cX6_ranked : ByteArray := prog_1_method_40_code
def yX6_ranked : MethodName := ⟨RX6, "ranked", "(II)I"⟩
abbrev cX6_quiet : ByteArray := prog_1_method_41_code
def yX6_quiet : MethodName := ⟨RX6, "quiet", "(II)I"⟩
abbrev cX6_bestShare : ByteArray := prog_1_method_42_code
def yX6_bestShare : MethodName := ⟨RX6, "bestShare", "(I)I"⟩
abbrev cX6_ofNet : ByteArray := prog_1_method_43_code
def yX6_ofNet : MethodName := ⟨RX6, "ofNet", "(II)I"⟩
abbrev cX6_count : ByteArray := prog_1_method_44_code
def yX6_count : MethodName := ⟨RX6, "count", "(I)I"⟩
abbrev cX6_status : ByteArray := prog_1_method_45_code
def yX6_status : MethodName := ⟨RX6, "status", "()I"⟩
abbrev cX6_refuse : ByteArray := prog_1_method_46_code
def yX6_refuse : MethodName := ⟨RX6, "refuse", "(I)I"⟩
abbrev cX6_accept : ByteArray := prog_1_method_47_code
def yX6_accept : MethodName := ⟨RX6, "accept", "(I)I"⟩
abbrev cX6_keepForUndo : ByteArray := prog_1_method_48_code
def yX6_keepForUndo : MethodName := ⟨RX6, "keepForUndo", "(I)V"⟩
abbrev cX6_tellMap : ByteArray := prog_1_method_49_code
def yX6_tellMap : MethodName := ⟨RX6, "tellMap", "(LHopNet$Net;II)I"⟩
abbrev cX6_hasTimeFor : ByteArray := prog_1_method_50_code
def yX6_hasTimeFor : MethodName := ⟨RX6, "hasTimeFor", "(I)Z"⟩
abbrev cX6_paperWith : ByteArray := prog_1_method_51_code
def yX6_paperWith : MethodName := ⟨RX6, "paperWith", "(I)LHopNet$World;"⟩
abbrev cX6_planOf : ByteArray := prog_1_method_52_code
def yX6_planOf : MethodName := ⟨RX6, "planOf", "(II)LHopNet$Plan;"⟩
abbrev cX6_noteHops : ByteArray := prog_1_method_53_code
def yX6_noteHops : MethodName := ⟨RX6, "noteHops", "(I)V"⟩
abbrev cX6_clashesAt : ByteArray := prog_1_method_54_code
def yX6_clashesAt : MethodName := ⟨RX6, "clashesAt", "(II)I"⟩
abbrev cX6_isWithin : ByteArray := prog_1_method_55_code
def yX6_isWithin : MethodName := ⟨RX6, "isWithin", "(III)Z"⟩
abbrev cX6_isEvenWithin : ByteArray := prog_1_method_56_code
def yX6_isEvenWithin : MethodName := ⟨RX6, "isEvenWithin", "(III)Z"⟩
abbrev cX6_isTerm : ByteArray := prog_1_method_57_code
def yX6_isTerm : MethodName := ⟨RX6, "isTerm", "(II)Z"⟩
abbrev cX6_isMap : ByteArray := prog_1_method_58_code
def yX6_isMap : MethodName := ⟨RX6, "isMap", "(I)Z"⟩
abbrev cX6_bit : ByteArray := prog_1_method_59_code
def yX6_bit : MethodName := ⟨RX6, "bit", "(Z)I"⟩
abbrev cX6_greatestDivisor : ByteArray := prog_1_method_60_code
def yX6_greatestDivisor : MethodName := ⟨RX6, "greatestDivisor", "(II)I"⟩
abbrev cX6_hopOf : ByteArray := prog_1_method_61_code
def yX6_hopOf : MethodName := ⟨RX6, "hopOf", "(II)I"⟩
abbrev cX6_byMap : ByteArray := prog_1_method_62_code
def yX6_byMap : MethodName := ⟨RX6, "byMap", "(II)I"⟩
def RX7 : String := "HopNetModel"
def TX7 : u_T := fun k => match k with
  | 0 => ("HopNetModel", "thrown", "I", false)
  | 1 => ("HopNetModel", "status", "I", false)
  | 2 => ("HopNetModel", "refusals", "[I", true)
  | 3 => ("HopNetModel", "row", "[I", true)
  | 4 => ("HopNetModel", "undos", "[I", true)
  | 5 => ("HopNetModel", "sorts", "[I", true)
  | 6 => ("HopNetModel", "nUndo", "I", false)
  | 7 => ("HopNetModel", "images", "[I", true)
  | 8 => ("HopNetModel", "isKept", "[Z", true)
  | 9 => ("HopNetModel", "ahead", "[I", true)
  | 10 => ("HopNetModel", "chosen", "[I", true)
  | 11 => ("HopNetModel", "channel", "[I", true)
  | 12 => ("HopNetModel", "firstChannel", "[I", true)
  | 13 => ("HopNetModel", "sentNumber", "[Z", true)
  | 14 => ("HopNetModel", "sentMap", "[Z", true)
  | 15 => ("HopNetModel", "isHeard", "[Z", true)
  | 16 => ("HopNetModel", "heardMany", "I", false)
  | _ => ("HopNetModel", "missedMany", "I", false)
def tyX7 : Nat → FieldType := fun k => match k with
  | 0 => .int
  | 1 => .int
  | 2 => .array .int
  | 3 => .array .int
  | 4 => .array .int
  | 5 => .array .int
  | 6 => .int
  | 7 => .array .int
  | 8 => .array .boolean
  | 9 => .array .int
  | 10 => .array .int
  | 11 => .array .int
  | 12 => .array .int
  | 13 => .array .boolean
  | 14 => .array .boolean
  | 15 => .array .boolean
  | 16 => .int
  | _ => .int
abbrev wsX70 : List Cond := u_ws RX7 TX7 18
theorem nmX7 : ∀ a, a < 18 → ∀ b, b < 18 → a ≠ b → (TX7 a).2.1 ≠ (TX7 b).2.1 := by decide +kernel
theorem tyX7_ok : ∀ k, k < 18 → parseFieldDescriptor (TX7 k).2.2.1 = some (tyX7 k) := by decide +kernel
abbrev cX7_init : ByteArray := prog_9_method_1_code
def yX7_init : MethodName := ⟨RX7, "<init>", "()V"⟩
abbrev cX7_in : ByteArray := prog_9_method_3_code
def yX7_in : MethodName := ⟨RX7, "in", "(JJJ)Z"⟩
abbrev cX7_bits : ByteArray := prog_9_method_4_code
def yX7_bits : MethodName := ⟨RX7, "bits", "(I)I"⟩
abbrev cX7_tell : ByteArray := prog_9_method_5_code
def yX7_tell : MethodName := ⟨RX7, "tell", "(I)I"⟩
abbrev cX7_refuse : ByteArray := prog_9_method_6_code
def yX7_refuse : MethodName := ⟨RX7, "refuse", "(I)I"⟩
abbrev cX7_copy : ByteArray := prog_9_method_7_code
def yX7_copy : MethodName := ⟨RX7, "copy", "([II[II)V"⟩
abbrev cX7_remember : ByteArray := prog_9_method_8_code
def yX7_remember : MethodName := ⟨RX7, "remember", "(I)V"⟩
abbrev cX7_undo : ByteArray := prog_9_method_9_code
def yX7_undo : MethodName := ⟨RX7, "undo", "()I"⟩
abbrev cX7_image : ByteArray := prog_9_method_10_code
def yX7_image : MethodName := ⟨RX7, "image", "(I)I"⟩
abbrev cX7_back : ByteArray := prog_9_method_11_code
def yX7_back : MethodName := ⟨RX7, "back", "(I)I"⟩
abbrev cX7_netAt : ByteArray := prog_9_method_12_code
def yX7_netAt : MethodName := ⟨RX7, "netAt", "(I)I"⟩
abbrev cX7_linkAt : ByteArray := prog_9_method_13_code
def yX7_linkAt : MethodName := ⟨RX7, "linkAt", "(II)I"⟩
abbrev cX7_isRadio : ByteArray := prog_9_method_14_code
def yX7_isRadio : MethodName := ⟨RX7, "isRadio", "(I)Z"⟩
abbrev cX7_isNet : ByteArray := prog_9_method_15_code
def yX7_isNet : MethodName := ⟨RX7, "isNet", "(I)Z"⟩
abbrev cX7_isLink : ByteArray := prog_9_method_16_code
def yX7_isLink : MethodName := ⟨RX7, "isLink", "(II)Z"⟩
abbrev cX7_isIn : ByteArray := prog_9_method_17_code
def yX7_isIn : MethodName := ⟨RX7, "isIn", "(II)Z"⟩
abbrev cX7_isHere : ByteArray := prog_9_method_18_code
def yX7_isHere : MethodName := ⟨RX7, "isHere", "(III)Z"⟩
abbrev cX7_kernelOf : ByteArray := prog_9_method_19_code
def yX7_kernelOf : MethodName := ⟨RX7, "kernelOf", "(II)I"⟩
abbrev cX7_byMap : ByteArray := prog_9_method_20_code
def yX7_byMap : MethodName := ⟨RX7, "byMap", "(II)I"⟩
abbrev cX7_hopOf : ByteArray := prog_9_method_21_code
def yX7_hopOf : MethodName := ⟨RX7, "hopOf", "(III)I"⟩
abbrev cX7_kernel : ByteArray := prog_9_method_22_code
def yX7_kernel : MethodName := ⟨RX7, "kernel", "(II)I"⟩
abbrev cX7_mapHeld : ByteArray := prog_9_method_23_code
def yX7_mapHeld : MethodName := ⟨RX7, "mapHeld", "(II)I"⟩
abbrev cX7_hop : ByteArray := prog_9_method_24_code
def yX7_hop : MethodName := ⟨RX7, "hop", "(III)I"⟩
abbrev cX7_radio : ByteArray := prog_9_method_25_code
def yX7_radio : MethodName := ⟨RX7, "radio", "(I)I"⟩
abbrev cX7_net : ByteArray := prog_9_method_26_code
def yX7_net : MethodName := ⟨RX7, "net", "(III)I"⟩
abbrev cX7_join : ByteArray := prog_9_method_27_code
def yX7_join : MethodName := ⟨RX7, "join", "(II)I"⟩
abbrev cX7_leave : ByteArray := prog_9_method_28_code
def yX7_leave : MethodName := ⟨RX7, "leave", "(II)I"⟩
abbrev cX7_noise : ByteArray := prog_9_method_29_code
def yX7_noise : MethodName := ⟨RX7, "noise", "(II)I"⟩
abbrev cX7_isShare : ByteArray := prog_9_method_30_code
def yX7_isShare : MethodName := ⟨RX7, "isShare", "(I)Z"⟩
abbrev cX7_terms : ByteArray := prog_9_method_31_code
def yX7_terms : MethodName := ⟨RX7, "terms", "(II)I"⟩
abbrev cX7_put : ByteArray := prog_9_method_32_code
def yX7_put : MethodName := ⟨RX7, "put", "(IIII)I"⟩
abbrev cX7_comes : ByteArray := prog_9_method_33_code
def yX7_comes : MethodName := ⟨RX7, "comes", "(IIII)V"⟩
abbrev cX7_sniff : ByteArray := prog_9_method_34_code
def yX7_sniff : MethodName := ⟨RX7, "sniff", "(IIII)I"⟩
abbrev cX7_weigh : ByteArray := prog_9_method_35_code
def yX7_weigh : MethodName := ⟨RX7, "weigh", "(III)I"⟩
abbrev cX7_cast : ByteArray := prog_9_method_36_code
def yX7_cast : MethodName := ⟨RX7, "cast", "(II)I"⟩
abbrev cX7_isEven : ByteArray := prog_9_method_37_code
def yX7_isEven : MethodName := ⟨RX7, "isEven", "(III)Z"⟩
abbrev cX7_reserve : ByteArray := prog_9_method_38_code
def yX7_reserve : MethodName := ⟨RX7, "reserve", "(IIIII)I"⟩
abbrev cX7_tellMap : ByteArray := prog_9_method_39_code
def yX7_tellMap : MethodName := ⟨RX7, "tellMap", "(III)I"⟩
abbrev cX7_map : ByteArray := prog_9_method_40_code
def yX7_map : MethodName := ⟨RX7, "map", "(III)I"⟩
abbrev cX7_badOf : ByteArray := prog_9_method_41_code
def yX7_badOf : MethodName := ⟨RX7, "badOf", "(II)I"⟩
abbrev cX7_aheadOf : ByteArray := prog_9_method_42_code
def yX7_aheadOf : MethodName := ⟨RX7, "aheadOf", "(II)I"⟩
abbrev cX7_adapt : ByteArray := prog_9_method_43_code
def yX7_adapt : MethodName := ⟨RX7, "adapt", "(III)I"⟩
abbrev cX7_draw : ByteArray := prog_9_method_44_code
def yX7_draw : MethodName := ⟨RX7, "draw", "()I"⟩
abbrev cX7_mapsBecome : ByteArray := prog_9_method_45_code
def yX7_mapsBecome : MethodName := ⟨RX7, "mapsBecome", "(IIII)V"⟩
abbrev cX7_framesCome : ByteArray := prog_9_method_46_code
def yX7_framesCome : MethodName := ⟨RX7, "framesCome", "(I)V"⟩
abbrev cX7_isReady : ByteArray := prog_9_method_47_code
def yX7_isReady : MethodName := ⟨RX7, "isReady", "(III)Z"⟩
abbrev cX7_isLinkHere : ByteArray := prog_9_method_48_code
def yX7_isLinkHere : MethodName := ⟨RX7, "isLinkHere", "(II)Z"⟩
abbrev cX7_choose : ByteArray := prog_9_method_49_code
def yX7_choose : MethodName := ⟨RX7, "choose", "(I)I"⟩
abbrev cX7_whyNot : ByteArray := prog_9_method_50_code
def yX7_whyNot : MethodName := ⟨RX7, "whyNot", "(II)I"⟩
abbrev cX7_hears : ByteArray := prog_9_method_51_code
def yX7_hears : MethodName := ⟨RX7, "hears", "(IIII)V"⟩
abbrev cX7_passes : ByteArray := prog_9_method_52_code
def yX7_passes : MethodName := ⟨RX7, "passes", "(III)V"⟩
abbrev cX7_goes : ByteArray := prog_9_method_53_code
def yX7_goes : MethodName := ⟨RX7, "goes", "(III)V"⟩
abbrev cX7_sendsDown : ByteArray := prog_9_method_54_code
def yX7_sendsDown : MethodName := ⟨RX7, "sendsDown", "()V"⟩
abbrev cX7_mapFor : ByteArray := prog_9_method_55_code
def yX7_mapFor : MethodName := ⟨RX7, "mapFor", "(I)I"⟩
abbrev cX7_casts : ByteArray := prog_9_method_56_code
def yX7_casts : MethodName := ⟨RX7, "casts", "(I)V"⟩
abbrev cX7_memberHears : ByteArray := prog_9_method_57_code
def yX7_memberHears : MethodName := ⟨RX7, "memberHears", "(II)V"⟩
abbrev cX7_sendsUp : ByteArray := prog_9_method_58_code
def yX7_sendsUp : MethodName := ⟨RX7, "sendsUp", "()V"⟩
abbrev cX7_masterHears : ByteArray := prog_9_method_59_code
def yX7_masterHears : MethodName := ⟨RX7, "masterHears", "(II)V"⟩
abbrev cX7_turn : ByteArray := prog_9_method_60_code
def yX7_turn : MethodName := ⟨RX7, "turn", "()V"⟩
abbrev cX7_turnsBy : ByteArray := prog_9_method_61_code
def yX7_turnsBy : MethodName := ⟨RX7, "turnsBy", "(I)V"⟩
abbrev cX7_run : ByteArray := prog_9_method_62_code
def yX7_run : MethodName := ⟨RX7, "run", "(I)I"⟩
abbrev cX7_alike : ByteArray := prog_9_method_63_code
def yX7_alike : MethodName := ⟨RX7, "alike", "(III)I"⟩
abbrev cX7_mapOf : ByteArray := prog_9_method_64_code
def yX7_mapOf : MethodName := ⟨RX7, "mapOf", "(III)I"⟩
abbrev cX7_meets : ByteArray := prog_9_method_65_code
def yX7_meets : MethodName := ⟨RX7, "meets", "()I"⟩
abbrev cX7_used : ByteArray := prog_9_method_66_code
def yX7_used : MethodName := ⟨RX7, "used", "(III)I"⟩
abbrev cX7_bad : ByteArray := prog_9_method_67_code
def yX7_bad : MethodName := ⟨RX7, "bad", "(II)I"⟩
abbrev cX7_sent : ByteArray := prog_9_method_68_code
def yX7_sent : MethodName := ⟨RX7, "sent", "(III)I"⟩
abbrev cX7_link : ByteArray := prog_9_method_69_code
def yX7_link : MethodName := ⟨RX7, "link", "(III)I"⟩
abbrev cX7_hash : ByteArray := prog_9_method_70_code
def yX7_hash : MethodName := ⟨RX7, "hash", "(III)I"⟩
abbrev cX7_reserved : ByteArray := prog_9_method_71_code
def yX7_reserved : MethodName := ⟨RX7, "reserved", "(III)I"⟩
abbrev cX7_isThere : ByteArray := prog_9_method_72_code
def yX7_isThere : MethodName := ⟨RX7, "isThere", "(III)I"⟩
abbrev cX7_common : ByteArray := prog_9_method_73_code
def yX7_common : MethodName := ⟨RX7, "common", "(II)I"⟩
abbrev cX7_chance : ByteArray := prog_9_method_74_code
def yX7_chance : MethodName := ⟨RX7, "chance", "(III)I"⟩
abbrev cX7_odds : ByteArray := prog_9_method_75_code
def yX7_odds : MethodName := ⟨RX7, "odds", "(IIII)I"⟩
abbrev cX7_clashesBy : ByteArray := prog_9_method_76_code
def yX7_clashesBy : MethodName := ⟨RX7, "clashesBy", "(I)I"⟩
abbrev cX7_areBoth : ByteArray := prog_9_method_77_code
def yX7_areBoth : MethodName := ⟨RX7, "areBoth", "(I)Z"⟩
abbrev cX7_clashes : ByteArray := prog_9_method_78_code
def yX7_clashes : MethodName := ⟨RX7, "clashes", "(I)I"⟩
abbrev cX7_bestOffset : ByteArray := prog_9_method_79_code
def yX7_bestOffset : MethodName := ⟨RX7, "bestOffset", "(I)I"⟩
abbrev cX7_ready : ByteArray := prog_9_method_80_code
def yX7_ready : MethodName := ⟨RX7, "ready", "(II)I"⟩
abbrev cX7_bothReady : ByteArray := prog_9_method_81_code
def yX7_bothReady : MethodName := ⟨RX7, "bothReady", "(IIII)I"⟩
abbrev cX7_ahead : ByteArray := prog_9_method_82_code
def yX7_ahead : MethodName := ⟨RX7, "ahead", "(II)I"⟩
abbrev cX7_comesAt : ByteArray := prog_9_method_83_code
def yX7_comesAt : MethodName := ⟨RX7, "comesAt", "(II)Z"⟩
abbrev cX7_together : ByteArray := prog_9_method_84_code
def yX7_together : MethodName := ⟨RX7, "together", "(III)I"⟩
abbrev cX7_isAhead : ByteArray := prog_9_method_85_code
def yX7_isAhead : MethodName := ⟨RX7, "isAhead", "(III)Z"⟩
abbrev cX7_ranked : ByteArray := prog_9_method_86_code
def yX7_ranked : MethodName := ⟨RX7, "ranked", "(II)I"⟩
abbrev cX7_quiet : ByteArray := prog_9_method_87_code
def yX7_quiet : MethodName := ⟨RX7, "quiet", "(II)I"⟩
abbrev cX7_isEmpty : ByteArray := prog_9_method_88_code
def yX7_isEmpty : MethodName := ⟨RX7, "isEmpty", "(II)Z"⟩
abbrev cX7_drain : ByteArray := prog_9_method_89_code
def yX7_drain : MethodName := ⟨RX7, "drain", "(II)I"⟩
abbrev cX7_otherMaps : ByteArray := prog_9_method_90_code
def yX7_otherMaps : MethodName := ⟨RX7, "otherMaps", "()I"⟩
abbrev cX7_canTurn : ByteArray := prog_9_method_91_code
def yX7_canTurn : MethodName := ⟨RX7, "canTurn", "(I)Z"⟩
abbrev cX7_tries : ByteArray := prog_9_method_92_code
def yX7_tries : MethodName := ⟨RX7, "tries", "(III)I"⟩
abbrev cX7_would : ByteArray := prog_9_method_93_code
def yX7_would : MethodName := ⟨RX7, "would", "(III)I"⟩
abbrev cX7_bestShare : ByteArray := prog_9_method_94_code
def yX7_bestShare : MethodName := ⟨RX7, "bestShare", "(I)I"⟩
abbrev cX7_ofNet : ByteArray := prog_9_method_95_code
def yX7_ofNet : MethodName := ⟨RX7, "ofNet", "(II)I"⟩
abbrev cX7_heardOfAll : ByteArray := prog_9_method_96_code
def yX7_heardOfAll : MethodName := ⟨RX7, "heardOfAll", "()I"⟩
abbrev cX7_count : ByteArray := prog_9_method_97_code
def yX7_count : MethodName := ⟨RX7, "count", "(I)I"⟩
abbrev cX7_status : ByteArray := prog_9_method_98_code
def yX7_status : MethodName := ⟨RX7, "status", "()I"⟩
def RJ6 : String := "java/lang/Integer"
def TJ6 : u_T := fun k => match k with
  | _ => ("", "", "", false)
def tyJ6 : Nat → FieldType := fun k => match k with
  | _ => .int
abbrev wsJ60 : List Cond := u_ws RJ6 TJ6 0
theorem nmJ6 : ∀ a, a < 0 → ∀ b, b < 0 → a ≠ b → (TJ6 a).2.1 ≠ (TJ6 b).2.1 := by decide +kernel
theorem tyJ6_ok : ∀ k, k < 0 → parseFieldDescriptor (TJ6 k).2.2.1 = some (tyJ6 k) := by decide +kernel
abbrev cJ6_bitCount_0f7a4 : ByteArray := prog_10_method_49_code
def yJ6_bitCount_0f7a4 : MethodName := ⟨RJ6, "bitCount", "(I)I"⟩
def RJ9 : String := "java/lang/Math"
def TJ9 : u_T := fun k => match k with
  | _ => ("", "", "", false)
def tyJ9 : Nat → FieldType := fun k => match k with
  | _ => .int
abbrev wsJ90 : List Cond := u_ws RJ9 TJ9 0
theorem nmJ9 : ∀ a, a < 0 → ∀ b, b < 0 → a ≠ b → (TJ9 a).2.1 ≠ (TJ9 b).2.1 := by decide +kernel
theorem tyJ9_ok : ∀ k, k < 0 → parseFieldDescriptor (TJ9 k).2.2.1 = some (tyJ9 k) := by decide +kernel
abbrev cJ9_max_7cf53 : ByteArray := prog_11_method_65_code
def yJ9_max_7cf53 : MethodName := ⟨RJ9, "max", "(II)I"⟩
abbrev cJ9_min_7cf53 : ByteArray := prog_11_method_69_code
def yJ9_min_7cf53 : MethodName := ⟨RJ9, "min", "(II)I"⟩
def RJ10 : String := "java/lang/System"
def TJ10 : u_T := fun k => match k with
  | _ => ("", "", "", false)
def tyJ10 : Nat → FieldType := fun k => match k with
  | _ => .int
abbrev wsJ100 : List Cond := u_ws RJ10 TJ10 0
theorem nmJ10 : ∀ a, a < 0 → ∀ b, b < 0 → a ≠ b → (TJ10 a).2.1 ≠ (TJ10 b).2.1 := by decide +kernel
theorem tyJ10_ok : ∀ k, k < 0 → parseFieldDescriptor (TJ10 k).2.2.1 = some (tyJ10 k) := by decide +kernel
def RL : String := "HopNetLaw"
abbrev cL_law : ByteArray := code
def yL_law : MethodName := ⟨RL, "law", "([I)Z"⟩
/-- the words that every method has -/
def gw_all : List Cond := lw_tbl.filter goodWord
theorem gw_sub {w : Cond} (h : w ∈ gw_all) : w ∈ lw_tbl := (List.mem_filter.mp h).1
theorem mem_pl {big : List Cond} (ws : List Cond) (ps : List Nat) (hp : ws = ps.filterMap (fun i => big[i]?)) : ∀ w ∈ ws, w ∈ big := by
  intro w hw
  rw [hp] at hw
  obtain ⟨i, -, hi⟩ := List.mem_filterMap.mp hw
  exact List.mem_of_getElem? hi
theorem in0 : ∀ w ∈ u_ws RX0 TX0 6, w ∈ gw_all := fun w hw => List.mem_filter.mpr ⟨mem_pl _ [180, 182, 184, 186, 188, 190] (by decide +kernel) w hw, (List.all_eq_true.mp (by decide +kernel : (u_ws RX0 TX0 6).all goodWord = true) w hw)⟩
theorem in1 : ∀ w ∈ u_ws RX1 TX1 18, w ∈ gw_all := fun w hw => List.mem_filter.mpr ⟨mem_pl _ [245, 247, 249, 251, 253, 255, 257, 259, 261, 263, 265, 267, 269, 271, 273, 275, 277, 279] (by decide +kernel) w hw, (List.all_eq_true.mp (by decide +kernel : (u_ws RX1 TX1 18).all goodWord = true) w hw)⟩
theorem in2 : ∀ w ∈ u_ws RX2 TX2 20, w ∈ gw_all := fun w hw => List.mem_filter.mpr ⟨mem_pl _ [330, 332, 334, 336, 338, 340, 342, 344, 346, 348, 350, 352, 354, 356, 358, 360, 362, 364, 366, 368] (by decide +kernel) w hw, (List.all_eq_true.mp (by decide +kernel : (u_ws RX2 TX2 20).all goodWord = true) w hw)⟩
theorem in3 : ∀ w ∈ u_ws RX3 TX3 3, w ∈ gw_all := fun w hw => List.mem_filter.mpr ⟨mem_pl _ [102, 104, 106] (by decide +kernel) w hw, (List.all_eq_true.mp (by decide +kernel : (u_ws RX3 TX3 3).all goodWord = true) w hw)⟩
theorem in4 : ∀ w ∈ u_ws RX4 TX4 8, w ∈ gw_all := fun w hw => List.mem_filter.mpr ⟨mem_pl _ [143, 145, 147, 149, 151, 153, 155, 157] (by decide +kernel) w hw, (List.all_eq_true.mp (by decide +kernel : (u_ws RX4 TX4 8).all goodWord = true) w hw)⟩
theorem in5 : ∀ w ∈ u_ws RX5 TX5 10, w ∈ gw_all := fun w hw => List.mem_filter.mpr ⟨mem_pl _ [390, 392, 394, 396, 398, 400, 402, 404, 406, 408] (by decide +kernel) w hw, (List.all_eq_true.mp (by decide +kernel : (u_ws RX5 TX5 10).all goodWord = true) w hw)⟩
theorem in6 : ∀ w ∈ u_ws RX6 TX6 12, w ∈ gw_all := fun w hw => List.mem_filter.mpr ⟨mem_pl _ [424, 426, 428, 430, 432, 434, 436, 438, 440, 442, 444, 446] (by decide +kernel) w hw, (List.all_eq_true.mp (by decide +kernel : (u_ws RX6 TX6 12).all goodWord = true) w hw)⟩
theorem in7 : ∀ w ∈ u_ws RX7 TX7 18, w ∈ gw_all := fun w hw => List.mem_filter.mpr ⟨mem_pl _ [1045, 1047, 1049, 1051, 1053, 1055, 1057, 1059, 1061, 1063, 1065, 1067, 1069, 1071, 1073, 1075, 1077, 1079] (by decide +kernel) w hw, (List.all_eq_true.mp (by decide +kernel : (u_ws RX7 TX7 18).all goodWord = true) w hw)⟩
end
section
theorem mt_1 {w : Cond} (h : w ∈ tables_1_1) : w ∈ lw_tbl := List.mem_append_right _ (List.mem_append_left _ h)
theorem mt_2 {w : Cond} (h : w ∈ tables_1_2) : w ∈ lw_tbl := List.mem_append_right _ (List.mem_append_right _ (List.mem_append_left _ h))
theorem mt_3 {w : Cond} (h : w ∈ tables_1_3) : w ∈ lw_tbl := List.mem_append_right _ (List.mem_append_right _ (List.mem_append_right _ (List.mem_append_left _ h)))
theorem mt_4 {w : Cond} (h : w ∈ tables_1_4) : w ∈ lw_tbl := List.mem_append_right _ (List.mem_append_right _ (List.mem_append_right _ (List.mem_append_right _ (List.mem_append_left _ h))))
theorem mt_5 {w : Cond} (h : w ∈ tables_1_5) : w ∈ lw_tbl := List.mem_append_right _ (List.mem_append_right _ (List.mem_append_right _ (List.mem_append_right _ (List.mem_append_right _ (List.mem_append_left _ h)))))
theorem mt_6 {w : Cond} (h : w ∈ tables_1_6) : w ∈ lw_tbl := List.mem_append_right _ (List.mem_append_right _ (List.mem_append_right _ (List.mem_append_right _ (List.mem_append_right _ (List.mem_append_right _ (h))))))
set_option maxRecDepth 100000 in
theorem mw_0 : Cond.selects RX6 yX6_refuse yX6_refuse ∈ gw_all := List.mem_filter.mpr ⟨List.mem_append_left _ (List.mem_of_getElem? (i := 0) rfl), rfl⟩
set_option maxRecDepth 100000 in
theorem mw_1 : Cond.selects RX6 yX6_keepForUndo yX6_keepForUndo ∈ gw_all := List.mem_filter.mpr ⟨List.mem_append_left _ (List.mem_of_getElem? (i := 1) rfl), rfl⟩
set_option maxRecDepth 100000 in
theorem mw_2 : Cond.selects RX6 yX6_accept yX6_accept ∈ gw_all := List.mem_filter.mpr ⟨List.mem_append_left _ (List.mem_of_getElem? (i := 2) rfl), rfl⟩
set_option maxRecDepth 100000 in
theorem mw_3 : Cond.selects RX6 yX6_tellMap yX6_tellMap ∈ gw_all := List.mem_filter.mpr ⟨List.mem_append_left _ (List.mem_of_getElem? (i := 3) rfl), rfl⟩
set_option maxRecDepth 100000 in
theorem mw_4 : Cond.selects RX6 yX6_hasTimeFor yX6_hasTimeFor ∈ gw_all := List.mem_filter.mpr ⟨List.mem_append_left _ (List.mem_of_getElem? (i := 4) rfl), rfl⟩
set_option maxRecDepth 100000 in
theorem mw_5 : Cond.selects RX6 yX6_planOf yX6_planOf ∈ gw_all := List.mem_filter.mpr ⟨List.mem_append_left _ (List.mem_of_getElem? (i := 5) rfl), rfl⟩
set_option maxRecDepth 100000 in
theorem mw_6 : Cond.selects RX6 yX6_noteHops yX6_noteHops ∈ gw_all := List.mem_filter.mpr ⟨List.mem_append_left _ (List.mem_of_getElem? (i := 6) rfl), rfl⟩
set_option maxRecDepth 100000 in
theorem mw_7 : Cond.selects RX6 yX6_clashesAt yX6_clashesAt ∈ gw_all := List.mem_filter.mpr ⟨List.mem_append_left _ (List.mem_of_getElem? (i := 7) rfl), rfl⟩
set_option maxRecDepth 100000 in
theorem mw_8 : Cond.selects RX6 yX6_paperWith yX6_paperWith ∈ gw_all := List.mem_filter.mpr ⟨List.mem_append_left _ (List.mem_of_getElem? (i := 8) rfl), rfl⟩
set_option maxRecDepth 100000 in
theorem mw_9 : Cond.selects RX7 yX7_refuse yX7_refuse ∈ gw_all := List.mem_filter.mpr ⟨List.mem_append_left _ (List.mem_of_getElem? (i := 9) rfl), rfl⟩
set_option maxRecDepth 100000 in
theorem mw_10 : Cond.selects RX7 yX7_tell yX7_tell ∈ gw_all := List.mem_filter.mpr ⟨List.mem_append_left _ (List.mem_of_getElem? (i := 10) rfl), rfl⟩
set_option maxRecDepth 100000 in
theorem mw_11 : Cond.selects RX7 yX7_isNet yX7_isNet ∈ gw_all := List.mem_filter.mpr ⟨List.mem_append_left _ (List.mem_of_getElem? (i := 11) rfl), rfl⟩
set_option maxRecDepth 100000 in
theorem mw_12 : Cond.selects RX7 yX7_isLink yX7_isLink ∈ gw_all := List.mem_filter.mpr ⟨List.mem_append_left _ (List.mem_of_getElem? (i := 12) rfl), rfl⟩
set_option maxRecDepth 100000 in
theorem mw_13 : Cond.selects RX7 yX7_mapHeld yX7_mapHeld ∈ gw_all := List.mem_filter.mpr ⟨List.mem_append_left _ (List.mem_of_getElem? (i := 13) rfl), rfl⟩
set_option maxRecDepth 100000 in
theorem mw_14 : Cond.selects RX7 yX7_hopOf yX7_hopOf ∈ gw_all := List.mem_filter.mpr ⟨List.mem_append_left _ (List.mem_of_getElem? (i := 14) rfl), rfl⟩
set_option maxRecDepth 100000 in
theorem mw_15 : Cond.selects RX7 yX7_remember yX7_remember ∈ gw_all := List.mem_filter.mpr ⟨List.mem_append_left _ (List.mem_of_getElem? (i := 15) rfl), rfl⟩
set_option maxRecDepth 100000 in
theorem mw_16 : Cond.selects RX7 yX7_isRadio yX7_isRadio ∈ gw_all := List.mem_filter.mpr ⟨List.mem_append_left _ (List.mem_of_getElem? (i := 16) rfl), rfl⟩
set_option maxRecDepth 100000 in
theorem mw_17 : Cond.selects RX7 yX7_isIn yX7_isIn ∈ gw_all := List.mem_filter.mpr ⟨List.mem_append_left _ (List.mem_of_getElem? (i := 17) rfl), rfl⟩
set_option maxRecDepth 100000 in
theorem mw_18 : Cond.selects RX7 yX7_comes yX7_comes ∈ gw_all := List.mem_filter.mpr ⟨List.mem_append_left _ (List.mem_of_getElem? (i := 18) rfl), rfl⟩
set_option maxRecDepth 100000 in
theorem mw_19 : Cond.selects RX7 yX7_tellMap yX7_tellMap ∈ gw_all := List.mem_filter.mpr ⟨List.mem_append_left _ (List.mem_of_getElem? (i := 19) rfl), rfl⟩
set_option maxRecDepth 100000 in
theorem mw_20 : Cond.selects RX7 yX7_badOf yX7_badOf ∈ gw_all := List.mem_filter.mpr ⟨List.mem_append_left _ (List.mem_of_getElem? (i := 20) rfl), rfl⟩
set_option maxRecDepth 100000 in
theorem mw_21 : Cond.selects RX7 yX7_aheadOf yX7_aheadOf ∈ gw_all := List.mem_filter.mpr ⟨List.mem_append_left _ (List.mem_of_getElem? (i := 21) rfl), rfl⟩
set_option maxRecDepth 100000 in
theorem mw_22 : Cond.selects RX7 yX7_turnsBy yX7_turnsBy ∈ gw_all := List.mem_filter.mpr ⟨List.mem_append_left _ (List.mem_of_getElem? (i := 22) rfl), rfl⟩
set_option maxRecDepth 100000 in
theorem mw_23 : Cond.selects RX7 yX7_turn yX7_turn ∈ gw_all := List.mem_filter.mpr ⟨List.mem_append_left _ (List.mem_of_getElem? (i := 23) rfl), rfl⟩
set_option maxRecDepth 100000 in
theorem mw_24 : Cond.selects RX7 yX7_mapsBecome yX7_mapsBecome ∈ gw_all := List.mem_filter.mpr ⟨List.mem_append_left _ (List.mem_of_getElem? (i := 24) rfl), rfl⟩
set_option maxRecDepth 100000 in
theorem mw_25 : Cond.selects RX7 yX7_framesCome yX7_framesCome ∈ gw_all := List.mem_filter.mpr ⟨List.mem_append_left _ (List.mem_of_getElem? (i := 25) rfl), rfl⟩
set_option maxRecDepth 100000 in
theorem mw_26 : Cond.selects RX7 yX7_isLinkHere yX7_isLinkHere ∈ gw_all := List.mem_filter.mpr ⟨List.mem_append_left _ (List.mem_of_getElem? (i := 26) rfl), rfl⟩
set_option maxRecDepth 100000 in
theorem mw_27 : Cond.selects RX7 yX7_isReady yX7_isReady ∈ gw_all := List.mem_filter.mpr ⟨List.mem_append_left _ (List.mem_of_getElem? (i := 27) rfl), rfl⟩
set_option maxRecDepth 100000 in
theorem mw_28 : Cond.selects RX7 yX7_isHere yX7_isHere ∈ gw_all := List.mem_filter.mpr ⟨List.mem_append_left _ (List.mem_of_getElem? (i := 28) rfl), rfl⟩
set_option maxRecDepth 100000 in
theorem mw_29 : Cond.selects RX7 yX7_choose yX7_choose ∈ gw_all := List.mem_filter.mpr ⟨List.mem_append_left _ (List.mem_of_getElem? (i := 29) rfl), rfl⟩
set_option maxRecDepth 100000 in
theorem mw_30 : Cond.selects RX7 yX7_sendsDown yX7_sendsDown ∈ gw_all := List.mem_filter.mpr ⟨List.mem_append_left _ (List.mem_of_getElem? (i := 30) rfl), rfl⟩
set_option maxRecDepth 100000 in
theorem mw_31 : Cond.selects RX7 yX7_mapFor yX7_mapFor ∈ gw_all := List.mem_filter.mpr ⟨List.mem_append_left _ (List.mem_of_getElem? (i := 31) rfl), rfl⟩
set_option maxRecDepth 100000 in
theorem mw_32 : Cond.selects RX7 yX7_casts yX7_casts ∈ gw_all := List.mem_filter.mpr ⟨List.mem_append_left _ (List.mem_of_getElem? (i := 32) rfl), rfl⟩
set_option maxRecDepth 100000 in
theorem mw_33 : Cond.selects RX7 yX7_whyNot yX7_whyNot ∈ gw_all := List.mem_filter.mpr ⟨List.mem_append_left _ (List.mem_of_getElem? (i := 33) rfl), rfl⟩
set_option maxRecDepth 100000 in
theorem mw_34 : Cond.selects RX7 yX7_draw yX7_draw ∈ gw_all := List.mem_filter.mpr ⟨List.mem_append_left _ (List.mem_of_getElem? (i := 34) rfl), rfl⟩
set_option maxRecDepth 100000 in
theorem mw_35 : Cond.selects RX7 yX7_memberHears yX7_memberHears ∈ gw_all := List.mem_filter.mpr ⟨List.mem_append_left _ (List.mem_of_getElem? (i := 35) rfl), rfl⟩
set_option maxRecDepth 100000 in
theorem mw_36 : Cond.selects RX7 yX7_hears yX7_hears ∈ gw_all := List.mem_filter.mpr ⟨List.mem_append_left _ (List.mem_of_getElem? (i := 36) rfl), rfl⟩
set_option maxRecDepth 100000 in
theorem mw_37 : Cond.selects RX7 yX7_passes yX7_passes ∈ gw_all := List.mem_filter.mpr ⟨List.mem_append_left _ (List.mem_of_getElem? (i := 37) rfl), rfl⟩
set_option maxRecDepth 100000 in
theorem mw_38 : Cond.selects RX7 yX7_goes yX7_goes ∈ gw_all := List.mem_filter.mpr ⟨List.mem_append_left _ (List.mem_of_getElem? (i := 38) rfl), rfl⟩
set_option maxRecDepth 100000 in
theorem mw_39 : Cond.selects RX7 yX7_sendsUp yX7_sendsUp ∈ gw_all := List.mem_filter.mpr ⟨List.mem_append_left _ (List.mem_of_getElem? (i := 39) rfl), rfl⟩
set_option maxRecDepth 100000 in
theorem mw_40 : Cond.selects RX7 yX7_masterHears yX7_masterHears ∈ gw_all := List.mem_filter.mpr ⟨List.mem_append_left _ (List.mem_of_getElem? (i := 40) rfl), rfl⟩
set_option maxRecDepth 100000 in
theorem mw_41 : Cond.selects RX7 yX7_chance yX7_chance ∈ gw_all := List.mem_filter.mpr ⟨List.mem_append_left _ (List.mem_of_getElem? (i := 41) rfl), rfl⟩
set_option maxRecDepth 100000 in
theorem mw_42 : Cond.selects RX7 yX7_areBoth yX7_areBoth ∈ gw_all := List.mem_filter.mpr ⟨List.mem_append_left _ (List.mem_of_getElem? (i := 42) rfl), rfl⟩
set_option maxRecDepth 100000 in
theorem mw_43 : Cond.selects RX7 yX7_clashesBy yX7_clashesBy ∈ gw_all := List.mem_filter.mpr ⟨List.mem_append_left _ (List.mem_of_getElem? (i := 43) rfl), rfl⟩
set_option maxRecDepth 100000 in
theorem mw_44 : Cond.selects RX7 yX7_canTurn yX7_canTurn ∈ gw_all := List.mem_filter.mpr ⟨List.mem_append_left _ (List.mem_of_getElem? (i := 44) rfl), rfl⟩
set_option maxRecDepth 100000 in
theorem mw_45 : Cond.selects RX7 yX7_comesAt yX7_comesAt ∈ gw_all := List.mem_filter.mpr ⟨List.mem_append_left _ (List.mem_of_getElem? (i := 45) rfl), rfl⟩
set_option maxRecDepth 100000 in
theorem mw_46 : Cond.selects RX7 yX7_isAhead yX7_isAhead ∈ gw_all := List.mem_filter.mpr ⟨List.mem_append_left _ (List.mem_of_getElem? (i := 46) rfl), rfl⟩
set_option maxRecDepth 100000 in
theorem mw_47 : Cond.selects RX7 yX7_isEmpty yX7_isEmpty ∈ gw_all := List.mem_filter.mpr ⟨List.mem_append_left _ (List.mem_of_getElem? (i := 47) rfl), rfl⟩
set_option maxRecDepth 100000 in
theorem mw_48 : Cond.selects RX7 yX7_tries yX7_tries ∈ gw_all := List.mem_filter.mpr ⟨List.mem_append_left _ (List.mem_of_getElem? (i := 48) rfl), rfl⟩
set_option maxRecDepth 100000 in
theorem mw_49 : Cond.selects RX7 yX7_otherMaps yX7_otherMaps ∈ gw_all := List.mem_filter.mpr ⟨List.mem_append_left _ (List.mem_of_getElem? (i := 49) rfl), rfl⟩
set_option maxRecDepth 100000 in
theorem mw_50 : Cond.selects RX7 yX7_heardOfAll yX7_heardOfAll ∈ gw_all := List.mem_filter.mpr ⟨List.mem_append_left _ (List.mem_of_getElem? (i := 50) rfl), rfl⟩
set_option maxRecDepth 100000 in
theorem mw_51 : Cond.initialized RL ∈ gw_all := List.mem_filter.mpr ⟨mt_1 (List.mem_of_getElem? (i := 0) rfl), rfl⟩
set_option maxRecDepth 100000 in
theorem mw_52 : Cond.initialized RX6 ∈ gw_all := List.mem_filter.mpr ⟨mt_1 (List.mem_of_getElem? (i := 1) rfl), rfl⟩
set_option maxRecDepth 100000 in
theorem mw_53 : Cond.initialized RX5 ∈ gw_all := List.mem_filter.mpr ⟨mt_1 (List.mem_of_getElem? (i := 2) rfl), rfl⟩
set_option maxRecDepth 100000 in
theorem mw_54 : Cond.initialized RX2 ∈ gw_all := List.mem_filter.mpr ⟨mt_1 (List.mem_of_getElem? (i := 3) rfl), rfl⟩
set_option maxRecDepth 100000 in
theorem mw_55 : Cond.initialized RX3 ∈ gw_all := List.mem_filter.mpr ⟨mt_1 (List.mem_of_getElem? (i := 4) rfl), rfl⟩
set_option maxRecDepth 100000 in
theorem mw_56 : Cond.initialized RX1 ∈ gw_all := List.mem_filter.mpr ⟨mt_1 (List.mem_of_getElem? (i := 5) rfl), rfl⟩
set_option maxRecDepth 100000 in
theorem mw_57 : Cond.initialized RX4 ∈ gw_all := List.mem_filter.mpr ⟨mt_1 (List.mem_of_getElem? (i := 6) rfl), rfl⟩
set_option maxRecDepth 100000 in
theorem mw_58 : Cond.initialized RX0 ∈ gw_all := List.mem_filter.mpr ⟨mt_1 (List.mem_of_getElem? (i := 7) rfl), rfl⟩
set_option maxRecDepth 100000 in
theorem mw_59 : Cond.initialized RX7 ∈ gw_all := List.mem_filter.mpr ⟨mt_1 (List.mem_of_getElem? (i := 8) rfl), rfl⟩
set_option maxRecDepth 100000 in
theorem mw_60 : Cond.initialized RJ10 ∈ gw_all := List.mem_filter.mpr ⟨mt_1 (List.mem_of_getElem? (i := 9) rfl), rfl⟩
set_option maxRecDepth 100000 in
theorem mw_61 : Cond.initialized RJ9 ∈ gw_all := List.mem_filter.mpr ⟨mt_1 (List.mem_of_getElem? (i := 10) rfl), rfl⟩
set_option maxRecDepth 100000 in
theorem mw_62 : Cond.initialized RJ6 ∈ gw_all := List.mem_filter.mpr ⟨mt_1 (List.mem_of_getElem? (i := 11) rfl), rfl⟩
set_option maxRecDepth 100000 in
theorem mw_63 : Cond.classLink RL 7 RX6 ∈ gw_all := List.mem_filter.mpr ⟨mt_1 (List.mem_of_getElem? (i := 12) rfl), rfl⟩
set_option maxRecDepth 100000 in
theorem mw_64 : Cond.instantiable RX6 12 ∈ gw_all := List.mem_filter.mpr ⟨mt_1 (List.mem_of_getElem? (i := 13) rfl), rfl⟩
set_option maxRecDepth 100000 in
theorem mw_65 : Cond.methodLink RL 9 yX6_init ∈ gw_all := List.mem_filter.mpr ⟨mt_1 (List.mem_of_getElem? (i := 14) rfl), rfl⟩
set_option maxRecDepth 100000 in
theorem mw_66 : Cond.instanceMethod yX6_init ∈ gw_all := List.mem_filter.mpr ⟨mt_1 (List.mem_of_getElem? (i := 15) rfl), rfl⟩
set_option maxRecDepth 100000 in
theorem mw_67 : Cond.code yX6_init cX6_init 2 none ∈ gw_all := List.mem_filter.mpr ⟨mt_1 (List.mem_of_getElem? (i := 16) rfl), rfl⟩
set_option maxRecDepth 100000 in
theorem mw_68 : Cond.methodLink RX6 3 objectInit ∈ gw_all := List.mem_filter.mpr ⟨mt_1 (List.mem_of_getElem? (i := 17) rfl), rfl⟩
set_option maxRecDepth 100000 in
theorem mw_69 : Cond.instanceMethod objectInit ∈ gw_all := List.mem_filter.mpr ⟨mt_1 (List.mem_of_getElem? (i := 18) rfl), rfl⟩
set_option maxRecDepth 100000 in
theorem mw_70 : Cond.code objectInit object_method_1_code 1 none ∈ gw_all := List.mem_filter.mpr ⟨mt_1 (List.mem_of_getElem? (i := 19) rfl), rfl⟩
set_option maxRecDepth 100000 in
theorem mw_71 : Cond.classLink RX6 9 RX5 ∈ gw_all := List.mem_filter.mpr ⟨mt_1 (List.mem_of_getElem? (i := 20) rfl), rfl⟩
set_option maxRecDepth 100000 in
theorem mw_72 : Cond.instantiable RX5 10 ∈ gw_all := List.mem_filter.mpr ⟨mt_1 (List.mem_of_getElem? (i := 21) rfl), rfl⟩
set_option maxRecDepth 100000 in
theorem mw_73 : Cond.methodLink RX6 11 yX5_init ∈ gw_all := List.mem_filter.mpr ⟨mt_1 (List.mem_of_getElem? (i := 22) rfl), rfl⟩
set_option maxRecDepth 100000 in
theorem mw_74 : Cond.instanceMethod yX5_init ∈ gw_all := List.mem_filter.mpr ⟨mt_1 (List.mem_of_getElem? (i := 23) rfl), rfl⟩
set_option maxRecDepth 100000 in
theorem mw_75 : Cond.code yX5_init cX5_init 2 none ∈ gw_all := List.mem_filter.mpr ⟨mt_1 (List.mem_of_getElem? (i := 24) rfl), rfl⟩
set_option maxRecDepth 100000 in
theorem mw_76 : Cond.methodLink RX5 3 objectInit ∈ gw_all := List.mem_filter.mpr ⟨mt_1 (List.mem_of_getElem? (i := 25) rfl), rfl⟩
set_option maxRecDepth 100000 in
theorem mw_77 : Cond.classLink RX5 21 RX2 ∈ gw_all := List.mem_filter.mpr ⟨mt_1 (List.mem_of_getElem? (i := 26) rfl), rfl⟩
set_option maxRecDepth 100000 in
theorem nw_78 : Cond.arrayOver (FieldType.object RX2) ∈ lw_tbl := mt_1 (List.mem_of_getElem? (i := 27) rfl)
set_option maxRecDepth 100000 in
theorem mw_79 : Cond.instantiable RX2 20 ∈ gw_all := List.mem_filter.mpr ⟨mt_1 (List.mem_of_getElem? (i := 28) rfl), rfl⟩
set_option maxRecDepth 100000 in
theorem mw_80 : Cond.methodLink RX5 46 yX2_init ∈ gw_all := List.mem_filter.mpr ⟨mt_1 (List.mem_of_getElem? (i := 29) rfl), rfl⟩
set_option maxRecDepth 100000 in
theorem mw_81 : Cond.instanceMethod yX2_init ∈ gw_all := List.mem_filter.mpr ⟨mt_1 (List.mem_of_getElem? (i := 30) rfl), rfl⟩
set_option maxRecDepth 100000 in
theorem mw_82 : Cond.code yX2_init cX2_init 2 none ∈ gw_all := List.mem_filter.mpr ⟨mt_1 (List.mem_of_getElem? (i := 31) rfl), rfl⟩
set_option maxRecDepth 100000 in
theorem mw_83 : Cond.methodLink RX2 3 objectInit ∈ gw_all := List.mem_filter.mpr ⟨mt_1 (List.mem_of_getElem? (i := 32) rfl), rfl⟩
set_option maxRecDepth 100000 in
theorem mw_84 : Cond.classLink RX2 9 RX3 ∈ gw_all := List.mem_filter.mpr ⟨mt_1 (List.mem_of_getElem? (i := 33) rfl), rfl⟩
set_option maxRecDepth 100000 in
theorem mw_85 : Cond.instantiable RX3 3 ∈ gw_all := List.mem_filter.mpr ⟨mt_1 (List.mem_of_getElem? (i := 34) rfl), rfl⟩
set_option maxRecDepth 100000 in
theorem nw_86 : Cond.methodLinkNest RX2 11 yX3_init RX6 ∈ lw_tbl := mt_1 (List.mem_of_getElem? (i := 35) rfl)
set_option maxRecDepth 100000 in
theorem mw_87 : Cond.instanceMethod yX3_init ∈ gw_all := List.mem_filter.mpr ⟨mt_1 (List.mem_of_getElem? (i := 36) rfl), rfl⟩
set_option maxRecDepth 100000 in
theorem mw_88 : Cond.code yX3_init cX3_init 1 none ∈ gw_all := List.mem_filter.mpr ⟨mt_1 (List.mem_of_getElem? (i := 37) rfl), rfl⟩
set_option maxRecDepth 100000 in
theorem mw_89 : Cond.methodLink RX3 3 objectInit ∈ gw_all := List.mem_filter.mpr ⟨mt_1 (List.mem_of_getElem? (i := 38) rfl), rfl⟩
set_option maxRecDepth 100000 in
theorem mw_90 : Cond.constant RX3 9 8388607 ∈ gw_all := List.mem_filter.mpr ⟨mt_1 (List.mem_of_getElem? (i := 39) rfl), rfl⟩
set_option maxRecDepth 100000 in
theorem mw_91 : Cond.fieldLink RX3 10 RX3 "map" "I" ∈ gw_all := List.mem_filter.mpr ⟨mt_1 (List.mem_of_getElem? (i := 40) rfl), rfl⟩
set_option maxRecDepth 100000 in
theorem mw_92 : Cond.fieldLink RX1 108 RX3 "map" "I" ∈ gw_all := List.mem_filter.mpr ⟨mt_1 (List.mem_of_getElem? (i := 41) rfl), rfl⟩
set_option maxRecDepth 100000 in
theorem mw_93 : Cond.fieldLink RX2 114 RX3 "map" "I" ∈ gw_all := List.mem_filter.mpr ⟨mt_1 (List.mem_of_getElem? (i := 42) rfl), rfl⟩
set_option maxRecDepth 100000 in
theorem mw_94 : Cond.fieldLink RX5 108 RX3 "map" "I" ∈ gw_all := List.mem_filter.mpr ⟨mt_1 (List.mem_of_getElem? (i := 43) rfl), rfl⟩
set_option maxRecDepth 100000 in
theorem mw_95 : Cond.fieldLink RX6 206 RX3 "map" "I" ∈ gw_all := List.mem_filter.mpr ⟨mt_1 (List.mem_of_getElem? (i := 44) rfl), rfl⟩
set_option maxRecDepth 100000 in
theorem mw_96 : Cond.fieldLink RX3 16 RX3 "next" "I" ∈ gw_all := List.mem_filter.mpr ⟨mt_1 (List.mem_of_getElem? (i := 45) rfl), rfl⟩
set_option maxRecDepth 100000 in
theorem mw_97 : Cond.fieldLink RX1 98 RX3 "next" "I" ∈ gw_all := List.mem_filter.mpr ⟨mt_1 (List.mem_of_getElem? (i := 46) rfl), rfl⟩
set_option maxRecDepth 100000 in
theorem mw_98 : Cond.fieldLink RX6 250 RX3 "next" "I" ∈ gw_all := List.mem_filter.mpr ⟨mt_1 (List.mem_of_getElem? (i := 47) rfl), rfl⟩
set_option maxRecDepth 100000 in
theorem mw_99 : Cond.fieldLink RX3 19 RX3 "instant" "I" ∈ gw_all := List.mem_filter.mpr ⟨mt_1 (List.mem_of_getElem? (i := 48) rfl), rfl⟩
set_option maxRecDepth 100000 in
theorem mw_100 : Cond.fieldLink RX1 101 RX3 "instant" "I" ∈ gw_all := List.mem_filter.mpr ⟨mt_1 (List.mem_of_getElem? (i := 49) rfl), rfl⟩
set_option maxRecDepth 100000 in
theorem mw_101 : Cond.fieldLink RX6 253 RX3 "instant" "I" ∈ gw_all := List.mem_filter.mpr ⟨mt_1 (List.mem_of_getElem? (i := 50) rfl), rfl⟩
set_option maxRecDepth 100000 in
theorem mw_102 : Cond.lays RX3 RX3 "map" "I" ∈ gw_all := List.mem_filter.mpr ⟨mt_1 (List.mem_of_getElem? (i := 51) rfl), rfl⟩
set_option maxRecDepth 100000 in
theorem mw_104 : Cond.lays RX3 RX3 "next" "I" ∈ gw_all := List.mem_filter.mpr ⟨mt_1 (List.mem_of_getElem? (i := 53) rfl), rfl⟩
set_option maxRecDepth 100000 in
theorem mw_106 : Cond.lays RX3 RX3 "instant" "I" ∈ gw_all := List.mem_filter.mpr ⟨mt_1 (List.mem_of_getElem? (i := 55) rfl), rfl⟩
set_option maxRecDepth 100000 in
theorem mw_109 : Cond.arrayClass FieldType.int ∈ gw_all := List.mem_filter.mpr ⟨mt_1 (List.mem_of_getElem? (i := 58) rfl), rfl⟩
set_option maxRecDepth 100000 in
theorem mw_110 : Cond.classLink RX2 28 RX1 ∈ gw_all := List.mem_filter.mpr ⟨mt_1 (List.mem_of_getElem? (i := 59) rfl), rfl⟩
set_option maxRecDepth 100000 in
theorem nw_111 : Cond.arrayOver (FieldType.object RX1) ∈ lw_tbl := mt_1 (List.mem_of_getElem? (i := 60) rfl)
set_option maxRecDepth 100000 in
theorem mw_112 : Cond.constant RX2 41 8388607 ∈ gw_all := List.mem_filter.mpr ⟨mt_1 (List.mem_of_getElem? (i := 61) rfl), rfl⟩
set_option maxRecDepth 100000 in
theorem mw_113 : Cond.instantiable RX1 18 ∈ gw_all := List.mem_filter.mpr ⟨mt_1 (List.mem_of_getElem? (i := 62) rfl), rfl⟩
set_option maxRecDepth 100000 in
theorem nw_114 : Cond.methodLinkNest RX2 82 yX1_init RX6 ∈ lw_tbl := mt_1 (List.mem_of_getElem? (i := 63) rfl)
set_option maxRecDepth 100000 in
theorem mw_115 : Cond.instanceMethod yX1_init ∈ gw_all := List.mem_filter.mpr ⟨mt_1 (List.mem_of_getElem? (i := 64) rfl), rfl⟩
set_option maxRecDepth 100000 in
theorem mw_116 : Cond.code yX1_init cX1_init 1 none ∈ gw_all := List.mem_filter.mpr ⟨mt_1 (List.mem_of_getElem? (i := 65) rfl), rfl⟩
set_option maxRecDepth 100000 in
theorem mw_117 : Cond.methodLink RX1 1 objectInit ∈ gw_all := List.mem_filter.mpr ⟨mt_1 (List.mem_of_getElem? (i := 66) rfl), rfl⟩
set_option maxRecDepth 100000 in
theorem mw_118 : Cond.classLink RX1 7 RX3 ∈ gw_all := List.mem_filter.mpr ⟨mt_1 (List.mem_of_getElem? (i := 67) rfl), rfl⟩
set_option maxRecDepth 100000 in
theorem nw_119 : Cond.methodLinkNest RX1 9 yX3_init RX6 ∈ lw_tbl := mt_1 (List.mem_of_getElem? (i := 68) rfl)
set_option maxRecDepth 100000 in
theorem mw_120 : Cond.classLink RX1 16 RX4 ∈ gw_all := List.mem_filter.mpr ⟨mt_1 (List.mem_of_getElem? (i := 69) rfl), rfl⟩
set_option maxRecDepth 100000 in
theorem mw_121 : Cond.instantiable RX4 8 ∈ gw_all := List.mem_filter.mpr ⟨mt_1 (List.mem_of_getElem? (i := 70) rfl), rfl⟩
set_option maxRecDepth 100000 in
theorem nw_122 : Cond.methodLinkNest RX1 18 yX4_init RX6 ∈ lw_tbl := mt_1 (List.mem_of_getElem? (i := 71) rfl)
set_option maxRecDepth 100000 in
theorem mw_123 : Cond.instanceMethod yX4_init ∈ gw_all := List.mem_filter.mpr ⟨mt_1 (List.mem_of_getElem? (i := 72) rfl), rfl⟩
set_option maxRecDepth 100000 in
theorem mw_124 : Cond.code yX4_init cX4_init 1 none ∈ gw_all := List.mem_filter.mpr ⟨mt_1 (List.mem_of_getElem? (i := 73) rfl), rfl⟩
set_option maxRecDepth 100000 in
theorem mw_125 : Cond.methodLink RX4 3 objectInit ∈ gw_all := List.mem_filter.mpr ⟨mt_1 (List.mem_of_getElem? (i := 74) rfl), rfl⟩
set_option maxRecDepth 100000 in
theorem mw_126 : Cond.fieldLink RX4 9 RX4 "numbers" "[I" ∈ gw_all := List.mem_filter.mpr ⟨mt_1 (List.mem_of_getElem? (i := 75) rfl), rfl⟩
set_option maxRecDepth 100000 in
theorem mw_127 : Cond.fieldLink RX5 277 RX4 "numbers" "[I" ∈ gw_all := List.mem_filter.mpr ⟨mt_1 (List.mem_of_getElem? (i := 76) rfl), rfl⟩
set_option maxRecDepth 100000 in
theorem mw_128 : Cond.fieldLink RX4 15 RX4 "since" "[I" ∈ gw_all := List.mem_filter.mpr ⟨mt_1 (List.mem_of_getElem? (i := 77) rfl), rfl⟩
set_option maxRecDepth 100000 in
theorem mw_129 : Cond.fieldLink RX4 18 RX4 "size" "I" ∈ gw_all := List.mem_filter.mpr ⟨mt_1 (List.mem_of_getElem? (i := 78) rfl), rfl⟩
set_option maxRecDepth 100000 in
theorem mw_130 : Cond.fieldLink RX6 153 RX4 "size" "I" ∈ gw_all := List.mem_filter.mpr ⟨mt_1 (List.mem_of_getElem? (i := 79) rfl), rfl⟩
set_option maxRecDepth 100000 in
theorem mw_131 : Cond.fieldLink RX5 300 RX4 "size" "I" ∈ gw_all := List.mem_filter.mpr ⟨mt_1 (List.mem_of_getElem? (i := 80) rfl), rfl⟩
set_option maxRecDepth 100000 in
theorem mw_132 : Cond.fieldLink RX4 22 RX4 "sendBit" "I" ∈ gw_all := List.mem_filter.mpr ⟨mt_1 (List.mem_of_getElem? (i := 81) rfl), rfl⟩
set_option maxRecDepth 100000 in
theorem mw_133 : Cond.fieldLink RX6 280 RX4 "sendBit" "I" ∈ gw_all := List.mem_filter.mpr ⟨mt_1 (List.mem_of_getElem? (i := 82) rfl), rfl⟩
set_option maxRecDepth 100000 in
theorem mw_134 : Cond.fieldLink RX4 25 RX4 "heardBit" "I" ∈ gw_all := List.mem_filter.mpr ⟨mt_1 (List.mem_of_getElem? (i := 83) rfl), rfl⟩
set_option maxRecDepth 100000 in
theorem mw_135 : Cond.fieldLink RX6 283 RX4 "heardBit" "I" ∈ gw_all := List.mem_filter.mpr ⟨mt_1 (List.mem_of_getElem? (i := 84) rfl), rfl⟩
set_option maxRecDepth 100000 in
theorem mw_136 : Cond.fieldLink RX4 28 RX4 "heard" "I" ∈ gw_all := List.mem_filter.mpr ⟨mt_1 (List.mem_of_getElem? (i := 85) rfl), rfl⟩
set_option maxRecDepth 100000 in
theorem mw_137 : Cond.fieldLink RX5 141 RX4 "heard" "I" ∈ gw_all := List.mem_filter.mpr ⟨mt_1 (List.mem_of_getElem? (i := 86) rfl), rfl⟩
set_option maxRecDepth 100000 in
theorem mw_138 : Cond.fieldLink RX6 274 RX4 "heard" "I" ∈ gw_all := List.mem_filter.mpr ⟨mt_1 (List.mem_of_getElem? (i := 87) rfl), rfl⟩
set_option maxRecDepth 100000 in
theorem mw_139 : Cond.fieldLink RX4 31 RX4 "hash" "I" ∈ gw_all := List.mem_filter.mpr ⟨mt_1 (List.mem_of_getElem? (i := 88) rfl), rfl⟩
set_option maxRecDepth 100000 in
theorem mw_140 : Cond.fieldLink RX6 301 RX4 "hash" "I" ∈ gw_all := List.mem_filter.mpr ⟨mt_1 (List.mem_of_getElem? (i := 89) rfl), rfl⟩
set_option maxRecDepth 100000 in
theorem mw_141 : Cond.fieldLink RX4 34 RX4 "greatestLag" "I" ∈ gw_all := List.mem_filter.mpr ⟨mt_1 (List.mem_of_getElem? (i := 90) rfl), rfl⟩
set_option maxRecDepth 100000 in
theorem mw_142 : Cond.fieldLink RX6 298 RX4 "greatestLag" "I" ∈ gw_all := List.mem_filter.mpr ⟨mt_1 (List.mem_of_getElem? (i := 91) rfl), rfl⟩
set_option maxRecDepth 100000 in
theorem mw_143 : Cond.laysFinal RX4 RX4 "numbers" "[I" ∈ gw_all := List.mem_filter.mpr ⟨mt_1 (List.mem_of_getElem? (i := 92) rfl), rfl⟩
set_option maxRecDepth 100000 in
theorem mw_145 : Cond.laysFinal RX4 RX4 "since" "[I" ∈ gw_all := List.mem_filter.mpr ⟨mt_1 (List.mem_of_getElem? (i := 94) rfl), rfl⟩
set_option maxRecDepth 100000 in
theorem mw_147 : Cond.lays RX4 RX4 "size" "I" ∈ gw_all := List.mem_filter.mpr ⟨mt_1 (List.mem_of_getElem? (i := 96) rfl), rfl⟩
set_option maxRecDepth 100000 in
theorem mw_149 : Cond.lays RX4 RX4 "sendBit" "I" ∈ gw_all := List.mem_filter.mpr ⟨mt_1 (List.mem_of_getElem? (i := 98) rfl), rfl⟩
set_option maxRecDepth 100000 in
theorem mw_151 : Cond.lays RX4 RX4 "heardBit" "I" ∈ gw_all := List.mem_filter.mpr ⟨mt_1 (List.mem_of_getElem? (i := 100) rfl), rfl⟩
set_option maxRecDepth 100000 in
theorem mw_153 : Cond.lays RX4 RX4 "heard" "I" ∈ gw_all := List.mem_filter.mpr ⟨mt_1 (List.mem_of_getElem? (i := 102) rfl), rfl⟩
set_option maxRecDepth 100000 in
theorem mw_155 : Cond.lays RX4 RX4 "hash" "I" ∈ gw_all := List.mem_filter.mpr ⟨mt_1 (List.mem_of_getElem? (i := 104) rfl), rfl⟩
set_option maxRecDepth 100000 in
theorem mw_157 : Cond.lays RX4 RX4 "greatestLag" "I" ∈ gw_all := List.mem_filter.mpr ⟨mt_1 (List.mem_of_getElem? (i := 106) rfl), rfl⟩
set_option maxRecDepth 100000 in
theorem mw_160 : Cond.classLink RX1 26 RX0 ∈ gw_all := List.mem_filter.mpr ⟨mt_1 (List.mem_of_getElem? (i := 109) rfl), rfl⟩
set_option maxRecDepth 100000 in
theorem mw_161 : Cond.instantiable RX0 6 ∈ gw_all := List.mem_filter.mpr ⟨mt_1 (List.mem_of_getElem? (i := 110) rfl), rfl⟩
set_option maxRecDepth 100000 in
theorem nw_162 : Cond.methodLinkNest RX1 28 yX0_init RX6 ∈ lw_tbl := mt_1 (List.mem_of_getElem? (i := 111) rfl)
set_option maxRecDepth 100000 in
theorem mw_163 : Cond.instanceMethod yX0_init ∈ gw_all := List.mem_filter.mpr ⟨mt_1 (List.mem_of_getElem? (i := 112) rfl), rfl⟩
set_option maxRecDepth 100000 in
theorem mw_164 : Cond.code yX0_init cX0_init 1 none ∈ gw_all := List.mem_filter.mpr ⟨mt_1 (List.mem_of_getElem? (i := 113) rfl), rfl⟩
set_option maxRecDepth 100000 in
theorem mw_165 : Cond.methodLink RX0 1 objectInit ∈ gw_all := List.mem_filter.mpr ⟨mt_1 (List.mem_of_getElem? (i := 114) rfl), rfl⟩
set_option maxRecDepth 100000 in
theorem mw_166 : Cond.fieldLink RX0 7 RX0 "period" "I" ∈ gw_all := List.mem_filter.mpr ⟨mt_1 (List.mem_of_getElem? (i := 115) rfl), rfl⟩
set_option maxRecDepth 100000 in
theorem mw_167 : Cond.fieldLink RX6 163 RX0 "period" "I" ∈ gw_all := List.mem_filter.mpr ⟨mt_1 (List.mem_of_getElem? (i := 116) rfl), rfl⟩
set_option maxRecDepth 100000 in
theorem mw_168 : Cond.fieldLink RX0 13 RX0 "phase" "I" ∈ gw_all := List.mem_filter.mpr ⟨mt_1 (List.mem_of_getElem? (i := 117) rfl), rfl⟩
set_option maxRecDepth 100000 in
theorem mw_169 : Cond.fieldLink RX6 307 RX0 "phase" "I" ∈ gw_all := List.mem_filter.mpr ⟨mt_1 (List.mem_of_getElem? (i := 118) rfl), rfl⟩
set_option maxRecDepth 100000 in
theorem mw_170 : Cond.fieldLink RX0 16 RX0 "window" "I" ∈ gw_all := List.mem_filter.mpr ⟨mt_1 (List.mem_of_getElem? (i := 119) rfl), rfl⟩
set_option maxRecDepth 100000 in
theorem mw_171 : Cond.fieldLink RX6 310 RX0 "window" "I" ∈ gw_all := List.mem_filter.mpr ⟨mt_1 (List.mem_of_getElem? (i := 120) rfl), rfl⟩
set_option maxRecDepth 100000 in
theorem mw_172 : Cond.fieldLink RX0 19 RX0 "got" "I" ∈ gw_all := List.mem_filter.mpr ⟨mt_1 (List.mem_of_getElem? (i := 121) rfl), rfl⟩
set_option maxRecDepth 100000 in
theorem mw_173 : Cond.fieldLink RX6 313 RX0 "got" "I" ∈ gw_all := List.mem_filter.mpr ⟨mt_1 (List.mem_of_getElem? (i := 122) rfl), rfl⟩
set_option maxRecDepth 100000 in
theorem mw_174 : Cond.fieldLink RX0 22 RX0 "missed" "I" ∈ gw_all := List.mem_filter.mpr ⟨mt_1 (List.mem_of_getElem? (i := 123) rfl), rfl⟩
set_option maxRecDepth 100000 in
theorem mw_175 : Cond.fieldLink RX5 132 RX0 "missed" "I" ∈ gw_all := List.mem_filter.mpr ⟨mt_1 (List.mem_of_getElem? (i := 124) rfl), rfl⟩
set_option maxRecDepth 100000 in
theorem mw_176 : Cond.fieldLink RX6 316 RX0 "missed" "I" ∈ gw_all := List.mem_filter.mpr ⟨mt_1 (List.mem_of_getElem? (i := 125) rfl), rfl⟩
set_option maxRecDepth 100000 in
theorem mw_177 : Cond.fieldLink RX0 25 RX0 "turnsLeft" "I" ∈ gw_all := List.mem_filter.mpr ⟨mt_1 (List.mem_of_getElem? (i := 126) rfl), rfl⟩
set_option maxRecDepth 100000 in
theorem mw_178 : Cond.fieldLink RX2 124 RX0 "turnsLeft" "I" ∈ gw_all := List.mem_filter.mpr ⟨mt_1 (List.mem_of_getElem? (i := 127) rfl), rfl⟩
set_option maxRecDepth 100000 in
theorem mw_179 : Cond.fieldLink RX6 319 RX0 "turnsLeft" "I" ∈ gw_all := List.mem_filter.mpr ⟨mt_1 (List.mem_of_getElem? (i := 128) rfl), rfl⟩
set_option maxRecDepth 100000 in
theorem mw_180 : Cond.lays RX0 RX0 "period" "I" ∈ gw_all := List.mem_filter.mpr ⟨mt_1 (List.mem_of_getElem? (i := 129) rfl), rfl⟩
set_option maxRecDepth 100000 in
theorem mw_182 : Cond.lays RX0 RX0 "phase" "I" ∈ gw_all := List.mem_filter.mpr ⟨mt_1 (List.mem_of_getElem? (i := 131) rfl), rfl⟩
set_option maxRecDepth 100000 in
theorem mw_184 : Cond.lays RX0 RX0 "window" "I" ∈ gw_all := List.mem_filter.mpr ⟨mt_1 (List.mem_of_getElem? (i := 133) rfl), rfl⟩
set_option maxRecDepth 100000 in
theorem mw_186 : Cond.lays RX0 RX0 "got" "I" ∈ gw_all := List.mem_filter.mpr ⟨mt_1 (List.mem_of_getElem? (i := 135) rfl), rfl⟩
set_option maxRecDepth 100000 in
theorem mw_188 : Cond.lays RX0 RX0 "missed" "I" ∈ gw_all := List.mem_filter.mpr ⟨mt_1 (List.mem_of_getElem? (i := 137) rfl), rfl⟩
set_option maxRecDepth 100000 in
theorem mw_190 : Cond.lays RX0 RX0 "turnsLeft" "I" ∈ gw_all := List.mem_filter.mpr ⟨mt_1 (List.mem_of_getElem? (i := 139) rfl), rfl⟩
set_option maxRecDepth 100000 in
theorem mw_193 : Cond.fieldLink RX1 10 RX1 "plan" "LHopNet$Plan;" ∈ gw_all := List.mem_filter.mpr ⟨mt_1 (List.mem_of_getElem? (i := 142) rfl), rfl⟩
set_option maxRecDepth 100000 in
theorem mw_194 : Cond.fieldLink RX5 117 RX1 "plan" "LHopNet$Plan;" ∈ gw_all := List.mem_filter.mpr ⟨mt_1 (List.mem_of_getElem? (i := 143) rfl), rfl⟩
set_option maxRecDepth 100000 in
theorem mw_195 : Cond.fieldLink RX2 132 RX1 "plan" "LHopNet$Plan;" ∈ gw_all := List.mem_filter.mpr ⟨mt_1 (List.mem_of_getElem? (i := 144) rfl), rfl⟩
set_option maxRecDepth 100000 in
theorem mw_196 : Cond.fieldLink RX6 237 RX1 "plan" "LHopNet$Plan;" ∈ gw_all := List.mem_filter.mpr ⟨mt_1 (List.mem_of_getElem? (i := 145) rfl), rfl⟩
set_option maxRecDepth 100000 in
theorem mw_197 : Cond.fieldLink RX1 19 RX1 "down" "LHopNet$Row;" ∈ gw_all := List.mem_filter.mpr ⟨mt_1 (List.mem_of_getElem? (i := 146) rfl), rfl⟩
set_option maxRecDepth 100000 in
theorem mw_198 : Cond.fieldLink RX6 135 RX1 "down" "LHopNet$Row;" ∈ gw_all := List.mem_filter.mpr ⟨mt_1 (List.mem_of_getElem? (i := 147) rfl), rfl⟩
set_option maxRecDepth 100000 in
theorem mw_199 : Cond.fieldLink RX5 137 RX1 "down" "LHopNet$Row;" ∈ gw_all := List.mem_filter.mpr ⟨mt_1 (List.mem_of_getElem? (i := 148) rfl), rfl⟩
set_option maxRecDepth 100000 in
theorem mw_200 : Cond.fieldLink RX1 23 RX1 "up" "LHopNet$Row;" ∈ gw_all := List.mem_filter.mpr ⟨mt_1 (List.mem_of_getElem? (i := 149) rfl), rfl⟩
set_option maxRecDepth 100000 in
theorem mw_201 : Cond.fieldLink RX6 141 RX1 "up" "LHopNet$Row;" ∈ gw_all := List.mem_filter.mpr ⟨mt_1 (List.mem_of_getElem? (i := 150) rfl), rfl⟩
set_option maxRecDepth 100000 in
theorem mw_202 : Cond.fieldLink RX5 146 RX1 "up" "LHopNet$Row;" ∈ gw_all := List.mem_filter.mpr ⟨mt_1 (List.mem_of_getElem? (i := 151) rfl), rfl⟩
set_option maxRecDepth 100000 in
theorem mw_203 : Cond.fieldLink RX1 29 RX1 "frames" "LHopNet$Frames;" ∈ gw_all := List.mem_filter.mpr ⟨mt_1 (List.mem_of_getElem? (i := 152) rfl), rfl⟩
set_option maxRecDepth 100000 in
theorem mw_204 : Cond.fieldLink RX6 159 RX1 "frames" "LHopNet$Frames;" ∈ gw_all := List.mem_filter.mpr ⟨mt_1 (List.mem_of_getElem? (i := 153) rfl), rfl⟩
set_option maxRecDepth 100000 in
theorem mw_205 : Cond.fieldLink RX2 120 RX1 "frames" "LHopNet$Frames;" ∈ gw_all := List.mem_filter.mpr ⟨mt_1 (List.mem_of_getElem? (i := 154) rfl), rfl⟩
set_option maxRecDepth 100000 in
theorem mw_206 : Cond.fieldLink RX5 128 RX1 "frames" "LHopNet$Frames;" ∈ gw_all := List.mem_filter.mpr ⟨mt_1 (List.mem_of_getElem? (i := 155) rfl), rfl⟩
set_option maxRecDepth 100000 in
theorem mw_207 : Cond.fieldLink RX1 33 RX1 "radio" "I" ∈ gw_all := List.mem_filter.mpr ⟨mt_1 (List.mem_of_getElem? (i := 156) rfl), rfl⟩
set_option maxRecDepth 100000 in
theorem mw_208 : Cond.fieldLink RX2 96 RX1 "radio" "I" ∈ gw_all := List.mem_filter.mpr ⟨mt_1 (List.mem_of_getElem? (i := 157) rfl), rfl⟩
set_option maxRecDepth 100000 in
theorem mw_209 : Cond.fieldLink RX5 72 RX1 "radio" "I" ∈ gw_all := List.mem_filter.mpr ⟨mt_1 (List.mem_of_getElem? (i := 158) rfl), rfl⟩
set_option maxRecDepth 100000 in
theorem mw_210 : Cond.fieldLink RX6 271 RX1 "radio" "I" ∈ gw_all := List.mem_filter.mpr ⟨mt_1 (List.mem_of_getElem? (i := 159) rfl), rfl⟩
set_option maxRecDepth 100000 in
theorem mw_211 : Cond.fieldLink RX1 41 RX1 "known" "Z" ∈ gw_all := List.mem_filter.mpr ⟨mt_1 (List.mem_of_getElem? (i := 160) rfl), rfl⟩
set_option maxRecDepth 100000 in
theorem mw_212 : Cond.fieldLink RX2 111 RX1 "known" "Z" ∈ gw_all := List.mem_filter.mpr ⟨mt_1 (List.mem_of_getElem? (i := 161) rfl), rfl⟩
set_option maxRecDepth 100000 in
theorem mw_213 : Cond.fieldLink RX6 246 RX1 "known" "Z" ∈ gw_all := List.mem_filter.mpr ⟨mt_1 (List.mem_of_getElem? (i := 162) rfl), rfl⟩
set_option maxRecDepth 100000 in
theorem mw_214 : Cond.fieldLink RX5 235 RX1 "known" "Z" ∈ gw_all := List.mem_filter.mpr ⟨mt_1 (List.mem_of_getElem? (i := 163) rfl), rfl⟩
set_option maxRecDepth 100000 in
theorem mw_215 : Cond.fieldLink RX1 48 RX1 "upWasHeard" "Z" ∈ gw_all := List.mem_filter.mpr ⟨mt_1 (List.mem_of_getElem? (i := 164) rfl), rfl⟩
set_option maxRecDepth 100000 in
theorem mw_216 : Cond.fieldLink RX5 260 RX1 "upWasHeard" "Z" ∈ gw_all := List.mem_filter.mpr ⟨mt_1 (List.mem_of_getElem? (i := 165) rfl), rfl⟩
set_option maxRecDepth 100000 in
theorem mw_217 : Cond.fieldLink RX1 55 RX1 "sniffPeriod" "I" ∈ gw_all := List.mem_filter.mpr ⟨mt_1 (List.mem_of_getElem? (i := 166) rfl), rfl⟩
set_option maxRecDepth 100000 in
theorem mw_218 : Cond.fieldLink RX6 172 RX1 "sniffPeriod" "I" ∈ gw_all := List.mem_filter.mpr ⟨mt_1 (List.mem_of_getElem? (i := 167) rfl), rfl⟩
set_option maxRecDepth 100000 in
theorem mw_219 : Cond.fieldLink RX1 58 RX1 "sniffTries" "I" ∈ gw_all := List.mem_filter.mpr ⟨mt_1 (List.mem_of_getElem? (i := 168) rfl), rfl⟩
set_option maxRecDepth 100000 in
theorem mw_220 : Cond.fieldLink RX6 175 RX1 "sniffTries" "I" ∈ gw_all := List.mem_filter.mpr ⟨mt_1 (List.mem_of_getElem? (i := 169) rfl), rfl⟩
set_option maxRecDepth 100000 in
theorem mw_221 : Cond.fieldLink RX1 61 RX1 "weight" "I" ∈ gw_all := List.mem_filter.mpr ⟨mt_1 (List.mem_of_getElem? (i := 170) rfl), rfl⟩
set_option maxRecDepth 100000 in
theorem mw_222 : Cond.fieldLink RX6 178 RX1 "weight" "I" ∈ gw_all := List.mem_filter.mpr ⟨mt_1 (List.mem_of_getElem? (i := 171) rfl), rfl⟩
set_option maxRecDepth 100000 in
theorem mw_223 : Cond.fieldLink RX2 129 RX1 "weight" "I" ∈ gw_all := List.mem_filter.mpr ⟨mt_1 (List.mem_of_getElem? (i := 172) rfl), rfl⟩
set_option maxRecDepth 100000 in
theorem mw_224 : Cond.fieldLink RX1 64 RX1 "castBit" "I" ∈ gw_all := List.mem_filter.mpr ⟨mt_1 (List.mem_of_getElem? (i := 173) rfl), rfl⟩
set_option maxRecDepth 100000 in
theorem mw_225 : Cond.fieldLink RX6 295 RX1 "castBit" "I" ∈ gw_all := List.mem_filter.mpr ⟨mt_1 (List.mem_of_getElem? (i := 174) rfl), rfl⟩
set_option maxRecDepth 100000 in
theorem mw_226 : Cond.fieldLink RX1 67 RX1 "castsHeard" "I" ∈ gw_all := List.mem_filter.mpr ⟨mt_1 (List.mem_of_getElem? (i := 175) rfl), rfl⟩
set_option maxRecDepth 100000 in
theorem mw_227 : Cond.fieldLink RX6 292 RX1 "castsHeard" "I" ∈ gw_all := List.mem_filter.mpr ⟨mt_1 (List.mem_of_getElem? (i := 176) rfl), rfl⟩
set_option maxRecDepth 100000 in
theorem mw_228 : Cond.fieldLink RX1 70 RX1 "castHash" "I" ∈ gw_all := List.mem_filter.mpr ⟨mt_1 (List.mem_of_getElem? (i := 177) rfl), rfl⟩
set_option maxRecDepth 100000 in
theorem mw_229 : Cond.fieldLink RX6 304 RX1 "castHash" "I" ∈ gw_all := List.mem_filter.mpr ⟨mt_1 (List.mem_of_getElem? (i := 178) rfl), rfl⟩
set_option maxRecDepth 100000 in
theorem mw_230 : Cond.fieldLink RX1 73 RX1 "timesChosen" "I" ∈ gw_all := List.mem_filter.mpr ⟨mt_1 (List.mem_of_getElem? (i := 179) rfl), rfl⟩
set_option maxRecDepth 100000 in
theorem mw_231 : Cond.fieldLink RX5 222 RX1 "timesChosen" "I" ∈ gw_all := List.mem_filter.mpr ⟨mt_1 (List.mem_of_getElem? (i := 180) rfl), rfl⟩
set_option maxRecDepth 100000 in
theorem mw_232 : Cond.fieldLink RX6 286 RX1 "timesChosen" "I" ∈ gw_all := List.mem_filter.mpr ⟨mt_1 (List.mem_of_getElem? (i := 181) rfl), rfl⟩
set_option maxRecDepth 100000 in
theorem mw_233 : Cond.fieldLink RX1 76 RX1 "turnsReady" "I" ∈ gw_all := List.mem_filter.mpr ⟨mt_1 (List.mem_of_getElem? (i := 182) rfl), rfl⟩
set_option maxRecDepth 100000 in
theorem mw_234 : Cond.fieldLink RX5 197 RX1 "turnsReady" "I" ∈ gw_all := List.mem_filter.mpr ⟨mt_1 (List.mem_of_getElem? (i := 183) rfl), rfl⟩
set_option maxRecDepth 100000 in
theorem mw_235 : Cond.fieldLink RX6 289 RX1 "turnsReady" "I" ∈ gw_all := List.mem_filter.mpr ⟨mt_1 (List.mem_of_getElem? (i := 184) rfl), rfl⟩
set_option maxRecDepth 100000 in
theorem mw_236 : Cond.fieldLink RX1 79 RX1 "why" "I" ∈ gw_all := List.mem_filter.mpr ⟨mt_1 (List.mem_of_getElem? (i := 185) rfl), rfl⟩
set_option maxRecDepth 100000 in
theorem mw_237 : Cond.fieldLink RX5 254 RX1 "why" "I" ∈ gw_all := List.mem_filter.mpr ⟨mt_1 (List.mem_of_getElem? (i := 186) rfl), rfl⟩
set_option maxRecDepth 100000 in
theorem mw_238 : Cond.fieldLink RX6 277 RX1 "why" "I" ∈ gw_all := List.mem_filter.mpr ⟨mt_1 (List.mem_of_getElem? (i := 187) rfl), rfl⟩
set_option maxRecDepth 100000 in
theorem mw_239 : Cond.fieldLink RX1 82 RX1 "lastHeard" "I" ∈ gw_all := List.mem_filter.mpr ⟨mt_1 (List.mem_of_getElem? (i := 188) rfl), rfl⟩
set_option maxRecDepth 100000 in
theorem mw_240 : Cond.fieldLink RX5 297 RX1 "lastHeard" "I" ∈ gw_all := List.mem_filter.mpr ⟨mt_1 (List.mem_of_getElem? (i := 189) rfl), rfl⟩
set_option maxRecDepth 100000 in
theorem mw_241 : Cond.fieldLink RX6 372 RX1 "lastHeard" "I" ∈ gw_all := List.mem_filter.mpr ⟨mt_1 (List.mem_of_getElem? (i := 190) rfl), rfl⟩
set_option maxRecDepth 100000 in
theorem mw_242 : Cond.fieldLink RX1 85 RX1 "isReady" "Z" ∈ gw_all := List.mem_filter.mpr ⟨mt_1 (List.mem_of_getElem? (i := 191) rfl), rfl⟩
set_option maxRecDepth 100000 in
theorem mw_243 : Cond.fieldLink RX2 117 RX1 "isReady" "Z" ∈ gw_all := List.mem_filter.mpr ⟨mt_1 (List.mem_of_getElem? (i := 192) rfl), rfl⟩
set_option maxRecDepth 100000 in
theorem mw_244 : Cond.fieldLink RX5 193 RX1 "isReady" "Z" ∈ gw_all := List.mem_filter.mpr ⟨mt_1 (List.mem_of_getElem? (i := 193) rfl), rfl⟩
set_option maxRecDepth 100000 in
theorem mw_245 : Cond.laysFinal RX1 RX1 "plan" "LHopNet$Plan;" ∈ gw_all := List.mem_filter.mpr ⟨mt_1 (List.mem_of_getElem? (i := 194) rfl), rfl⟩
set_option maxRecDepth 100000 in
theorem mw_247 : Cond.laysFinal RX1 RX1 "down" "LHopNet$Row;" ∈ gw_all := List.mem_filter.mpr ⟨mt_1 (List.mem_of_getElem? (i := 196) rfl), rfl⟩
set_option maxRecDepth 100000 in
theorem mw_249 : Cond.laysFinal RX1 RX1 "up" "LHopNet$Row;" ∈ gw_all := List.mem_filter.mpr ⟨mt_1 (List.mem_of_getElem? (i := 198) rfl), rfl⟩
set_option maxRecDepth 100000 in
theorem mw_251 : Cond.laysFinal RX1 RX1 "frames" "LHopNet$Frames;" ∈ gw_all := List.mem_filter.mpr ⟨mt_1 (List.mem_of_getElem? (i := 200) rfl), rfl⟩
set_option maxRecDepth 100000 in
theorem mw_253 : Cond.lays RX1 RX1 "radio" "I" ∈ gw_all := List.mem_filter.mpr ⟨mt_1 (List.mem_of_getElem? (i := 202) rfl), rfl⟩
set_option maxRecDepth 100000 in
theorem mw_255 : Cond.lays RX1 RX1 "known" "Z" ∈ gw_all := List.mem_filter.mpr ⟨mt_1 (List.mem_of_getElem? (i := 204) rfl), rfl⟩
set_option maxRecDepth 100000 in
theorem mw_257 : Cond.lays RX1 RX1 "upWasHeard" "Z" ∈ gw_all := List.mem_filter.mpr ⟨mt_1 (List.mem_of_getElem? (i := 206) rfl), rfl⟩
set_option maxRecDepth 100000 in
theorem mw_259 : Cond.lays RX1 RX1 "sniffPeriod" "I" ∈ gw_all := List.mem_filter.mpr ⟨mt_1 (List.mem_of_getElem? (i := 208) rfl), rfl⟩
set_option maxRecDepth 100000 in
theorem mw_261 : Cond.lays RX1 RX1 "sniffTries" "I" ∈ gw_all := List.mem_filter.mpr ⟨mt_1 (List.mem_of_getElem? (i := 210) rfl), rfl⟩
set_option maxRecDepth 100000 in
theorem mw_263 : Cond.lays RX1 RX1 "weight" "I" ∈ gw_all := List.mem_filter.mpr ⟨mt_1 (List.mem_of_getElem? (i := 212) rfl), rfl⟩
set_option maxRecDepth 100000 in
theorem mw_265 : Cond.lays RX1 RX1 "castBit" "I" ∈ gw_all := List.mem_filter.mpr ⟨mt_1 (List.mem_of_getElem? (i := 214) rfl), rfl⟩
set_option maxRecDepth 100000 in
theorem mw_267 : Cond.lays RX1 RX1 "castsHeard" "I" ∈ gw_all := List.mem_filter.mpr ⟨mt_1 (List.mem_of_getElem? (i := 216) rfl), rfl⟩
set_option maxRecDepth 100000 in
theorem mw_269 : Cond.lays RX1 RX1 "castHash" "I" ∈ gw_all := List.mem_filter.mpr ⟨mt_1 (List.mem_of_getElem? (i := 218) rfl), rfl⟩
set_option maxRecDepth 100000 in
theorem mw_271 : Cond.lays RX1 RX1 "timesChosen" "I" ∈ gw_all := List.mem_filter.mpr ⟨mt_1 (List.mem_of_getElem? (i := 220) rfl), rfl⟩
set_option maxRecDepth 100000 in
theorem mw_273 : Cond.lays RX1 RX1 "turnsReady" "I" ∈ gw_all := List.mem_filter.mpr ⟨mt_1 (List.mem_of_getElem? (i := 222) rfl), rfl⟩
set_option maxRecDepth 100000 in
theorem mw_275 : Cond.lays RX1 RX1 "why" "I" ∈ gw_all := List.mem_filter.mpr ⟨mt_1 (List.mem_of_getElem? (i := 224) rfl), rfl⟩
set_option maxRecDepth 100000 in
theorem mw_277 : Cond.lays RX1 RX1 "lastHeard" "I" ∈ gw_all := List.mem_filter.mpr ⟨mt_1 (List.mem_of_getElem? (i := 226) rfl), rfl⟩
set_option maxRecDepth 100000 in
theorem mw_279 : Cond.lays RX1 RX1 "isReady" "Z" ∈ gw_all := List.mem_filter.mpr ⟨mt_1 (List.mem_of_getElem? (i := 228) rfl), rfl⟩
set_option maxRecDepth 100000 in
theorem mw_282 : Cond.fieldLink RX2 12 RX2 "plan" "LHopNet$Plan;" ∈ gw_all := List.mem_filter.mpr ⟨mt_1 (List.mem_of_getElem? (i := 231) rfl), rfl⟩
set_option maxRecDepth 100000 in
theorem mw_283 : Cond.fieldLink RX5 104 RX2 "plan" "LHopNet$Plan;" ∈ gw_all := List.mem_filter.mpr ⟨mt_1 (List.mem_of_getElem? (i := 232) rfl), rfl⟩
set_option maxRecDepth 100000 in
theorem mw_284 : Cond.fieldLink RX6 190 RX2 "plan" "LHopNet$Plan;" ∈ gw_all := List.mem_filter.mpr ⟨mt_1 (List.mem_of_getElem? (i := 233) rfl), rfl⟩
set_option maxRecDepth 100000 in
theorem mw_285 : Cond.fieldLink RX2 18 RX2 "casts" "[I" ∈ gw_all := List.mem_filter.mpr ⟨mt_1 (List.mem_of_getElem? (i := 234) rfl), rfl⟩
set_option maxRecDepth 100000 in
theorem mw_286 : Cond.fieldLink RX6 184 RX2 "casts" "[I" ∈ gw_all := List.mem_filter.mpr ⟨mt_1 (List.mem_of_getElem? (i := 235) rfl), rfl⟩
set_option maxRecDepth 100000 in
theorem mw_287 : Cond.fieldLink RX2 22 RX2 "sentOn" "[I" ∈ gw_all := List.mem_filter.mpr ⟨mt_1 (List.mem_of_getElem? (i := 236) rfl), rfl⟩
set_option maxRecDepth 100000 in
theorem mw_288 : Cond.fieldLink RX6 265 RX2 "sentOn" "[I" ∈ gw_all := List.mem_filter.mpr ⟨mt_1 (List.mem_of_getElem? (i := 237) rfl), rfl⟩
set_option maxRecDepth 100000 in
theorem mw_289 : Cond.fieldLink RX2 25 RX2 "answeredOn" "[I" ∈ gw_all := List.mem_filter.mpr ⟨mt_1 (List.mem_of_getElem? (i := 238) rfl), rfl⟩
set_option maxRecDepth 100000 in
theorem mw_290 : Cond.fieldLink RX6 268 RX2 "answeredOn" "[I" ∈ gw_all := List.mem_filter.mpr ⟨mt_1 (List.mem_of_getElem? (i := 239) rfl), rfl⟩
set_option maxRecDepth 100000 in
theorem mw_291 : Cond.fieldLink RX2 30 RX2 "links" "[LHopNet$Link;" ∈ gw_all := List.mem_filter.mpr ⟨mt_2 (List.mem_of_getElem? (i := 0) rfl), rfl⟩
set_option maxRecDepth 100000 in
theorem mw_292 : Cond.fieldLink RX5 124 RX2 "links" "[LHopNet$Link;" ∈ gw_all := List.mem_filter.mpr ⟨mt_2 (List.mem_of_getElem? (i := 1) rfl), rfl⟩
set_option maxRecDepth 100000 in
theorem mw_293 : Cond.fieldLink RX6 368 RX2 "links" "[LHopNet$Link;" ∈ gw_all := List.mem_filter.mpr ⟨mt_2 (List.mem_of_getElem? (i := 2) rfl), rfl⟩
set_option maxRecDepth 100000 in
theorem mw_294 : Cond.fieldLink RX2 34 RX2 "master" "I" ∈ gw_all := List.mem_filter.mpr ⟨mt_2 (List.mem_of_getElem? (i := 3) rfl), rfl⟩
set_option maxRecDepth 100000 in
theorem mw_295 : Cond.fieldLink RX6 84 RX2 "master" "I" ∈ gw_all := List.mem_filter.mpr ⟨mt_2 (List.mem_of_getElem? (i := 4) rfl), rfl⟩
set_option maxRecDepth 100000 in
theorem mw_296 : Cond.fieldLink RX5 57 RX2 "master" "I" ∈ gw_all := List.mem_filter.mpr ⟨mt_2 (List.mem_of_getElem? (i := 5) rfl), rfl⟩
set_option maxRecDepth 100000 in
theorem mw_297 : Cond.fieldLink RX2 38 RX2 "offset" "I" ∈ gw_all := List.mem_filter.mpr ⟨mt_2 (List.mem_of_getElem? (i := 6) rfl), rfl⟩
set_option maxRecDepth 100000 in
theorem mw_298 : Cond.fieldLink RX6 89 RX2 "offset" "I" ∈ gw_all := List.mem_filter.mpr ⟨mt_2 (List.mem_of_getElem? (i := 7) rfl), rfl⟩
set_option maxRecDepth 100000 in
theorem mw_299 : Cond.fieldLink RX5 91 RX2 "offset" "I" ∈ gw_all := List.mem_filter.mpr ⟨mt_2 (List.mem_of_getElem? (i := 8) rfl), rfl⟩
set_option maxRecDepth 100000 in
theorem mw_300 : Cond.fieldLink RX2 42 RX2 "mapAhead" "I" ∈ gw_all := List.mem_filter.mpr ⟨mt_2 (List.mem_of_getElem? (i := 9) rfl), rfl⟩
set_option maxRecDepth 100000 in
theorem mw_301 : Cond.fieldLink RX5 183 RX2 "mapAhead" "I" ∈ gw_all := List.mem_filter.mpr ⟨mt_2 (List.mem_of_getElem? (i := 10) rfl), rfl⟩
set_option maxRecDepth 100000 in
theorem mw_302 : Cond.fieldLink RX6 256 RX2 "mapAhead" "I" ∈ gw_all := List.mem_filter.mpr ⟨mt_2 (List.mem_of_getElem? (i := 11) rfl), rfl⟩
set_option maxRecDepth 100000 in
theorem mw_303 : Cond.fieldLink RX2 45 RX2 "linkCount" "I" ∈ gw_all := List.mem_filter.mpr ⟨mt_2 (List.mem_of_getElem? (i := 12) rfl), rfl⟩
set_option maxRecDepth 100000 in
theorem mw_304 : Cond.fieldLink RX6 92 RX2 "linkCount" "I" ∈ gw_all := List.mem_filter.mpr ⟨mt_2 (List.mem_of_getElem? (i := 13) rfl), rfl⟩
set_option maxRecDepth 100000 in
theorem mw_305 : Cond.fieldLink RX5 121 RX2 "linkCount" "I" ∈ gw_all := List.mem_filter.mpr ⟨mt_2 (List.mem_of_getElem? (i := 14) rfl), rfl⟩
set_option maxRecDepth 100000 in
theorem mw_306 : Cond.fieldLink RX2 48 RX2 "polled" "I" ∈ gw_all := List.mem_filter.mpr ⟨mt_2 (List.mem_of_getElem? (i := 15) rfl), rfl⟩
set_option maxRecDepth 100000 in
theorem mw_307 : Cond.fieldLink RX6 375 RX2 "polled" "I" ∈ gw_all := List.mem_filter.mpr ⟨mt_2 (List.mem_of_getElem? (i := 16) rfl), rfl⟩
set_option maxRecDepth 100000 in
theorem mw_308 : Cond.fieldLink RX2 51 RX2 "pollsInRow" "I" ∈ gw_all := List.mem_filter.mpr ⟨mt_2 (List.mem_of_getElem? (i := 17) rfl), rfl⟩
set_option maxRecDepth 100000 in
theorem mw_309 : Cond.fieldLink RX2 54 RX2 "castCount" "I" ∈ gw_all := List.mem_filter.mpr ⟨mt_2 (List.mem_of_getElem? (i := 18) rfl), rfl⟩
set_option maxRecDepth 100000 in
theorem mw_310 : Cond.fieldLink RX6 181 RX2 "castCount" "I" ∈ gw_all := List.mem_filter.mpr ⟨mt_2 (List.mem_of_getElem? (i := 19) rfl), rfl⟩
set_option maxRecDepth 100000 in
theorem mw_311 : Cond.fieldLink RX5 216 RX2 "castCount" "I" ∈ gw_all := List.mem_filter.mpr ⟨mt_2 (List.mem_of_getElem? (i := 20) rfl), rfl⟩
set_option maxRecDepth 100000 in
theorem mw_312 : Cond.fieldLink RX2 57 RX2 "castBit" "I" ∈ gw_all := List.mem_filter.mpr ⟨mt_2 (List.mem_of_getElem? (i := 21) rfl), rfl⟩
set_option maxRecDepth 100000 in
theorem mw_313 : Cond.fieldLink RX6 381 RX2 "castBit" "I" ∈ gw_all := List.mem_filter.mpr ⟨mt_2 (List.mem_of_getElem? (i := 22) rfl), rfl⟩
set_option maxRecDepth 100000 in
theorem mw_314 : Cond.fieldLink RX2 60 RX2 "firstCastSent" "I" ∈ gw_all := List.mem_filter.mpr ⟨mt_2 (List.mem_of_getElem? (i := 23) rfl), rfl⟩
set_option maxRecDepth 100000 in
theorem mw_315 : Cond.fieldLink RX6 378 RX2 "firstCastSent" "I" ∈ gw_all := List.mem_filter.mpr ⟨mt_2 (List.mem_of_getElem? (i := 24) rfl), rfl⟩
set_option maxRecDepth 100000 in
theorem mw_316 : Cond.fieldLink RX2 63 RX2 "isCasting" "Z" ∈ gw_all := List.mem_filter.mpr ⟨mt_2 (List.mem_of_getElem? (i := 25) rfl), rfl⟩
set_option maxRecDepth 100000 in
theorem mw_317 : Cond.fieldLink RX5 206 RX2 "isCasting" "Z" ∈ gw_all := List.mem_filter.mpr ⟨mt_2 (List.mem_of_getElem? (i := 26) rfl), rfl⟩
set_option maxRecDepth 100000 in
theorem mw_318 : Cond.fieldLink RX6 356 RX2 "isCasting" "Z" ∈ gw_all := List.mem_filter.mpr ⟨mt_2 (List.mem_of_getElem? (i := 27) rfl), rfl⟩
set_option maxRecDepth 100000 in
theorem mw_319 : Cond.fieldLink RX2 67 RX2 "chosen" "I" ∈ gw_all := List.mem_filter.mpr ⟨mt_2 (List.mem_of_getElem? (i := 28) rfl), rfl⟩
set_option maxRecDepth 100000 in
theorem mw_320 : Cond.fieldLink RX5 203 RX2 "chosen" "I" ∈ gw_all := List.mem_filter.mpr ⟨mt_2 (List.mem_of_getElem? (i := 29) rfl), rfl⟩
set_option maxRecDepth 100000 in
theorem mw_321 : Cond.fieldLink RX6 359 RX2 "chosen" "I" ∈ gw_all := List.mem_filter.mpr ⟨mt_2 (List.mem_of_getElem? (i := 30) rfl), rfl⟩
set_option maxRecDepth 100000 in
theorem mw_322 : Cond.fieldLink RX2 70 RX2 "hopInSlot" "I" ∈ gw_all := List.mem_filter.mpr ⟨mt_2 (List.mem_of_getElem? (i := 31) rfl), rfl⟩
set_option maxRecDepth 100000 in
theorem mw_323 : Cond.fieldLink RX5 242 RX2 "hopInSlot" "I" ∈ gw_all := List.mem_filter.mpr ⟨mt_2 (List.mem_of_getElem? (i := 32) rfl), rfl⟩
set_option maxRecDepth 100000 in
theorem mw_324 : Cond.fieldLink RX2 73 RX2 "channelInSlot" "I" ∈ gw_all := List.mem_filter.mpr ⟨mt_2 (List.mem_of_getElem? (i := 33) rfl), rfl⟩
set_option maxRecDepth 100000 in
theorem mw_325 : Cond.fieldLink RX5 226 RX2 "channelInSlot" "I" ∈ gw_all := List.mem_filter.mpr ⟨mt_2 (List.mem_of_getElem? (i := 34) rfl), rfl⟩
set_option maxRecDepth 100000 in
theorem mw_326 : Cond.fieldLink RX2 76 RX2 "masterSentOn" "I" ∈ gw_all := List.mem_filter.mpr ⟨mt_2 (List.mem_of_getElem? (i := 35) rfl), rfl⟩
set_option maxRecDepth 100000 in
theorem mw_327 : Cond.fieldLink RX5 245 RX2 "masterSentOn" "I" ∈ gw_all := List.mem_filter.mpr ⟨mt_2 (List.mem_of_getElem? (i := 36) rfl), rfl⟩
set_option maxRecDepth 100000 in
theorem mw_328 : Cond.fieldLink RX2 79 RX2 "packetHeard" "Z" ∈ gw_all := List.mem_filter.mpr ⟨mt_2 (List.mem_of_getElem? (i := 37) rfl), rfl⟩
set_option maxRecDepth 100000 in
theorem mw_329 : Cond.fieldLink RX5 232 RX2 "packetHeard" "Z" ∈ gw_all := List.mem_filter.mpr ⟨mt_2 (List.mem_of_getElem? (i := 38) rfl), rfl⟩
set_option maxRecDepth 100000 in
theorem mw_330 : Cond.laysFinal RX2 RX2 "plan" "LHopNet$Plan;" ∈ gw_all := List.mem_filter.mpr ⟨mt_2 (List.mem_of_getElem? (i := 39) rfl), rfl⟩
set_option maxRecDepth 100000 in
theorem mw_332 : Cond.laysFinal RX2 RX2 "casts" "[I" ∈ gw_all := List.mem_filter.mpr ⟨mt_2 (List.mem_of_getElem? (i := 41) rfl), rfl⟩
set_option maxRecDepth 100000 in
theorem mw_334 : Cond.laysFinal RX2 RX2 "sentOn" "[I" ∈ gw_all := List.mem_filter.mpr ⟨mt_2 (List.mem_of_getElem? (i := 43) rfl), rfl⟩
set_option maxRecDepth 100000 in
theorem mw_336 : Cond.laysFinal RX2 RX2 "answeredOn" "[I" ∈ gw_all := List.mem_filter.mpr ⟨mt_2 (List.mem_of_getElem? (i := 45) rfl), rfl⟩
set_option maxRecDepth 100000 in
theorem mw_338 : Cond.laysFinal RX2 RX2 "links" "[LHopNet$Link;" ∈ gw_all := List.mem_filter.mpr ⟨mt_2 (List.mem_of_getElem? (i := 47) rfl), rfl⟩
set_option maxRecDepth 100000 in
theorem mw_340 : Cond.lays RX2 RX2 "master" "I" ∈ gw_all := List.mem_filter.mpr ⟨mt_2 (List.mem_of_getElem? (i := 49) rfl), rfl⟩
set_option maxRecDepth 100000 in
theorem mw_342 : Cond.lays RX2 RX2 "offset" "I" ∈ gw_all := List.mem_filter.mpr ⟨mt_2 (List.mem_of_getElem? (i := 51) rfl), rfl⟩
set_option maxRecDepth 100000 in
theorem mw_344 : Cond.lays RX2 RX2 "mapAhead" "I" ∈ gw_all := List.mem_filter.mpr ⟨mt_2 (List.mem_of_getElem? (i := 53) rfl), rfl⟩
set_option maxRecDepth 100000 in
theorem mw_346 : Cond.lays RX2 RX2 "linkCount" "I" ∈ gw_all := List.mem_filter.mpr ⟨mt_2 (List.mem_of_getElem? (i := 55) rfl), rfl⟩
set_option maxRecDepth 100000 in
theorem mw_348 : Cond.lays RX2 RX2 "polled" "I" ∈ gw_all := List.mem_filter.mpr ⟨mt_2 (List.mem_of_getElem? (i := 57) rfl), rfl⟩
set_option maxRecDepth 100000 in
theorem mw_350 : Cond.lays RX2 RX2 "pollsInRow" "I" ∈ gw_all := List.mem_filter.mpr ⟨mt_2 (List.mem_of_getElem? (i := 59) rfl), rfl⟩
set_option maxRecDepth 100000 in
theorem mw_352 : Cond.lays RX2 RX2 "castCount" "I" ∈ gw_all := List.mem_filter.mpr ⟨mt_2 (List.mem_of_getElem? (i := 61) rfl), rfl⟩
set_option maxRecDepth 100000 in
theorem mw_354 : Cond.lays RX2 RX2 "castBit" "I" ∈ gw_all := List.mem_filter.mpr ⟨mt_2 (List.mem_of_getElem? (i := 63) rfl), rfl⟩
set_option maxRecDepth 100000 in
theorem mw_356 : Cond.lays RX2 RX2 "firstCastSent" "I" ∈ gw_all := List.mem_filter.mpr ⟨mt_2 (List.mem_of_getElem? (i := 65) rfl), rfl⟩
set_option maxRecDepth 100000 in
theorem mw_358 : Cond.lays RX2 RX2 "isCasting" "Z" ∈ gw_all := List.mem_filter.mpr ⟨mt_2 (List.mem_of_getElem? (i := 67) rfl), rfl⟩
set_option maxRecDepth 100000 in
theorem mw_360 : Cond.lays RX2 RX2 "chosen" "I" ∈ gw_all := List.mem_filter.mpr ⟨mt_2 (List.mem_of_getElem? (i := 69) rfl), rfl⟩
set_option maxRecDepth 100000 in
theorem mw_362 : Cond.lays RX2 RX2 "hopInSlot" "I" ∈ gw_all := List.mem_filter.mpr ⟨mt_2 (List.mem_of_getElem? (i := 71) rfl), rfl⟩
set_option maxRecDepth 100000 in
theorem mw_364 : Cond.lays RX2 RX2 "channelInSlot" "I" ∈ gw_all := List.mem_filter.mpr ⟨mt_2 (List.mem_of_getElem? (i := 73) rfl), rfl⟩
set_option maxRecDepth 100000 in
theorem mw_366 : Cond.lays RX2 RX2 "masterSentOn" "I" ∈ gw_all := List.mem_filter.mpr ⟨mt_2 (List.mem_of_getElem? (i := 75) rfl), rfl⟩
set_option maxRecDepth 100000 in
theorem mw_368 : Cond.lays RX2 RX2 "packetHeard" "Z" ∈ gw_all := List.mem_filter.mpr ⟨mt_2 (List.mem_of_getElem? (i := 77) rfl), rfl⟩
set_option maxRecDepth 100000 in
theorem mw_371 : Cond.fieldLink RX5 9 RX5 "addresses" "[I" ∈ gw_all := List.mem_filter.mpr ⟨mt_2 (List.mem_of_getElem? (i := 80) rfl), rfl⟩
set_option maxRecDepth 100000 in
theorem mw_372 : Cond.fieldLink RX6 69 RX5 "addresses" "[I" ∈ gw_all := List.mem_filter.mpr ⟨mt_2 (List.mem_of_getElem? (i := 81) rfl), rfl⟩
set_option maxRecDepth 100000 in
theorem mw_373 : Cond.fieldLink RX5 15 RX5 "noises" "[I" ∈ gw_all := List.mem_filter.mpr ⟨mt_2 (List.mem_of_getElem? (i := 82) rfl), rfl⟩
set_option maxRecDepth 100000 in
theorem mw_374 : Cond.fieldLink RX6 116 RX5 "noises" "[I" ∈ gw_all := List.mem_filter.mpr ⟨mt_2 (List.mem_of_getElem? (i := 83) rfl), rfl⟩
set_option maxRecDepth 100000 in
theorem mw_375 : Cond.fieldLink RX5 18 RX5 "tallies" "[I" ∈ gw_all := List.mem_filter.mpr ⟨mt_2 (List.mem_of_getElem? (i := 84) rfl), rfl⟩
set_option maxRecDepth 100000 in
theorem mw_376 : Cond.fieldLink RX6 385 RX5 "tallies" "[I" ∈ gw_all := List.mem_filter.mpr ⟨mt_2 (List.mem_of_getElem? (i := 85) rfl), rfl⟩
set_option maxRecDepth 100000 in
theorem mw_377 : Cond.fieldLink RX5 23 RX5 "nets" "[LHopNet$Net;" ∈ gw_all := List.mem_filter.mpr ⟨mt_2 (List.mem_of_getElem? (i := 86) rfl), rfl⟩
set_option maxRecDepth 100000 in
theorem mw_378 : Cond.fieldLink RX6 80 RX5 "nets" "[LHopNet$Net;" ∈ gw_all := List.mem_filter.mpr ⟨mt_2 (List.mem_of_getElem? (i := 87) rfl), rfl⟩
set_option maxRecDepth 100000 in
theorem mw_379 : Cond.fieldLink RX5 27 RX5 "radioCount" "I" ∈ gw_all := List.mem_filter.mpr ⟨mt_2 (List.mem_of_getElem? (i := 88) rfl), rfl⟩
set_option maxRecDepth 100000 in
theorem mw_380 : Cond.fieldLink RX6 62 RX5 "radioCount" "I" ∈ gw_all := List.mem_filter.mpr ⟨mt_2 (List.mem_of_getElem? (i := 89) rfl), rfl⟩
set_option maxRecDepth 100000 in
theorem mw_381 : Cond.fieldLink RX5 31 RX5 "time" "I" ∈ gw_all := List.mem_filter.mpr ⟨mt_2 (List.mem_of_getElem? (i := 90) rfl), rfl⟩
set_option maxRecDepth 100000 in
theorem mw_382 : Cond.fieldLink RX6 102 RX5 "time" "I" ∈ gw_all := List.mem_filter.mpr ⟨mt_2 (List.mem_of_getElem? (i := 91) rfl), rfl⟩
set_option maxRecDepth 100000 in
theorem mw_383 : Cond.fieldLink RX5 34 RX5 "seed" "I" ∈ gw_all := List.mem_filter.mpr ⟨mt_2 (List.mem_of_getElem? (i := 92) rfl), rfl⟩
set_option maxRecDepth 100000 in
theorem mw_384 : Cond.fieldLink RX6 123 RX5 "seed" "I" ∈ gw_all := List.mem_filter.mpr ⟨mt_2 (List.mem_of_getElem? (i := 93) rfl), rfl⟩
set_option maxRecDepth 100000 in
theorem mw_385 : Cond.fieldLink RX5 37 RX5 "share" "I" ∈ gw_all := List.mem_filter.mpr ⟨mt_2 (List.mem_of_getElem? (i := 94) rfl), rfl⟩
set_option maxRecDepth 100000 in
theorem mw_386 : Cond.fieldLink RX6 126 RX5 "share" "I" ∈ gw_all := List.mem_filter.mpr ⟨mt_2 (List.mem_of_getElem? (i := 95) rfl), rfl⟩
set_option maxRecDepth 100000 in
theorem mw_387 : Cond.fieldLink RX5 40 RX5 "repeats" "I" ∈ gw_all := List.mem_filter.mpr ⟨mt_2 (List.mem_of_getElem? (i := 96) rfl), rfl⟩
set_option maxRecDepth 100000 in
theorem mw_388 : Cond.fieldLink RX6 129 RX5 "repeats" "I" ∈ gw_all := List.mem_filter.mpr ⟨mt_2 (List.mem_of_getElem? (i := 97) rfl), rfl⟩
set_option maxRecDepth 100000 in
theorem mw_389 : Cond.fieldLink RX5 43 RX5 "heardNow" "I" ∈ gw_all := List.mem_filter.mpr ⟨mt_2 (List.mem_of_getElem? (i := 98) rfl), rfl⟩
set_option maxRecDepth 100000 in
theorem mw_390 : Cond.laysFinal RX5 RX5 "addresses" "[I" ∈ gw_all := List.mem_filter.mpr ⟨mt_2 (List.mem_of_getElem? (i := 99) rfl), rfl⟩
set_option maxRecDepth 100000 in
theorem mw_392 : Cond.laysFinal RX5 RX5 "noises" "[I" ∈ gw_all := List.mem_filter.mpr ⟨mt_2 (List.mem_of_getElem? (i := 101) rfl), rfl⟩
set_option maxRecDepth 100000 in
theorem mw_394 : Cond.laysFinal RX5 RX5 "tallies" "[I" ∈ gw_all := List.mem_filter.mpr ⟨mt_2 (List.mem_of_getElem? (i := 103) rfl), rfl⟩
set_option maxRecDepth 100000 in
theorem mw_396 : Cond.laysFinal RX5 RX5 "nets" "[LHopNet$Net;" ∈ gw_all := List.mem_filter.mpr ⟨mt_2 (List.mem_of_getElem? (i := 105) rfl), rfl⟩
set_option maxRecDepth 100000 in
theorem mw_398 : Cond.lays RX5 RX5 "radioCount" "I" ∈ gw_all := List.mem_filter.mpr ⟨mt_2 (List.mem_of_getElem? (i := 107) rfl), rfl⟩
set_option maxRecDepth 100000 in
theorem mw_400 : Cond.lays RX5 RX5 "time" "I" ∈ gw_all := List.mem_filter.mpr ⟨mt_2 (List.mem_of_getElem? (i := 109) rfl), rfl⟩
set_option maxRecDepth 100000 in
theorem mw_402 : Cond.lays RX5 RX5 "seed" "I" ∈ gw_all := List.mem_filter.mpr ⟨mt_2 (List.mem_of_getElem? (i := 111) rfl), rfl⟩
set_option maxRecDepth 100000 in
theorem mw_404 : Cond.lays RX5 RX5 "share" "I" ∈ gw_all := List.mem_filter.mpr ⟨mt_2 (List.mem_of_getElem? (i := 113) rfl), rfl⟩
set_option maxRecDepth 100000 in
theorem mw_406 : Cond.lays RX5 RX5 "repeats" "I" ∈ gw_all := List.mem_filter.mpr ⟨mt_2 (List.mem_of_getElem? (i := 115) rfl), rfl⟩
set_option maxRecDepth 100000 in
theorem mw_408 : Cond.lays RX5 RX5 "heardNow" "I" ∈ gw_all := List.mem_filter.mpr ⟨mt_2 (List.mem_of_getElem? (i := 117) rfl), rfl⟩
set_option maxRecDepth 100000 in
theorem nw_411 : Cond.arrayOver (FieldType.object RX5) ∈ lw_tbl := mt_2 (List.mem_of_getElem? (i := 120) rfl)
set_option maxRecDepth 100000 in
theorem mw_412 : Cond.fieldLink RX6 12 RX6 "world" "LHopNet$World;" ∈ gw_all := List.mem_filter.mpr ⟨mt_2 (List.mem_of_getElem? (i := 121) rfl), rfl⟩
set_option maxRecDepth 100000 in
theorem mw_413 : Cond.fieldLink RX6 16 RX6 "paper" "LHopNet$World;" ∈ gw_all := List.mem_filter.mpr ⟨mt_2 (List.mem_of_getElem? (i := 122) rfl), rfl⟩
set_option maxRecDepth 100000 in
theorem mw_414 : Cond.fieldLink RX6 19 RX6 "images" "[LHopNet$World;" ∈ gw_all := List.mem_filter.mpr ⟨mt_2 (List.mem_of_getElem? (i := 123) rfl), rfl⟩
set_option maxRecDepth 100000 in
theorem mw_415 : Cond.fieldLink RX6 23 RX6 "imageKept" "[Z" ∈ gw_all := List.mem_filter.mpr ⟨mt_2 (List.mem_of_getElem? (i := 124) rfl), rfl⟩
set_option maxRecDepth 100000 in
theorem mw_416 : Cond.fieldLink RX6 27 RX6 "past" "[LHopNet$World;" ∈ gw_all := List.mem_filter.mpr ⟨mt_2 (List.mem_of_getElem? (i := 125) rfl), rfl⟩
set_option maxRecDepth 100000 in
theorem mw_417 : Cond.fieldLink RX6 30 RX6 "pastActs" "[I" ∈ gw_all := List.mem_filter.mpr ⟨mt_2 (List.mem_of_getElem? (i := 126) rfl), rfl⟩
set_option maxRecDepth 100000 in
theorem mw_418 : Cond.fieldLink RX6 34 RX6 "pastNext" "I" ∈ gw_all := List.mem_filter.mpr ⟨mt_2 (List.mem_of_getElem? (i := 127) rfl), rfl⟩
set_option maxRecDepth 100000 in
theorem mw_419 : Cond.fieldLink RX6 38 RX6 "pastCount" "I" ∈ gw_all := List.mem_filter.mpr ⟨mt_2 (List.mem_of_getElem? (i := 128) rfl), rfl⟩
set_option maxRecDepth 100000 in
theorem mw_420 : Cond.fieldLink RX6 41 RX6 "refusals" "[I" ∈ gw_all := List.mem_filter.mpr ⟨mt_2 (List.mem_of_getElem? (i := 129) rfl), rfl⟩
set_option maxRecDepth 100000 in
theorem mw_421 : Cond.fieldLink RX6 44 RX6 "latestRefusal" "I" ∈ gw_all := List.mem_filter.mpr ⟨mt_2 (List.mem_of_getElem? (i := 130) rfl), rfl⟩
set_option maxRecDepth 100000 in
theorem mw_422 : Cond.fieldLink RX6 47 RX6 "hopsOfFirst" "[I" ∈ gw_all := List.mem_filter.mpr ⟨mt_2 (List.mem_of_getElem? (i := 131) rfl), rfl⟩
set_option maxRecDepth 100000 in
theorem mw_423 : Cond.fieldLink RX6 50 RX6 "hopsOfSecond" "[I" ∈ gw_all := List.mem_filter.mpr ⟨mt_2 (List.mem_of_getElem? (i := 132) rfl), rfl⟩
set_option maxRecDepth 100000 in
theorem mw_424 : Cond.laysFinal RX6 RX6 "world" "LHopNet$World;" ∈ gw_all := List.mem_filter.mpr ⟨mt_2 (List.mem_of_getElem? (i := 133) rfl), rfl⟩
set_option maxRecDepth 100000 in
theorem mw_426 : Cond.laysFinal RX6 RX6 "paper" "LHopNet$World;" ∈ gw_all := List.mem_filter.mpr ⟨mt_2 (List.mem_of_getElem? (i := 135) rfl), rfl⟩
set_option maxRecDepth 100000 in
theorem mw_428 : Cond.laysFinal RX6 RX6 "images" "[LHopNet$World;" ∈ gw_all := List.mem_filter.mpr ⟨mt_2 (List.mem_of_getElem? (i := 137) rfl), rfl⟩
set_option maxRecDepth 100000 in
theorem mw_430 : Cond.laysFinal RX6 RX6 "imageKept" "[Z" ∈ gw_all := List.mem_filter.mpr ⟨mt_2 (List.mem_of_getElem? (i := 139) rfl), rfl⟩
set_option maxRecDepth 100000 in
theorem mw_432 : Cond.laysFinal RX6 RX6 "past" "[LHopNet$World;" ∈ gw_all := List.mem_filter.mpr ⟨mt_2 (List.mem_of_getElem? (i := 141) rfl), rfl⟩
set_option maxRecDepth 100000 in
theorem mw_434 : Cond.laysFinal RX6 RX6 "pastActs" "[I" ∈ gw_all := List.mem_filter.mpr ⟨mt_2 (List.mem_of_getElem? (i := 143) rfl), rfl⟩
set_option maxRecDepth 100000 in
theorem mw_436 : Cond.lays RX6 RX6 "pastNext" "I" ∈ gw_all := List.mem_filter.mpr ⟨mt_2 (List.mem_of_getElem? (i := 145) rfl), rfl⟩
set_option maxRecDepth 100000 in
theorem mw_438 : Cond.lays RX6 RX6 "pastCount" "I" ∈ gw_all := List.mem_filter.mpr ⟨mt_2 (List.mem_of_getElem? (i := 147) rfl), rfl⟩
set_option maxRecDepth 100000 in
theorem mw_440 : Cond.laysFinal RX6 RX6 "refusals" "[I" ∈ gw_all := List.mem_filter.mpr ⟨mt_2 (List.mem_of_getElem? (i := 149) rfl), rfl⟩
set_option maxRecDepth 100000 in
theorem mw_442 : Cond.lays RX6 RX6 "latestRefusal" "I" ∈ gw_all := List.mem_filter.mpr ⟨mt_2 (List.mem_of_getElem? (i := 151) rfl), rfl⟩
set_option maxRecDepth 100000 in
theorem mw_444 : Cond.laysFinal RX6 RX6 "hopsOfFirst" "[I" ∈ gw_all := List.mem_filter.mpr ⟨mt_2 (List.mem_of_getElem? (i := 153) rfl), rfl⟩
set_option maxRecDepth 100000 in
theorem mw_446 : Cond.laysFinal RX6 RX6 "hopsOfSecond" "[I" ∈ gw_all := List.mem_filter.mpr ⟨mt_2 (List.mem_of_getElem? (i := 155) rfl), rfl⟩
set_option maxRecDepth 100000 in
theorem mw_449 : Cond.arrayClass FieldType.boolean ∈ gw_all := List.mem_filter.mpr ⟨mt_2 (List.mem_of_getElem? (i := 158) rfl), rfl⟩
set_option maxRecDepth 100000 in
theorem mw_450 : Cond.methodLink RL 13 yX6_radio ∈ gw_all := List.mem_filter.mpr ⟨mt_2 (List.mem_of_getElem? (i := 159) rfl), rfl⟩
set_option maxRecDepth 100000 in
theorem mw_451 : Cond.instanceMethod yX6_radio ∈ gw_all := List.mem_filter.mpr ⟨mt_2 (List.mem_of_getElem? (i := 160) rfl), rfl⟩
set_option maxRecDepth 100000 in
theorem mw_452 : Cond.selects RX6 yX6_radio yX6_radio ∈ gw_all := List.mem_filter.mpr ⟨mt_2 (List.mem_of_getElem? (i := 161) rfl), rfl⟩
set_option maxRecDepth 100000 in
theorem mw_453 : Cond.code yX6_radio cX6_radio 2 (some .int) ∈ gw_all := List.mem_filter.mpr ⟨mt_2 (List.mem_of_getElem? (i := 162) rfl), rfl⟩
set_option maxRecDepth 100000 in
theorem mw_454 : Cond.constant RX6 53 268435455 ∈ gw_all := List.mem_filter.mpr ⟨mt_2 (List.mem_of_getElem? (i := 163) rfl), rfl⟩
set_option maxRecDepth 100000 in
theorem mw_455 : Cond.methodLink RX6 54 yX6_isWithin ∈ gw_all := List.mem_filter.mpr ⟨mt_2 (List.mem_of_getElem? (i := 164) rfl), rfl⟩
set_option maxRecDepth 100000 in
theorem mw_456 : Cond.static yX6_isWithin ∈ gw_all := List.mem_filter.mpr ⟨mt_2 (List.mem_of_getElem? (i := 165) rfl), rfl⟩
set_option maxRecDepth 100000 in
theorem mw_457 : Cond.code yX6_isWithin cX6_isWithin 3 (some .boolean) ∈ gw_all := List.mem_filter.mpr ⟨mt_2 (List.mem_of_getElem? (i := 166) rfl), rfl⟩
set_option maxRecDepth 100000 in
theorem mw_458 : Cond.methodLink RX6 58 yX6_refuse ∈ gw_all := List.mem_filter.mpr ⟨mt_2 (List.mem_of_getElem? (i := 167) rfl), rfl⟩
set_option maxRecDepth 100000 in
theorem mw_460 : Cond.instanceMethod yX6_refuse ∈ gw_all := List.mem_filter.mpr ⟨mt_2 (List.mem_of_getElem? (i := 169) rfl), rfl⟩
set_option maxRecDepth 100000 in
theorem mw_461 : Cond.code yX6_refuse cX6_refuse 3 (some .int) ∈ gw_all := List.mem_filter.mpr ⟨mt_2 (List.mem_of_getElem? (i := 170) rfl), rfl⟩
set_option maxRecDepth 100000 in
theorem mw_462 : Cond.methodLink RX6 65 yX6_keepForUndo ∈ gw_all := List.mem_filter.mpr ⟨mt_2 (List.mem_of_getElem? (i := 171) rfl), rfl⟩
set_option maxRecDepth 100000 in
theorem mw_464 : Cond.instanceMethod yX6_keepForUndo ∈ gw_all := List.mem_filter.mpr ⟨mt_2 (List.mem_of_getElem? (i := 173) rfl), rfl⟩
set_option maxRecDepth 100000 in
theorem mw_465 : Cond.code yX6_keepForUndo cX6_keepForUndo 2 none ∈ gw_all := List.mem_filter.mpr ⟨mt_2 (List.mem_of_getElem? (i := 174) rfl), rfl⟩
set_option maxRecDepth 100000 in
theorem mw_466 : Cond.methodLink RX6 219 yX5_copyFrom ∈ gw_all := List.mem_filter.mpr ⟨mt_2 (List.mem_of_getElem? (i := 175) rfl), rfl⟩
set_option maxRecDepth 100000 in
theorem mw_467 : Cond.instanceMethod yX5_copyFrom ∈ gw_all := List.mem_filter.mpr ⟨mt_2 (List.mem_of_getElem? (i := 176) rfl), rfl⟩
set_option maxRecDepth 100000 in
theorem mw_468 : Cond.selects RX5 yX5_copyFrom yX5_copyFrom ∈ gw_all := List.mem_filter.mpr ⟨mt_2 (List.mem_of_getElem? (i := 177) rfl), rfl⟩
set_option maxRecDepth 100000 in
theorem mw_469 : Cond.code yX5_copyFrom cX5_copyFrom 3 none ∈ gw_all := List.mem_filter.mpr ⟨mt_2 (List.mem_of_getElem? (i := 178) rfl), rfl⟩
set_option maxRecDepth 100000 in
theorem mw_470 : Cond.methodLink RX5 47 arraycopyName ∈ gw_all := List.mem_filter.mpr ⟨mt_2 (List.mem_of_getElem? (i := 179) rfl), rfl⟩
set_option maxRecDepth 100000 in
theorem mw_471 : Cond.static arraycopyName ∈ gw_all := List.mem_filter.mpr ⟨mt_2 (List.mem_of_getElem? (i := 180) rfl), rfl⟩
set_option maxRecDepth 100000 in
theorem mw_472 : Cond.native arraycopyName ∈ gw_all := List.mem_filter.mpr ⟨mt_2 (List.mem_of_getElem? (i := 181) rfl), rfl⟩
set_option maxRecDepth 100000 in
theorem mw_473 : Cond.methodLink RX5 53 yX2_copyFrom ∈ gw_all := List.mem_filter.mpr ⟨mt_2 (List.mem_of_getElem? (i := 182) rfl), rfl⟩
set_option maxRecDepth 100000 in
theorem mw_474 : Cond.instanceMethod yX2_copyFrom ∈ gw_all := List.mem_filter.mpr ⟨mt_2 (List.mem_of_getElem? (i := 183) rfl), rfl⟩
set_option maxRecDepth 100000 in
theorem mw_475 : Cond.selects RX2 yX2_copyFrom yX2_copyFrom ∈ gw_all := List.mem_filter.mpr ⟨mt_2 (List.mem_of_getElem? (i := 184) rfl), rfl⟩
set_option maxRecDepth 100000 in
theorem mw_476 : Cond.code yX2_copyFrom cX2_copyFrom 3 none ∈ gw_all := List.mem_filter.mpr ⟨mt_2 (List.mem_of_getElem? (i := 185) rfl), rfl⟩
set_option maxRecDepth 100000 in
theorem mw_477 : Cond.methodLink RX2 83 yX3_copyFrom ∈ gw_all := List.mem_filter.mpr ⟨mt_2 (List.mem_of_getElem? (i := 186) rfl), rfl⟩
set_option maxRecDepth 100000 in
theorem mw_478 : Cond.instanceMethod yX3_copyFrom ∈ gw_all := List.mem_filter.mpr ⟨mt_2 (List.mem_of_getElem? (i := 187) rfl), rfl⟩
set_option maxRecDepth 100000 in
theorem mw_479 : Cond.selects RX3 yX3_copyFrom yX3_copyFrom ∈ gw_all := List.mem_filter.mpr ⟨mt_2 (List.mem_of_getElem? (i := 188) rfl), rfl⟩
set_option maxRecDepth 100000 in
theorem mw_480 : Cond.code yX3_copyFrom cX3_copyFrom 2 none ∈ gw_all := List.mem_filter.mpr ⟨mt_2 (List.mem_of_getElem? (i := 189) rfl), rfl⟩
set_option maxRecDepth 100000 in
theorem mw_481 : Cond.methodLink RX2 87 arraycopyName ∈ gw_all := List.mem_filter.mpr ⟨mt_2 (List.mem_of_getElem? (i := 190) rfl), rfl⟩
set_option maxRecDepth 100000 in
theorem mw_482 : Cond.methodLink RX2 93 yX1_copyFrom ∈ gw_all := List.mem_filter.mpr ⟨mt_2 (List.mem_of_getElem? (i := 191) rfl), rfl⟩
set_option maxRecDepth 100000 in
theorem mw_483 : Cond.instanceMethod yX1_copyFrom ∈ gw_all := List.mem_filter.mpr ⟨mt_2 (List.mem_of_getElem? (i := 192) rfl), rfl⟩
set_option maxRecDepth 100000 in
theorem mw_484 : Cond.selects RX1 yX1_copyFrom yX1_copyFrom ∈ gw_all := List.mem_filter.mpr ⟨mt_2 (List.mem_of_getElem? (i := 193) rfl), rfl⟩
set_option maxRecDepth 100000 in
theorem mw_485 : Cond.code yX1_copyFrom cX1_copyFrom 2 none ∈ gw_all := List.mem_filter.mpr ⟨mt_2 (List.mem_of_getElem? (i := 194) rfl), rfl⟩
set_option maxRecDepth 100000 in
theorem mw_486 : Cond.methodLink RX1 37 yX3_copyFrom ∈ gw_all := List.mem_filter.mpr ⟨mt_2 (List.mem_of_getElem? (i := 195) rfl), rfl⟩
set_option maxRecDepth 100000 in
theorem mw_487 : Cond.methodLink RX1 88 yX4_copyFrom ∈ gw_all := List.mem_filter.mpr ⟨mt_2 (List.mem_of_getElem? (i := 196) rfl), rfl⟩
set_option maxRecDepth 100000 in
theorem mw_488 : Cond.instanceMethod yX4_copyFrom ∈ gw_all := List.mem_filter.mpr ⟨mt_2 (List.mem_of_getElem? (i := 197) rfl), rfl⟩
set_option maxRecDepth 100000 in
theorem mw_489 : Cond.selects RX4 yX4_copyFrom yX4_copyFrom ∈ gw_all := List.mem_filter.mpr ⟨mt_2 (List.mem_of_getElem? (i := 198) rfl), rfl⟩
set_option maxRecDepth 100000 in
theorem mw_490 : Cond.code yX4_copyFrom cX4_copyFrom 2 none ∈ gw_all := List.mem_filter.mpr ⟨mt_2 (List.mem_of_getElem? (i := 199) rfl), rfl⟩
set_option maxRecDepth 100000 in
theorem mw_491 : Cond.methodLink RX4 37 arraycopyName ∈ gw_all := List.mem_filter.mpr ⟨mt_2 (List.mem_of_getElem? (i := 200) rfl), rfl⟩
set_option maxRecDepth 100000 in
theorem mw_492 : Cond.methodLink RX1 91 yX0_copyFrom ∈ gw_all := List.mem_filter.mpr ⟨mt_2 (List.mem_of_getElem? (i := 201) rfl), rfl⟩
set_option maxRecDepth 100000 in
theorem mw_493 : Cond.instanceMethod yX0_copyFrom ∈ gw_all := List.mem_filter.mpr ⟨mt_2 (List.mem_of_getElem? (i := 202) rfl), rfl⟩
set_option maxRecDepth 100000 in
theorem mw_494 : Cond.selects RX0 yX0_copyFrom yX0_copyFrom ∈ gw_all := List.mem_filter.mpr ⟨mt_2 (List.mem_of_getElem? (i := 203) rfl), rfl⟩
set_option maxRecDepth 100000 in
theorem mw_495 : Cond.code yX0_copyFrom cX0_copyFrom 2 none ∈ gw_all := List.mem_filter.mpr ⟨mt_2 (List.mem_of_getElem? (i := 204) rfl), rfl⟩
set_option maxRecDepth 100000 in
theorem mw_496 : Cond.methodLink RX6 388 yJ9_min_7cf53 ∈ gw_all := List.mem_filter.mpr ⟨mt_2 (List.mem_of_getElem? (i := 205) rfl), rfl⟩
set_option maxRecDepth 100000 in
theorem mw_497 : Cond.static yJ9_min_7cf53 ∈ gw_all := List.mem_filter.mpr ⟨mt_2 (List.mem_of_getElem? (i := 206) rfl), rfl⟩
set_option maxRecDepth 100000 in
theorem mw_498 : Cond.code yJ9_min_7cf53 cJ9_min_7cf53 2 (some .int) ∈ gw_all := List.mem_filter.mpr ⟨mt_2 (List.mem_of_getElem? (i := 207) rfl), rfl⟩
set_option maxRecDepth 100000 in
theorem mw_499 : Cond.methodLink RX6 72 yX6_accept ∈ gw_all := List.mem_filter.mpr ⟨mt_2 (List.mem_of_getElem? (i := 208) rfl), rfl⟩
set_option maxRecDepth 100000 in
theorem mw_501 : Cond.instanceMethod yX6_accept ∈ gw_all := List.mem_filter.mpr ⟨mt_2 (List.mem_of_getElem? (i := 210) rfl), rfl⟩
set_option maxRecDepth 100000 in
theorem mw_502 : Cond.code yX6_accept cX6_accept 2 (some .int) ∈ gw_all := List.mem_filter.mpr ⟨mt_2 (List.mem_of_getElem? (i := 211) rfl), rfl⟩
set_option maxRecDepth 100000 in
theorem mw_503 : Cond.methodLink RL 18 yX6_net ∈ gw_all := List.mem_filter.mpr ⟨mt_2 (List.mem_of_getElem? (i := 212) rfl), rfl⟩
set_option maxRecDepth 100000 in
theorem mw_504 : Cond.instanceMethod yX6_net ∈ gw_all := List.mem_filter.mpr ⟨mt_2 (List.mem_of_getElem? (i := 213) rfl), rfl⟩
set_option maxRecDepth 100000 in
theorem mw_505 : Cond.selects RX6 yX6_net yX6_net ∈ gw_all := List.mem_filter.mpr ⟨mt_2 (List.mem_of_getElem? (i := 214) rfl), rfl⟩
set_option maxRecDepth 100000 in
theorem mw_506 : Cond.code yX6_net cX6_net 4 (some .int) ∈ gw_all := List.mem_filter.mpr ⟨mt_2 (List.mem_of_getElem? (i := 215) rfl), rfl⟩
set_option maxRecDepth 100000 in
theorem mw_507 : Cond.constant RX6 75 65535 ∈ gw_all := List.mem_filter.mpr ⟨mt_2 (List.mem_of_getElem? (i := 216) rfl), rfl⟩
set_option maxRecDepth 100000 in
theorem mw_508 : Cond.methodLink RX6 76 yX5_hasRadio ∈ gw_all := List.mem_filter.mpr ⟨mt_2 (List.mem_of_getElem? (i := 217) rfl), rfl⟩
set_option maxRecDepth 100000 in
theorem mw_509 : Cond.instanceMethod yX5_hasRadio ∈ gw_all := List.mem_filter.mpr ⟨mt_2 (List.mem_of_getElem? (i := 218) rfl), rfl⟩
set_option maxRecDepth 100000 in
theorem mw_510 : Cond.selects RX5 yX5_hasRadio yX5_hasRadio ∈ gw_all := List.mem_filter.mpr ⟨mt_2 (List.mem_of_getElem? (i := 219) rfl), rfl⟩
set_option maxRecDepth 100000 in
theorem mw_511 : Cond.code yX5_hasRadio cX5_hasRadio 2 (some .boolean) ∈ gw_all := List.mem_filter.mpr ⟨mt_2 (List.mem_of_getElem? (i := 220) rfl), rfl⟩
set_option maxRecDepth 100000 in
theorem mw_512 : Cond.methodLink RL 23 yX6_join ∈ gw_all := List.mem_filter.mpr ⟨mt_2 (List.mem_of_getElem? (i := 221) rfl), rfl⟩
set_option maxRecDepth 100000 in
theorem mw_513 : Cond.instanceMethod yX6_join ∈ gw_all := List.mem_filter.mpr ⟨mt_2 (List.mem_of_getElem? (i := 222) rfl), rfl⟩
set_option maxRecDepth 100000 in
theorem mw_514 : Cond.selects RX6 yX6_join yX6_join ∈ gw_all := List.mem_filter.mpr ⟨mt_2 (List.mem_of_getElem? (i := 223) rfl), rfl⟩
set_option maxRecDepth 100000 in
theorem mw_515 : Cond.code yX6_join cX6_join 4 (some .int) ∈ gw_all := List.mem_filter.mpr ⟨mt_2 (List.mem_of_getElem? (i := 224) rfl), rfl⟩
set_option maxRecDepth 100000 in
theorem mw_516 : Cond.methodLink RX6 95 yX5_netAt ∈ gw_all := List.mem_filter.mpr ⟨mt_2 (List.mem_of_getElem? (i := 225) rfl), rfl⟩
set_option maxRecDepth 100000 in
theorem mw_517 : Cond.instanceMethod yX5_netAt ∈ gw_all := List.mem_filter.mpr ⟨mt_2 (List.mem_of_getElem? (i := 226) rfl), rfl⟩
set_option maxRecDepth 100000 in
theorem mw_518 : Cond.selects RX5 yX5_netAt yX5_netAt ∈ gw_all := List.mem_filter.mpr ⟨mt_2 (List.mem_of_getElem? (i := 227) rfl), rfl⟩
set_option maxRecDepth 100000 in
theorem mw_519 : Cond.code yX5_netAt cX5_netAt 2 (some (.object "HopNet$Net")) ∈ gw_all := List.mem_filter.mpr ⟨mt_2 (List.mem_of_getElem? (i := 228) rfl), rfl⟩
set_option maxRecDepth 100000 in
theorem mw_520 : Cond.methodLink RX6 99 yX2_holds ∈ gw_all := List.mem_filter.mpr ⟨mt_2 (List.mem_of_getElem? (i := 229) rfl), rfl⟩
set_option maxRecDepth 100000 in
theorem mw_521 : Cond.instanceMethod yX2_holds ∈ gw_all := List.mem_filter.mpr ⟨mt_2 (List.mem_of_getElem? (i := 230) rfl), rfl⟩
set_option maxRecDepth 100000 in
theorem mw_522 : Cond.selects RX2 yX2_holds yX2_holds ∈ gw_all := List.mem_filter.mpr ⟨mt_2 (List.mem_of_getElem? (i := 231) rfl), rfl⟩
set_option maxRecDepth 100000 in
theorem mw_523 : Cond.code yX2_holds cX2_holds 3 (some .boolean) ∈ gw_all := List.mem_filter.mpr ⟨mt_2 (List.mem_of_getElem? (i := 232) rfl), rfl⟩
set_option maxRecDepth 100000 in
theorem mw_524 : Cond.methodLink RX6 105 yX2_addMember ∈ gw_all := List.mem_filter.mpr ⟨mt_2 (List.mem_of_getElem? (i := 233) rfl), rfl⟩
set_option maxRecDepth 100000 in
theorem mw_525 : Cond.instanceMethod yX2_addMember ∈ gw_all := List.mem_filter.mpr ⟨mt_2 (List.mem_of_getElem? (i := 234) rfl), rfl⟩
set_option maxRecDepth 100000 in
theorem mw_526 : Cond.selects RX2 yX2_addMember yX2_addMember ∈ gw_all := List.mem_filter.mpr ⟨mt_2 (List.mem_of_getElem? (i := 235) rfl), rfl⟩
set_option maxRecDepth 100000 in
theorem mw_527 : Cond.code yX2_addMember cX2_addMember 3 none ∈ gw_all := List.mem_filter.mpr ⟨mt_2 (List.mem_of_getElem? (i := 236) rfl), rfl⟩
set_option maxRecDepth 100000 in
theorem mw_528 : Cond.methodLink RX2 99 yX1_begin ∈ gw_all := List.mem_filter.mpr ⟨mt_2 (List.mem_of_getElem? (i := 237) rfl), rfl⟩
set_option maxRecDepth 100000 in
theorem mw_529 : Cond.instanceMethod yX1_begin ∈ gw_all := List.mem_filter.mpr ⟨mt_2 (List.mem_of_getElem? (i := 238) rfl), rfl⟩
set_option maxRecDepth 100000 in
theorem mw_530 : Cond.selects RX1 yX1_begin yX1_begin ∈ gw_all := List.mem_filter.mpr ⟨mt_2 (List.mem_of_getElem? (i := 239) rfl), rfl⟩
set_option maxRecDepth 100000 in
theorem mw_531 : Cond.code yX1_begin cX1_begin 4 none ∈ gw_all := List.mem_filter.mpr ⟨mt_3 (List.mem_of_getElem? (i := 0) rfl), rfl⟩
set_option maxRecDepth 100000 in
theorem mw_532 : Cond.methodLink RX1 45 yX4_begin ∈ gw_all := List.mem_filter.mpr ⟨mt_3 (List.mem_of_getElem? (i := 1) rfl), rfl⟩
set_option maxRecDepth 100000 in
theorem mw_533 : Cond.instanceMethod yX4_begin ∈ gw_all := List.mem_filter.mpr ⟨mt_3 (List.mem_of_getElem? (i := 2) rfl), rfl⟩
set_option maxRecDepth 100000 in
theorem mw_534 : Cond.selects RX4 yX4_begin yX4_begin ∈ gw_all := List.mem_filter.mpr ⟨mt_3 (List.mem_of_getElem? (i := 3) rfl), rfl⟩
set_option maxRecDepth 100000 in
theorem mw_535 : Cond.code yX4_begin cX4_begin 1 none ∈ gw_all := List.mem_filter.mpr ⟨mt_3 (List.mem_of_getElem? (i := 4) rfl), rfl⟩
set_option maxRecDepth 100000 in
theorem mw_536 : Cond.methodLink RX1 51 yX0_set ∈ gw_all := List.mem_filter.mpr ⟨mt_3 (List.mem_of_getElem? (i := 5) rfl), rfl⟩
set_option maxRecDepth 100000 in
theorem mw_537 : Cond.instanceMethod yX0_set ∈ gw_all := List.mem_filter.mpr ⟨mt_3 (List.mem_of_getElem? (i := 6) rfl), rfl⟩
set_option maxRecDepth 100000 in
theorem mw_538 : Cond.selects RX0 yX0_set yX0_set ∈ gw_all := List.mem_filter.mpr ⟨mt_3 (List.mem_of_getElem? (i := 7) rfl), rfl⟩
set_option maxRecDepth 100000 in
theorem mw_539 : Cond.code yX0_set cX0_set 4 none ∈ gw_all := List.mem_filter.mpr ⟨mt_3 (List.mem_of_getElem? (i := 8) rfl), rfl⟩
set_option maxRecDepth 100000 in
theorem mw_540 : Cond.methodLink RL 28 yX6_leave ∈ gw_all := List.mem_filter.mpr ⟨mt_3 (List.mem_of_getElem? (i := 9) rfl), rfl⟩
set_option maxRecDepth 100000 in
theorem mw_541 : Cond.instanceMethod yX6_leave ∈ gw_all := List.mem_filter.mpr ⟨mt_3 (List.mem_of_getElem? (i := 10) rfl), rfl⟩
set_option maxRecDepth 100000 in
theorem mw_542 : Cond.selects RX6 yX6_leave yX6_leave ∈ gw_all := List.mem_filter.mpr ⟨mt_3 (List.mem_of_getElem? (i := 11) rfl), rfl⟩
set_option maxRecDepth 100000 in
theorem mw_543 : Cond.code yX6_leave cX6_leave 4 (some .int) ∈ gw_all := List.mem_filter.mpr ⟨mt_3 (List.mem_of_getElem? (i := 12) rfl), rfl⟩
set_option maxRecDepth 100000 in
theorem mw_544 : Cond.methodLink RX6 109 yX2_linkAt ∈ gw_all := List.mem_filter.mpr ⟨mt_3 (List.mem_of_getElem? (i := 13) rfl), rfl⟩
set_option maxRecDepth 100000 in
theorem mw_545 : Cond.instanceMethod yX2_linkAt ∈ gw_all := List.mem_filter.mpr ⟨mt_3 (List.mem_of_getElem? (i := 14) rfl), rfl⟩
set_option maxRecDepth 100000 in
theorem mw_546 : Cond.selects RX2 yX2_linkAt yX2_linkAt ∈ gw_all := List.mem_filter.mpr ⟨mt_3 (List.mem_of_getElem? (i := 15) rfl), rfl⟩
set_option maxRecDepth 100000 in
theorem mw_547 : Cond.code yX2_linkAt cX2_linkAt 2 (some (.object "HopNet$Link")) ∈ gw_all := List.mem_filter.mpr ⟨mt_3 (List.mem_of_getElem? (i := 16) rfl), rfl⟩
set_option maxRecDepth 100000 in
theorem mw_548 : Cond.methodLink RX6 113 yX2_removeMember ∈ gw_all := List.mem_filter.mpr ⟨mt_3 (List.mem_of_getElem? (i := 17) rfl), rfl⟩
set_option maxRecDepth 100000 in
theorem mw_549 : Cond.instanceMethod yX2_removeMember ∈ gw_all := List.mem_filter.mpr ⟨mt_3 (List.mem_of_getElem? (i := 18) rfl), rfl⟩
set_option maxRecDepth 100000 in
theorem mw_550 : Cond.selects RX2 yX2_removeMember yX2_removeMember ∈ gw_all := List.mem_filter.mpr ⟨mt_3 (List.mem_of_getElem? (i := 19) rfl), rfl⟩
set_option maxRecDepth 100000 in
theorem mw_551 : Cond.code yX2_removeMember cX2_removeMember 4 none ∈ gw_all := List.mem_filter.mpr ⟨mt_3 (List.mem_of_getElem? (i := 20) rfl), rfl⟩
set_option maxRecDepth 100000 in
theorem mw_552 : Cond.methodLink RX2 103 yX2_linkAt ∈ gw_all := List.mem_filter.mpr ⟨mt_3 (List.mem_of_getElem? (i := 21) rfl), rfl⟩
set_option maxRecDepth 100000 in
theorem mw_553 : Cond.methodLink RL 32 yX6_noise ∈ gw_all := List.mem_filter.mpr ⟨mt_3 (List.mem_of_getElem? (i := 22) rfl), rfl⟩
set_option maxRecDepth 100000 in
theorem mw_554 : Cond.instanceMethod yX6_noise ∈ gw_all := List.mem_filter.mpr ⟨mt_3 (List.mem_of_getElem? (i := 23) rfl), rfl⟩
set_option maxRecDepth 100000 in
theorem mw_555 : Cond.selects RX6 yX6_noise yX6_noise ∈ gw_all := List.mem_filter.mpr ⟨mt_3 (List.mem_of_getElem? (i := 24) rfl), rfl⟩
set_option maxRecDepth 100000 in
theorem mw_556 : Cond.code yX6_noise cX6_noise 4 (some .int) ∈ gw_all := List.mem_filter.mpr ⟨mt_3 (List.mem_of_getElem? (i := 25) rfl), rfl⟩
set_option maxRecDepth 100000 in
theorem mw_557 : Cond.methodLink RL 36 yX6_terms ∈ gw_all := List.mem_filter.mpr ⟨mt_3 (List.mem_of_getElem? (i := 26) rfl), rfl⟩
set_option maxRecDepth 100000 in
theorem mw_558 : Cond.instanceMethod yX6_terms ∈ gw_all := List.mem_filter.mpr ⟨mt_3 (List.mem_of_getElem? (i := 27) rfl), rfl⟩
set_option maxRecDepth 100000 in
theorem mw_559 : Cond.selects RX6 yX6_terms yX6_terms ∈ gw_all := List.mem_filter.mpr ⟨mt_3 (List.mem_of_getElem? (i := 28) rfl), rfl⟩
set_option maxRecDepth 100000 in
theorem mw_560 : Cond.code yX6_terms cX6_terms 4 (some .int) ∈ gw_all := List.mem_filter.mpr ⟨mt_3 (List.mem_of_getElem? (i := 29) rfl), rfl⟩
set_option maxRecDepth 100000 in
theorem mw_561 : Cond.methodLink RX6 119 yX6_isTerm ∈ gw_all := List.mem_filter.mpr ⟨mt_3 (List.mem_of_getElem? (i := 30) rfl), rfl⟩
set_option maxRecDepth 100000 in
theorem mw_562 : Cond.static yX6_isTerm ∈ gw_all := List.mem_filter.mpr ⟨mt_3 (List.mem_of_getElem? (i := 31) rfl), rfl⟩
set_option maxRecDepth 100000 in
theorem mw_563 : Cond.code yX6_isTerm cX6_isTerm 2 (some .boolean) ∈ gw_all := List.mem_filter.mpr ⟨mt_3 (List.mem_of_getElem? (i := 32) rfl), rfl⟩
set_option maxRecDepth 100000 in
theorem mw_564 : Cond.constant RX6 401 1000000 ∈ gw_all := List.mem_filter.mpr ⟨mt_3 (List.mem_of_getElem? (i := 33) rfl), rfl⟩
set_option maxRecDepth 100000 in
theorem mw_565 : Cond.methodLink RX6 156 yX6_isEvenWithin ∈ gw_all := List.mem_filter.mpr ⟨mt_3 (List.mem_of_getElem? (i := 34) rfl), rfl⟩
set_option maxRecDepth 100000 in
theorem mw_566 : Cond.static yX6_isEvenWithin ∈ gw_all := List.mem_filter.mpr ⟨mt_3 (List.mem_of_getElem? (i := 35) rfl), rfl⟩
set_option maxRecDepth 100000 in
theorem mw_567 : Cond.code yX6_isEvenWithin cX6_isEvenWithin 3 (some .boolean) ∈ gw_all := List.mem_filter.mpr ⟨mt_3 (List.mem_of_getElem? (i := 36) rfl), rfl⟩
set_option maxRecDepth 100000 in
theorem mw_568 : Cond.methodLink RL 40 yX6_put ∈ gw_all := List.mem_filter.mpr ⟨mt_3 (List.mem_of_getElem? (i := 37) rfl), rfl⟩
set_option maxRecDepth 100000 in
theorem mw_569 : Cond.instanceMethod yX6_put ∈ gw_all := List.mem_filter.mpr ⟨mt_3 (List.mem_of_getElem? (i := 38) rfl), rfl⟩
set_option maxRecDepth 100000 in
theorem mw_570 : Cond.selects RX6 yX6_put yX6_put ∈ gw_all := List.mem_filter.mpr ⟨mt_3 (List.mem_of_getElem? (i := 39) rfl), rfl⟩
set_option maxRecDepth 100000 in
theorem mw_571 : Cond.code yX6_put cX6_put 7 (some .int) ∈ gw_all := List.mem_filter.mpr ⟨mt_3 (List.mem_of_getElem? (i := 40) rfl), rfl⟩
set_option maxRecDepth 100000 in
theorem mw_572 : Cond.methodLink RX6 132 yX5_linkAt ∈ gw_all := List.mem_filter.mpr ⟨mt_3 (List.mem_of_getElem? (i := 41) rfl), rfl⟩
set_option maxRecDepth 100000 in
theorem mw_573 : Cond.instanceMethod yX5_linkAt ∈ gw_all := List.mem_filter.mpr ⟨mt_3 (List.mem_of_getElem? (i := 42) rfl), rfl⟩
set_option maxRecDepth 100000 in
theorem mw_574 : Cond.selects RX5 yX5_linkAt yX5_linkAt ∈ gw_all := List.mem_filter.mpr ⟨mt_3 (List.mem_of_getElem? (i := 43) rfl), rfl⟩
set_option maxRecDepth 100000 in
theorem mw_575 : Cond.code yX5_linkAt cX5_linkAt 4 (some (.object "HopNet$Link")) ∈ gw_all := List.mem_filter.mpr ⟨mt_3 (List.mem_of_getElem? (i := 44) rfl), rfl⟩
set_option maxRecDepth 100000 in
theorem mw_576 : Cond.methodLink RX5 60 yX5_netAt ∈ gw_all := List.mem_filter.mpr ⟨mt_3 (List.mem_of_getElem? (i := 45) rfl), rfl⟩
set_option maxRecDepth 100000 in
theorem mw_577 : Cond.methodLink RX5 64 yX2_linkAt ∈ gw_all := List.mem_filter.mpr ⟨mt_3 (List.mem_of_getElem? (i := 46) rfl), rfl⟩
set_option maxRecDepth 100000 in
theorem mw_578 : Cond.methodLink RX6 144 yX4_isFull ∈ gw_all := List.mem_filter.mpr ⟨mt_3 (List.mem_of_getElem? (i := 47) rfl), rfl⟩
set_option maxRecDepth 100000 in
theorem mw_579 : Cond.instanceMethod yX4_isFull ∈ gw_all := List.mem_filter.mpr ⟨mt_3 (List.mem_of_getElem? (i := 48) rfl), rfl⟩
set_option maxRecDepth 100000 in
theorem mw_580 : Cond.selects RX4 yX4_isFull yX4_isFull ∈ gw_all := List.mem_filter.mpr ⟨mt_3 (List.mem_of_getElem? (i := 49) rfl), rfl⟩
set_option maxRecDepth 100000 in
theorem mw_581 : Cond.code yX4_isFull cX4_isFull 1 (some .boolean) ∈ gw_all := List.mem_filter.mpr ⟨mt_3 (List.mem_of_getElem? (i := 50) rfl), rfl⟩
set_option maxRecDepth 100000 in
theorem mw_582 : Cond.methodLink RX6 150 yX4_append ∈ gw_all := List.mem_filter.mpr ⟨mt_3 (List.mem_of_getElem? (i := 51) rfl), rfl⟩
set_option maxRecDepth 100000 in
theorem mw_583 : Cond.instanceMethod yX4_append ∈ gw_all := List.mem_filter.mpr ⟨mt_3 (List.mem_of_getElem? (i := 52) rfl), rfl⟩
set_option maxRecDepth 100000 in
theorem mw_584 : Cond.selects RX4 yX4_append yX4_append ∈ gw_all := List.mem_filter.mpr ⟨mt_3 (List.mem_of_getElem? (i := 53) rfl), rfl⟩
set_option maxRecDepth 100000 in
theorem mw_585 : Cond.code yX4_append cX4_append 3 none ∈ gw_all := List.mem_filter.mpr ⟨mt_3 (List.mem_of_getElem? (i := 54) rfl), rfl⟩
set_option maxRecDepth 100000 in
theorem mw_586 : Cond.methodLink RL 45 yX6_reserve ∈ gw_all := List.mem_filter.mpr ⟨mt_3 (List.mem_of_getElem? (i := 55) rfl), rfl⟩
set_option maxRecDepth 100000 in
theorem mw_587 : Cond.instanceMethod yX6_reserve ∈ gw_all := List.mem_filter.mpr ⟨mt_3 (List.mem_of_getElem? (i := 56) rfl), rfl⟩
set_option maxRecDepth 100000 in
theorem mw_588 : Cond.selects RX6 yX6_reserve yX6_reserve ∈ gw_all := List.mem_filter.mpr ⟨mt_3 (List.mem_of_getElem? (i := 57) rfl), rfl⟩
set_option maxRecDepth 100000 in
theorem mw_589 : Cond.code yX6_reserve cX6_reserve 9 (some .int) ∈ gw_all := List.mem_filter.mpr ⟨mt_3 (List.mem_of_getElem? (i := 58) rfl), rfl⟩
set_option maxRecDepth 100000 in
theorem mw_590 : Cond.methodLink RX6 168 yX0_set ∈ gw_all := List.mem_filter.mpr ⟨mt_3 (List.mem_of_getElem? (i := 59) rfl), rfl⟩
set_option maxRecDepth 100000 in
theorem mw_591 : Cond.methodLink RL 50 yX6_sniff ∈ gw_all := List.mem_filter.mpr ⟨mt_3 (List.mem_of_getElem? (i := 60) rfl), rfl⟩
set_option maxRecDepth 100000 in
theorem mw_592 : Cond.instanceMethod yX6_sniff ∈ gw_all := List.mem_filter.mpr ⟨mt_3 (List.mem_of_getElem? (i := 61) rfl), rfl⟩
set_option maxRecDepth 100000 in
theorem mw_593 : Cond.selects RX6 yX6_sniff yX6_sniff ∈ gw_all := List.mem_filter.mpr ⟨mt_3 (List.mem_of_getElem? (i := 62) rfl), rfl⟩
set_option maxRecDepth 100000 in
theorem mw_594 : Cond.code yX6_sniff cX6_sniff 8 (some .int) ∈ gw_all := List.mem_filter.mpr ⟨mt_3 (List.mem_of_getElem? (i := 63) rfl), rfl⟩
set_option maxRecDepth 100000 in
theorem mw_595 : Cond.methodLink RL 54 yX6_weigh ∈ gw_all := List.mem_filter.mpr ⟨mt_3 (List.mem_of_getElem? (i := 64) rfl), rfl⟩
set_option maxRecDepth 100000 in
theorem mw_596 : Cond.instanceMethod yX6_weigh ∈ gw_all := List.mem_filter.mpr ⟨mt_3 (List.mem_of_getElem? (i := 65) rfl), rfl⟩
set_option maxRecDepth 100000 in
theorem mw_597 : Cond.selects RX6 yX6_weigh yX6_weigh ∈ gw_all := List.mem_filter.mpr ⟨mt_3 (List.mem_of_getElem? (i := 66) rfl), rfl⟩
set_option maxRecDepth 100000 in
theorem mw_598 : Cond.code yX6_weigh cX6_weigh 6 (some .int) ∈ gw_all := List.mem_filter.mpr ⟨mt_3 (List.mem_of_getElem? (i := 67) rfl), rfl⟩
set_option maxRecDepth 100000 in
theorem mw_599 : Cond.methodLink RL 58 yX6_cast ∈ gw_all := List.mem_filter.mpr ⟨mt_3 (List.mem_of_getElem? (i := 68) rfl), rfl⟩
set_option maxRecDepth 100000 in
theorem mw_600 : Cond.instanceMethod yX6_cast ∈ gw_all := List.mem_filter.mpr ⟨mt_3 (List.mem_of_getElem? (i := 69) rfl), rfl⟩
set_option maxRecDepth 100000 in
theorem mw_601 : Cond.selects RX6 yX6_cast yX6_cast ∈ gw_all := List.mem_filter.mpr ⟨mt_3 (List.mem_of_getElem? (i := 70) rfl), rfl⟩
set_option maxRecDepth 100000 in
theorem mw_602 : Cond.code yX6_cast cX6_cast 4 (some .int) ∈ gw_all := List.mem_filter.mpr ⟨mt_3 (List.mem_of_getElem? (i := 71) rfl), rfl⟩
set_option maxRecDepth 100000 in
theorem mw_603 : Cond.methodLink RL 62 yX6_map ∈ gw_all := List.mem_filter.mpr ⟨mt_3 (List.mem_of_getElem? (i := 72) rfl), rfl⟩
set_option maxRecDepth 100000 in
theorem mw_604 : Cond.instanceMethod yX6_map ∈ gw_all := List.mem_filter.mpr ⟨mt_3 (List.mem_of_getElem? (i := 73) rfl), rfl⟩
set_option maxRecDepth 100000 in
theorem mw_605 : Cond.selects RX6 yX6_map yX6_map ∈ gw_all := List.mem_filter.mpr ⟨mt_3 (List.mem_of_getElem? (i := 74) rfl), rfl⟩
set_option maxRecDepth 100000 in
theorem mw_606 : Cond.code yX6_map cX6_map 5 (some .int) ∈ gw_all := List.mem_filter.mpr ⟨mt_3 (List.mem_of_getElem? (i := 75) rfl), rfl⟩
set_option maxRecDepth 100000 in
theorem mw_607 : Cond.methodLink RX6 187 yX6_isMap ∈ gw_all := List.mem_filter.mpr ⟨mt_3 (List.mem_of_getElem? (i := 76) rfl), rfl⟩
set_option maxRecDepth 100000 in
theorem mw_608 : Cond.static yX6_isMap ∈ gw_all := List.mem_filter.mpr ⟨mt_3 (List.mem_of_getElem? (i := 77) rfl), rfl⟩
set_option maxRecDepth 100000 in
theorem mw_609 : Cond.code yX6_isMap cX6_isMap 1 (some .boolean) ∈ gw_all := List.mem_filter.mpr ⟨mt_3 (List.mem_of_getElem? (i := 78) rfl), rfl⟩
set_option maxRecDepth 100000 in
theorem mw_610 : Cond.constant RX6 402 (-8388608) ∈ gw_all := List.mem_filter.mpr ⟨mt_3 (List.mem_of_getElem? (i := 79) rfl), rfl⟩
set_option maxRecDepth 100000 in
theorem mw_611 : Cond.methodLink RX6 403 yJ6_bitCount_0f7a4 ∈ gw_all := List.mem_filter.mpr ⟨mt_3 (List.mem_of_getElem? (i := 80) rfl), rfl⟩
set_option maxRecDepth 100000 in
theorem mw_612 : Cond.static yJ6_bitCount_0f7a4 ∈ gw_all := List.mem_filter.mpr ⟨mt_3 (List.mem_of_getElem? (i := 81) rfl), rfl⟩
set_option maxRecDepth 100000 in
theorem mw_613 : Cond.code yJ6_bitCount_0f7a4 cJ6_bitCount_0f7a4 1 (some .int) ∈ gw_all := List.mem_filter.mpr ⟨mt_3 (List.mem_of_getElem? (i := 82) rfl), rfl⟩
set_option maxRecDepth 100000 in
theorem mw_614 : Cond.constant RJ6 265 1431655765 ∈ gw_all := List.mem_filter.mpr ⟨mt_3 (List.mem_of_getElem? (i := 83) rfl), rfl⟩
set_option maxRecDepth 100000 in
theorem mw_615 : Cond.constant RJ6 266 858993459 ∈ gw_all := List.mem_filter.mpr ⟨mt_3 (List.mem_of_getElem? (i := 84) rfl), rfl⟩
set_option maxRecDepth 100000 in
theorem mw_616 : Cond.constant RJ6 267 252645135 ∈ gw_all := List.mem_filter.mpr ⟨mt_3 (List.mem_of_getElem? (i := 85) rfl), rfl⟩
set_option maxRecDepth 100000 in
theorem mw_617 : Cond.methodLink RX6 194 yX3_hasNext ∈ gw_all := List.mem_filter.mpr ⟨mt_3 (List.mem_of_getElem? (i := 86) rfl), rfl⟩
set_option maxRecDepth 100000 in
theorem mw_618 : Cond.instanceMethod yX3_hasNext ∈ gw_all := List.mem_filter.mpr ⟨mt_3 (List.mem_of_getElem? (i := 87) rfl), rfl⟩
set_option maxRecDepth 100000 in
theorem mw_619 : Cond.selects RX3 yX3_hasNext yX3_hasNext ∈ gw_all := List.mem_filter.mpr ⟨mt_3 (List.mem_of_getElem? (i := 88) rfl), rfl⟩
set_option maxRecDepth 100000 in
theorem mw_620 : Cond.code yX3_hasNext cX3_hasNext 1 (some .boolean) ∈ gw_all := List.mem_filter.mpr ⟨mt_3 (List.mem_of_getElem? (i := 89) rfl), rfl⟩
set_option maxRecDepth 100000 in
theorem mw_621 : Cond.methodLink RX6 199 yX6_tellMap ∈ gw_all := List.mem_filter.mpr ⟨mt_3 (List.mem_of_getElem? (i := 90) rfl), rfl⟩
set_option maxRecDepth 100000 in
theorem mw_623 : Cond.instanceMethod yX6_tellMap ∈ gw_all := List.mem_filter.mpr ⟨mt_3 (List.mem_of_getElem? (i := 92) rfl), rfl⟩
set_option maxRecDepth 100000 in
theorem mw_624 : Cond.code yX6_tellMap cX6_tellMap 4 (some .int) ∈ gw_all := List.mem_filter.mpr ⟨mt_3 (List.mem_of_getElem? (i := 93) rfl), rfl⟩
set_option maxRecDepth 100000 in
theorem mw_625 : Cond.methodLink RX6 393 yX2_tellMap ∈ gw_all := List.mem_filter.mpr ⟨mt_3 (List.mem_of_getElem? (i := 94) rfl), rfl⟩
set_option maxRecDepth 100000 in
theorem mw_626 : Cond.instanceMethod yX2_tellMap ∈ gw_all := List.mem_filter.mpr ⟨mt_3 (List.mem_of_getElem? (i := 95) rfl), rfl⟩
set_option maxRecDepth 100000 in
theorem mw_627 : Cond.selects RX2 yX2_tellMap yX2_tellMap ∈ gw_all := List.mem_filter.mpr ⟨mt_3 (List.mem_of_getElem? (i := 96) rfl), rfl⟩
set_option maxRecDepth 100000 in
theorem mw_628 : Cond.code yX2_tellMap cX2_tellMap 4 none ∈ gw_all := List.mem_filter.mpr ⟨mt_3 (List.mem_of_getElem? (i := 97) rfl), rfl⟩
set_option maxRecDepth 100000 in
theorem mw_629 : Cond.methodLink RX2 107 yX3_expect ∈ gw_all := List.mem_filter.mpr ⟨mt_3 (List.mem_of_getElem? (i := 98) rfl), rfl⟩
set_option maxRecDepth 100000 in
theorem mw_630 : Cond.instanceMethod yX3_expect ∈ gw_all := List.mem_filter.mpr ⟨mt_3 (List.mem_of_getElem? (i := 99) rfl), rfl⟩
set_option maxRecDepth 100000 in
theorem mw_631 : Cond.selects RX3 yX3_expect yX3_expect ∈ gw_all := List.mem_filter.mpr ⟨mt_3 (List.mem_of_getElem? (i := 100) rfl), rfl⟩
set_option maxRecDepth 100000 in
theorem mw_632 : Cond.code yX3_expect cX3_expect 3 none ∈ gw_all := List.mem_filter.mpr ⟨mt_3 (List.mem_of_getElem? (i := 101) rfl), rfl⟩
set_option maxRecDepth 100000 in
theorem mw_633 : Cond.methodLink RL 66 yX6_adapt ∈ gw_all := List.mem_filter.mpr ⟨mt_3 (List.mem_of_getElem? (i := 102) rfl), rfl⟩
set_option maxRecDepth 100000 in
theorem mw_634 : Cond.instanceMethod yX6_adapt ∈ gw_all := List.mem_filter.mpr ⟨mt_3 (List.mem_of_getElem? (i := 103) rfl), rfl⟩
set_option maxRecDepth 100000 in
theorem mw_635 : Cond.selects RX6 yX6_adapt yX6_adapt ∈ gw_all := List.mem_filter.mpr ⟨mt_3 (List.mem_of_getElem? (i := 104) rfl), rfl⟩
set_option maxRecDepth 100000 in
theorem mw_636 : Cond.code yX6_adapt cX6_adapt 7 (some .int) ∈ gw_all := List.mem_filter.mpr ⟨mt_3 (List.mem_of_getElem? (i := 105) rfl), rfl⟩
set_option maxRecDepth 100000 in
theorem mw_637 : Cond.methodLink RX6 203 yX2_badChannels ∈ gw_all := List.mem_filter.mpr ⟨mt_3 (List.mem_of_getElem? (i := 106) rfl), rfl⟩
set_option maxRecDepth 100000 in
theorem mw_638 : Cond.instanceMethod yX2_badChannels ∈ gw_all := List.mem_filter.mpr ⟨mt_3 (List.mem_of_getElem? (i := 107) rfl), rfl⟩
set_option maxRecDepth 100000 in
theorem mw_639 : Cond.selects RX2 yX2_badChannels yX2_badChannels ∈ gw_all := List.mem_filter.mpr ⟨mt_3 (List.mem_of_getElem? (i := 108) rfl), rfl⟩
set_option maxRecDepth 100000 in
theorem mw_640 : Cond.code yX2_badChannels cX2_badChannels 5 (some .int) ∈ gw_all := List.mem_filter.mpr ⟨mt_3 (List.mem_of_getElem? (i := 109) rfl), rfl⟩
set_option maxRecDepth 100000 in
theorem mw_641 : Cond.methodLink RX6 209 yX2_mostAnswered ∈ gw_all := List.mem_filter.mpr ⟨mt_3 (List.mem_of_getElem? (i := 110) rfl), rfl⟩
set_option maxRecDepth 100000 in
theorem mw_642 : Cond.instanceMethod yX2_mostAnswered ∈ gw_all := List.mem_filter.mpr ⟨mt_3 (List.mem_of_getElem? (i := 111) rfl), rfl⟩
set_option maxRecDepth 100000 in
theorem mw_643 : Cond.selects RX2 yX2_mostAnswered yX2_mostAnswered ∈ gw_all := List.mem_filter.mpr ⟨mt_3 (List.mem_of_getElem? (i := 112) rfl), rfl⟩
set_option maxRecDepth 100000 in
theorem mw_644 : Cond.code yX2_mostAnswered cX2_mostAnswered 6 (some .int) ∈ gw_all := List.mem_filter.mpr ⟨mt_3 (List.mem_of_getElem? (i := 113) rfl), rfl⟩
set_option maxRecDepth 100000 in
theorem mw_645 : Cond.methodLink RL 70 yX6_run ∈ gw_all := List.mem_filter.mpr ⟨mt_3 (List.mem_of_getElem? (i := 114) rfl), rfl⟩
set_option maxRecDepth 100000 in
theorem mw_646 : Cond.instanceMethod yX6_run ∈ gw_all := List.mem_filter.mpr ⟨mt_3 (List.mem_of_getElem? (i := 115) rfl), rfl⟩
set_option maxRecDepth 100000 in
theorem mw_647 : Cond.selects RX6 yX6_run yX6_run ∈ gw_all := List.mem_filter.mpr ⟨mt_3 (List.mem_of_getElem? (i := 116) rfl), rfl⟩
set_option maxRecDepth 100000 in
theorem mw_648 : Cond.code yX6_run cX6_run 2 (some .int) ∈ gw_all := List.mem_filter.mpr ⟨mt_3 (List.mem_of_getElem? (i := 117) rfl), rfl⟩
set_option maxRecDepth 100000 in
theorem mw_649 : Cond.methodLink RX6 213 yX6_hasTimeFor ∈ gw_all := List.mem_filter.mpr ⟨mt_3 (List.mem_of_getElem? (i := 118) rfl), rfl⟩
set_option maxRecDepth 100000 in
theorem mw_651 : Cond.instanceMethod yX6_hasTimeFor ∈ gw_all := List.mem_filter.mpr ⟨mt_3 (List.mem_of_getElem? (i := 120) rfl), rfl⟩
set_option maxRecDepth 100000 in
theorem mw_652 : Cond.code yX6_hasTimeFor cX6_hasTimeFor 2 (some .boolean) ∈ gw_all := List.mem_filter.mpr ⟨mt_3 (List.mem_of_getElem? (i := 121) rfl), rfl⟩
set_option maxRecDepth 100000 in
theorem mw_653 : Cond.constant RX6 338 99998 ∈ gw_all := List.mem_filter.mpr ⟨mt_3 (List.mem_of_getElem? (i := 122) rfl), rfl⟩
set_option maxRecDepth 100000 in
theorem mw_654 : Cond.methodLink RX6 216 yX5_heardInTurns ∈ gw_all := List.mem_filter.mpr ⟨mt_3 (List.mem_of_getElem? (i := 123) rfl), rfl⟩
set_option maxRecDepth 100000 in
theorem mw_655 : Cond.instanceMethod yX5_heardInTurns ∈ gw_all := List.mem_filter.mpr ⟨mt_3 (List.mem_of_getElem? (i := 124) rfl), rfl⟩
set_option maxRecDepth 100000 in
theorem mw_656 : Cond.selects RX5 yX5_heardInTurns yX5_heardInTurns ∈ gw_all := List.mem_filter.mpr ⟨mt_3 (List.mem_of_getElem? (i := 125) rfl), rfl⟩
set_option maxRecDepth 100000 in
theorem mw_657 : Cond.code yX5_heardInTurns cX5_heardInTurns 3 (some .int) ∈ gw_all := List.mem_filter.mpr ⟨mt_3 (List.mem_of_getElem? (i := 126) rfl), rfl⟩
set_option maxRecDepth 100000 in
theorem mw_658 : Cond.methodLink RX5 149 yX5_goOneTurn ∈ gw_all := List.mem_filter.mpr ⟨mt_3 (List.mem_of_getElem? (i := 127) rfl), rfl⟩
set_option maxRecDepth 100000 in
theorem mw_659 : Cond.instanceMethod yX5_goOneTurn ∈ gw_all := List.mem_filter.mpr ⟨mt_3 (List.mem_of_getElem? (i := 128) rfl), rfl⟩
set_option maxRecDepth 100000 in
theorem mw_660 : Cond.selects RX5 yX5_goOneTurn yX5_goOneTurn ∈ gw_all := List.mem_filter.mpr ⟨mt_3 (List.mem_of_getElem? (i := 129) rfl), rfl⟩
set_option maxRecDepth 100000 in
theorem mw_661 : Cond.code yX5_goOneTurn cX5_goOneTurn 2 none ∈ gw_all := List.mem_filter.mpr ⟨mt_3 (List.mem_of_getElem? (i := 130) rfl), rfl⟩
set_option maxRecDepth 100000 in
theorem mw_662 : Cond.methodLink RX5 152 yX5_changeMaps ∈ gw_all := List.mem_filter.mpr ⟨mt_3 (List.mem_of_getElem? (i := 131) rfl), rfl⟩
set_option maxRecDepth 100000 in
theorem mw_663 : Cond.instanceMethod yX5_changeMaps ∈ gw_all := List.mem_filter.mpr ⟨mt_3 (List.mem_of_getElem? (i := 132) rfl), rfl⟩
set_option maxRecDepth 100000 in
theorem mw_664 : Cond.selects RX5 yX5_changeMaps yX5_changeMaps ∈ gw_all := List.mem_filter.mpr ⟨mt_3 (List.mem_of_getElem? (i := 133) rfl), rfl⟩
set_option maxRecDepth 100000 in
theorem mw_665 : Cond.code yX5_changeMaps cX5_changeMaps 4 none ∈ gw_all := List.mem_filter.mpr ⟨mt_3 (List.mem_of_getElem? (i := 134) rfl), rfl⟩
set_option maxRecDepth 100000 in
theorem mw_666 : Cond.methodLink RX5 180 yX3_changesAt ∈ gw_all := List.mem_filter.mpr ⟨mt_3 (List.mem_of_getElem? (i := 135) rfl), rfl⟩
set_option maxRecDepth 100000 in
theorem mw_667 : Cond.instanceMethod yX3_changesAt ∈ gw_all := List.mem_filter.mpr ⟨mt_3 (List.mem_of_getElem? (i := 136) rfl), rfl⟩
set_option maxRecDepth 100000 in
theorem mw_668 : Cond.selects RX3 yX3_changesAt yX3_changesAt ∈ gw_all := List.mem_filter.mpr ⟨mt_3 (List.mem_of_getElem? (i := 137) rfl), rfl⟩
set_option maxRecDepth 100000 in
theorem mw_669 : Cond.code yX3_changesAt cX3_changesAt 2 (some .boolean) ∈ gw_all := List.mem_filter.mpr ⟨mt_3 (List.mem_of_getElem? (i := 138) rfl), rfl⟩
set_option maxRecDepth 100000 in
theorem mw_670 : Cond.methodLink RX3 22 yX3_takeAtOnce ∈ gw_all := List.mem_filter.mpr ⟨mt_3 (List.mem_of_getElem? (i := 139) rfl), rfl⟩
set_option maxRecDepth 100000 in
theorem mw_671 : Cond.instanceMethod yX3_takeAtOnce ∈ gw_all := List.mem_filter.mpr ⟨mt_3 (List.mem_of_getElem? (i := 140) rfl), rfl⟩
set_option maxRecDepth 100000 in
theorem mw_672 : Cond.selects RX3 yX3_takeAtOnce yX3_takeAtOnce ∈ gw_all := List.mem_filter.mpr ⟨mt_3 (List.mem_of_getElem? (i := 141) rfl), rfl⟩
set_option maxRecDepth 100000 in
theorem mw_673 : Cond.code yX3_takeAtOnce cX3_takeAtOnce 2 none ∈ gw_all := List.mem_filter.mpr ⟨mt_3 (List.mem_of_getElem? (i := 142) rfl), rfl⟩
set_option maxRecDepth 100000 in
theorem mw_674 : Cond.methodLink RX5 155 yX5_beginTurnOfLinks ∈ gw_all := List.mem_filter.mpr ⟨mt_3 (List.mem_of_getElem? (i := 143) rfl), rfl⟩
set_option maxRecDepth 100000 in
theorem mw_675 : Cond.instanceMethod yX5_beginTurnOfLinks ∈ gw_all := List.mem_filter.mpr ⟨mt_3 (List.mem_of_getElem? (i := 144) rfl), rfl⟩
set_option maxRecDepth 100000 in
theorem mw_676 : Cond.selects RX5 yX5_beginTurnOfLinks yX5_beginTurnOfLinks ∈ gw_all := List.mem_filter.mpr ⟨mt_3 (List.mem_of_getElem? (i := 145) rfl), rfl⟩
set_option maxRecDepth 100000 in
theorem mw_677 : Cond.code yX5_beginTurnOfLinks cX5_beginTurnOfLinks 4 none ∈ gw_all := List.mem_filter.mpr ⟨mt_3 (List.mem_of_getElem? (i := 146) rfl), rfl⟩
set_option maxRecDepth 100000 in
theorem mw_678 : Cond.methodLink RX5 186 yX0_openAt ∈ gw_all := List.mem_filter.mpr ⟨mt_3 (List.mem_of_getElem? (i := 147) rfl), rfl⟩
set_option maxRecDepth 100000 in
theorem mw_679 : Cond.instanceMethod yX0_openAt ∈ gw_all := List.mem_filter.mpr ⟨mt_3 (List.mem_of_getElem? (i := 148) rfl), rfl⟩
set_option maxRecDepth 100000 in
theorem mw_680 : Cond.selects RX0 yX0_openAt yX0_openAt ∈ gw_all := List.mem_filter.mpr ⟨mt_3 (List.mem_of_getElem? (i := 149) rfl), rfl⟩
set_option maxRecDepth 100000 in
theorem mw_681 : Cond.code yX0_openAt cX0_openAt 2 none ∈ gw_all := List.mem_filter.mpr ⟨mt_3 (List.mem_of_getElem? (i := 150) rfl), rfl⟩
set_option maxRecDepth 100000 in
theorem mw_682 : Cond.methodLink RX0 28 yX0_isDue ∈ gw_all := List.mem_filter.mpr ⟨mt_3 (List.mem_of_getElem? (i := 151) rfl), rfl⟩
set_option maxRecDepth 100000 in
theorem mw_683 : Cond.instanceMethod yX0_isDue ∈ gw_all := List.mem_filter.mpr ⟨mt_3 (List.mem_of_getElem? (i := 152) rfl), rfl⟩
set_option maxRecDepth 100000 in
theorem mw_684 : Cond.selects RX0 yX0_isDue yX0_isDue ∈ gw_all := List.mem_filter.mpr ⟨mt_3 (List.mem_of_getElem? (i := 153) rfl), rfl⟩
set_option maxRecDepth 100000 in
theorem mw_685 : Cond.code yX0_isDue cX0_isDue 2 (some .boolean) ∈ gw_all := List.mem_filter.mpr ⟨mt_3 (List.mem_of_getElem? (i := 154) rfl), rfl⟩
set_option maxRecDepth 100000 in
theorem mw_686 : Cond.methodLink RX5 189 yX5_isReadyAt ∈ gw_all := List.mem_filter.mpr ⟨mt_3 (List.mem_of_getElem? (i := 155) rfl), rfl⟩
set_option maxRecDepth 100000 in
theorem mw_687 : Cond.instanceMethod yX5_isReadyAt ∈ gw_all := List.mem_filter.mpr ⟨mt_3 (List.mem_of_getElem? (i := 156) rfl), rfl⟩
set_option maxRecDepth 100000 in
theorem mw_688 : Cond.selects RX5 yX5_isReadyAt yX5_isReadyAt ∈ gw_all := List.mem_filter.mpr ⟨mt_3 (List.mem_of_getElem? (i := 157) rfl), rfl⟩
set_option maxRecDepth 100000 in
theorem mw_689 : Cond.code yX5_isReadyAt cX5_isReadyAt 4 (some .boolean) ∈ gw_all := List.mem_filter.mpr ⟨mt_3 (List.mem_of_getElem? (i := 158) rfl), rfl⟩
set_option maxRecDepth 100000 in
theorem mw_690 : Cond.methodLink RX5 77 yX5_isPresent ∈ gw_all := List.mem_filter.mpr ⟨mt_3 (List.mem_of_getElem? (i := 159) rfl), rfl⟩
set_option maxRecDepth 100000 in
theorem mw_691 : Cond.instanceMethod yX5_isPresent ∈ gw_all := List.mem_filter.mpr ⟨mt_3 (List.mem_of_getElem? (i := 160) rfl), rfl⟩
set_option maxRecDepth 100000 in
theorem mw_692 : Cond.selects RX5 yX5_isPresent yX5_isPresent ∈ gw_all := List.mem_filter.mpr ⟨mt_3 (List.mem_of_getElem? (i := 161) rfl), rfl⟩
set_option maxRecDepth 100000 in
theorem mw_693 : Cond.code yX5_isPresent cX5_isPresent 4 (some .boolean) ∈ gw_all := List.mem_filter.mpr ⟨mt_3 (List.mem_of_getElem? (i := 162) rfl), rfl⟩
set_option maxRecDepth 100000 in
theorem mw_694 : Cond.methodLink RX5 68 yX2_holds ∈ gw_all := List.mem_filter.mpr ⟨mt_3 (List.mem_of_getElem? (i := 163) rfl), rfl⟩
set_option maxRecDepth 100000 in
theorem mw_695 : Cond.methodLink RX5 81 yX1_isAwake ∈ gw_all := List.mem_filter.mpr ⟨mt_3 (List.mem_of_getElem? (i := 164) rfl), rfl⟩
set_option maxRecDepth 100000 in
theorem mw_696 : Cond.instanceMethod yX1_isAwake ∈ gw_all := List.mem_filter.mpr ⟨mt_3 (List.mem_of_getElem? (i := 165) rfl), rfl⟩
set_option maxRecDepth 100000 in
theorem mw_697 : Cond.selects RX1 yX1_isAwake yX1_isAwake ∈ gw_all := List.mem_filter.mpr ⟨mt_3 (List.mem_of_getElem? (i := 166) rfl), rfl⟩
set_option maxRecDepth 100000 in
theorem mw_698 : Cond.code yX1_isAwake cX1_isAwake 2 (some .boolean) ∈ gw_all := List.mem_filter.mpr ⟨mt_3 (List.mem_of_getElem? (i := 167) rfl), rfl⟩
set_option maxRecDepth 100000 in
theorem mw_699 : Cond.methodLink RX5 159 yX5_chooseIn ∈ gw_all := List.mem_filter.mpr ⟨mt_3 (List.mem_of_getElem? (i := 168) rfl), rfl⟩
set_option maxRecDepth 100000 in
theorem mw_700 : Cond.instanceMethod yX5_chooseIn ∈ gw_all := List.mem_filter.mpr ⟨mt_3 (List.mem_of_getElem? (i := 169) rfl), rfl⟩
set_option maxRecDepth 100000 in
theorem mw_701 : Cond.selects RX5 yX5_chooseIn yX5_chooseIn ∈ gw_all := List.mem_filter.mpr ⟨mt_3 (List.mem_of_getElem? (i := 170) rfl), rfl⟩
set_option maxRecDepth 100000 in
theorem mw_702 : Cond.code yX5_chooseIn cX5_chooseIn 4 none ∈ gw_all := List.mem_filter.mpr ⟨mt_3 (List.mem_of_getElem? (i := 171) rfl), rfl⟩
set_option maxRecDepth 100000 in
theorem mw_703 : Cond.methodLink RX5 209 yX2_firstWithOpenFrame ∈ gw_all := List.mem_filter.mpr ⟨mt_3 (List.mem_of_getElem? (i := 172) rfl), rfl⟩
set_option maxRecDepth 100000 in
theorem mw_704 : Cond.instanceMethod yX2_firstWithOpenFrame ∈ gw_all := List.mem_filter.mpr ⟨mt_3 (List.mem_of_getElem? (i := 173) rfl), rfl⟩
set_option maxRecDepth 100000 in
theorem mw_705 : Cond.selects RX2 yX2_firstWithOpenFrame yX2_firstWithOpenFrame ∈ gw_all := List.mem_filter.mpr ⟨mt_3 (List.mem_of_getElem? (i := 174) rfl), rfl⟩
set_option maxRecDepth 100000 in
theorem mw_706 : Cond.code yX2_firstWithOpenFrame cX2_firstWithOpenFrame 2 (some .int) ∈ gw_all := List.mem_filter.mpr ⟨mt_3 (List.mem_of_getElem? (i := 175) rfl), rfl⟩
set_option maxRecDepth 100000 in
theorem mw_707 : Cond.methodLink RX5 213 yX2_firstNotKnown ∈ gw_all := List.mem_filter.mpr ⟨mt_3 (List.mem_of_getElem? (i := 176) rfl), rfl⟩
set_option maxRecDepth 100000 in
theorem mw_708 : Cond.instanceMethod yX2_firstNotKnown ∈ gw_all := List.mem_filter.mpr ⟨mt_3 (List.mem_of_getElem? (i := 177) rfl), rfl⟩
set_option maxRecDepth 100000 in
theorem mw_709 : Cond.selects RX2 yX2_firstNotKnown yX2_firstNotKnown ∈ gw_all := List.mem_filter.mpr ⟨mt_3 (List.mem_of_getElem? (i := 178) rfl), rfl⟩
set_option maxRecDepth 100000 in
theorem mw_710 : Cond.code yX2_firstNotKnown cX2_firstNotKnown 2 (some .int) ∈ gw_all := List.mem_filter.mpr ⟨mt_3 (List.mem_of_getElem? (i := 179) rfl), rfl⟩
set_option maxRecDepth 100000 in
theorem mw_711 : Cond.methodLink RX5 219 yX2_nextPolled ∈ gw_all := List.mem_filter.mpr ⟨mt_3 (List.mem_of_getElem? (i := 180) rfl), rfl⟩
set_option maxRecDepth 100000 in
theorem mw_712 : Cond.instanceMethod yX2_nextPolled ∈ gw_all := List.mem_filter.mpr ⟨mt_3 (List.mem_of_getElem? (i := 181) rfl), rfl⟩
set_option maxRecDepth 100000 in
theorem mw_713 : Cond.selects RX2 yX2_nextPolled yX2_nextPolled ∈ gw_all := List.mem_filter.mpr ⟨mt_3 (List.mem_of_getElem? (i := 182) rfl), rfl⟩
set_option maxRecDepth 100000 in
theorem mw_714 : Cond.code yX2_nextPolled cX2_nextPolled 6 (some .int) ∈ gw_all := List.mem_filter.mpr ⟨mt_3 (List.mem_of_getElem? (i := 183) rfl), rfl⟩
set_option maxRecDepth 100000 in
theorem mw_715 : Cond.methodLink RX5 162 yX5_tunePacket ∈ gw_all := List.mem_filter.mpr ⟨mt_3 (List.mem_of_getElem? (i := 184) rfl), rfl⟩
set_option maxRecDepth 100000 in
theorem mw_716 : Cond.instanceMethod yX5_tunePacket ∈ gw_all := List.mem_filter.mpr ⟨mt_3 (List.mem_of_getElem? (i := 185) rfl), rfl⟩
set_option maxRecDepth 100000 in
theorem mw_717 : Cond.selects RX5 yX5_tunePacket yX5_tunePacket ∈ gw_all := List.mem_filter.mpr ⟨mt_3 (List.mem_of_getElem? (i := 186) rfl), rfl⟩
set_option maxRecDepth 100000 in
theorem mw_718 : Cond.code yX5_tunePacket cX5_tunePacket 5 none ∈ gw_all := List.mem_filter.mpr ⟨mt_3 (List.mem_of_getElem? (i := 187) rfl), rfl⟩
set_option maxRecDepth 100000 in
theorem mw_719 : Cond.methodLink RX5 238 yX3_hasNext ∈ gw_all := List.mem_filter.mpr ⟨mt_3 (List.mem_of_getElem? (i := 188) rfl), rfl⟩
set_option maxRecDepth 100000 in
theorem mw_720 : Cond.methodLink RX5 98 yX5_hopIn ∈ gw_all := List.mem_filter.mpr ⟨mt_3 (List.mem_of_getElem? (i := 189) rfl), rfl⟩
set_option maxRecDepth 100000 in
theorem mw_721 : Cond.instanceMethod yX5_hopIn ∈ gw_all := List.mem_filter.mpr ⟨mt_3 (List.mem_of_getElem? (i := 190) rfl), rfl⟩
set_option maxRecDepth 100000 in
theorem mw_722 : Cond.selects RX5 yX5_hopIn yX5_hopIn ∈ gw_all := List.mem_filter.mpr ⟨mt_3 (List.mem_of_getElem? (i := 191) rfl), rfl⟩
set_option maxRecDepth 100000 in
theorem mw_723 : Cond.code yX5_hopIn cX5_hopIn 3 (some .int) ∈ gw_all := List.mem_filter.mpr ⟨mt_3 (List.mem_of_getElem? (i := 192) rfl), rfl⟩
set_option maxRecDepth 100000 in
theorem mw_724 : Cond.methodLink RX5 87 yX5_addressOf ∈ gw_all := List.mem_filter.mpr ⟨mt_3 (List.mem_of_getElem? (i := 193) rfl), rfl⟩
set_option maxRecDepth 100000 in
theorem mw_725 : Cond.instanceMethod yX5_addressOf ∈ gw_all := List.mem_filter.mpr ⟨mt_3 (List.mem_of_getElem? (i := 194) rfl), rfl⟩
set_option maxRecDepth 100000 in
theorem mw_726 : Cond.selects RX5 yX5_addressOf yX5_addressOf ∈ gw_all := List.mem_filter.mpr ⟨mt_3 (List.mem_of_getElem? (i := 195) rfl), rfl⟩
set_option maxRecDepth 100000 in
theorem mw_727 : Cond.code yX5_addressOf cX5_addressOf 2 (some .int) ∈ gw_all := List.mem_filter.mpr ⟨mt_3 (List.mem_of_getElem? (i := 196) rfl), rfl⟩
set_option maxRecDepth 100000 in
theorem mw_728 : Cond.methodLink RX5 84 yX5_hasRadio ∈ gw_all := List.mem_filter.mpr ⟨mt_3 (List.mem_of_getElem? (i := 197) rfl), rfl⟩
set_option maxRecDepth 100000 in
theorem nw_729 : Cond.methodLinkNest RX5 94 yX6_hopOf RX6 ∈ lw_tbl := mt_3 (List.mem_of_getElem? (i := 198) rfl)
set_option maxRecDepth 100000 in
theorem mw_730 : Cond.static yX6_hopOf ∈ gw_all := List.mem_filter.mpr ⟨mt_3 (List.mem_of_getElem? (i := 199) rfl), rfl⟩
set_option maxRecDepth 100000 in
theorem mw_731 : Cond.code yX6_hopOf cX6_hopOf 8 (some .int) ∈ gw_all := List.mem_filter.mpr ⟨mt_3 (List.mem_of_getElem? (i := 200) rfl), rfl⟩
set_option maxRecDepth 100000 in
theorem mw_732 : Cond.fieldLink RX6 408 RX6 "EXCHANGE_ONE" "[I" ∈ gw_all := List.mem_filter.mpr ⟨mt_3 (List.mem_of_getElem? (i := 201) rfl), rfl⟩
set_option maxRecDepth 100000 in
theorem nw_733 : Cond.laysStatic RX6 "EXCHANGE_ONE" "[I" ∈ lw_tbl := mt_3 (List.mem_of_getElem? (i := 202) rfl)
set_option maxRecDepth 100000 in
theorem mw_734 : Cond.fieldLink RX6 411 RX6 "EXCHANGE_OTHER" "[I" ∈ gw_all := List.mem_filter.mpr ⟨mt_3 (List.mem_of_getElem? (i := 203) rfl), rfl⟩
set_option maxRecDepth 100000 in
theorem nw_735 : Cond.laysStatic RX6 "EXCHANGE_OTHER" "[I" ∈ lw_tbl := mt_3 (List.mem_of_getElem? (i := 204) rfl)
set_option maxRecDepth 100000 in
theorem nw_736 : Cond.methodLinkNest RX5 101 yX6_byMap RX6 ∈ lw_tbl := mt_3 (List.mem_of_getElem? (i := 205) rfl)
set_option maxRecDepth 100000 in
theorem mw_737 : Cond.static yX6_byMap ∈ gw_all := List.mem_filter.mpr ⟨mt_3 (List.mem_of_getElem? (i := 206) rfl), rfl⟩
set_option maxRecDepth 100000 in
theorem mw_738 : Cond.code yX6_byMap cX6_byMap 5 (some .int) ∈ gw_all := List.mem_filter.mpr ⟨mt_3 (List.mem_of_getElem? (i := 207) rfl), rfl⟩
set_option maxRecDepth 100000 in
theorem mw_739 : Cond.methodLink RX5 165 yX5_sendPacket ∈ gw_all := List.mem_filter.mpr ⟨mt_3 (List.mem_of_getElem? (i := 208) rfl), rfl⟩
set_option maxRecDepth 100000 in
theorem mw_740 : Cond.instanceMethod yX5_sendPacket ∈ gw_all := List.mem_filter.mpr ⟨mt_3 (List.mem_of_getElem? (i := 209) rfl), rfl⟩
set_option maxRecDepth 100000 in
theorem mw_741 : Cond.selects RX5 yX5_sendPacket yX5_sendPacket ∈ gw_all := List.mem_filter.mpr ⟨mt_3 (List.mem_of_getElem? (i := 210) rfl), rfl⟩
set_option maxRecDepth 100000 in
theorem mw_742 : Cond.code yX5_sendPacket cX5_sendPacket 5 none ∈ gw_all := List.mem_filter.mpr ⟨mt_3 (List.mem_of_getElem? (i := 211) rfl), rfl⟩
set_option maxRecDepth 100000 in
theorem mw_743 : Cond.methodLink RX5 248 yX5_lossOnAir ∈ gw_all := List.mem_filter.mpr ⟨mt_3 (List.mem_of_getElem? (i := 212) rfl), rfl⟩
set_option maxRecDepth 100000 in
theorem mw_744 : Cond.instanceMethod yX5_lossOnAir ∈ gw_all := List.mem_filter.mpr ⟨mt_3 (List.mem_of_getElem? (i := 213) rfl), rfl⟩
set_option maxRecDepth 100000 in
theorem mw_745 : Cond.selects RX5 yX5_lossOnAir yX5_lossOnAir ∈ gw_all := List.mem_filter.mpr ⟨mt_3 (List.mem_of_getElem? (i := 214) rfl), rfl⟩
set_option maxRecDepth 100000 in
theorem mw_746 : Cond.code yX5_lossOnAir cX5_lossOnAir 3 (some .int) ∈ gw_all := List.mem_filter.mpr ⟨mt_3 (List.mem_of_getElem? (i := 215) rfl), rfl⟩
set_option maxRecDepth 100000 in
theorem mw_747 : Cond.methodLink RX5 229 yX5_draw ∈ gw_all := List.mem_filter.mpr ⟨mt_3 (List.mem_of_getElem? (i := 216) rfl), rfl⟩
set_option maxRecDepth 100000 in
theorem mw_748 : Cond.instanceMethod yX5_draw ∈ gw_all := List.mem_filter.mpr ⟨mt_3 (List.mem_of_getElem? (i := 217) rfl), rfl⟩
set_option maxRecDepth 100000 in
theorem mw_749 : Cond.selects RX5 yX5_draw yX5_draw ∈ gw_all := List.mem_filter.mpr ⟨mt_3 (List.mem_of_getElem? (i := 218) rfl), rfl⟩
set_option maxRecDepth 100000 in
theorem mw_750 : Cond.code yX5_draw cX5_draw 1 (some .int) ∈ gw_all := List.mem_filter.mpr ⟨mt_3 (List.mem_of_getElem? (i := 219) rfl), rfl⟩
set_option maxRecDepth 100000 in
theorem mw_751 : Cond.constant RX5 225 1000003 ∈ gw_all := List.mem_filter.mpr ⟨mt_3 (List.mem_of_getElem? (i := 220) rfl), rfl⟩
set_option maxRecDepth 100000 in
theorem mw_752 : Cond.methodLink RX5 118 yX5_noiseOn ∈ gw_all := List.mem_filter.mpr ⟨mt_3 (List.mem_of_getElem? (i := 221) rfl), rfl⟩
set_option maxRecDepth 100000 in
theorem mw_753 : Cond.instanceMethod yX5_noiseOn ∈ gw_all := List.mem_filter.mpr ⟨mt_3 (List.mem_of_getElem? (i := 222) rfl), rfl⟩
set_option maxRecDepth 100000 in
theorem mw_754 : Cond.selects RX5 yX5_noiseOn yX5_noiseOn ∈ gw_all := List.mem_filter.mpr ⟨mt_3 (List.mem_of_getElem? (i := 223) rfl), rfl⟩
set_option maxRecDepth 100000 in
theorem mw_755 : Cond.code yX5_noiseOn cX5_noiseOn 2 (some .int) ∈ gw_all := List.mem_filter.mpr ⟨mt_3 (List.mem_of_getElem? (i := 224) rfl), rfl⟩
set_option maxRecDepth 100000 in
theorem mw_756 : Cond.methodLink RX5 251 yX2_tallySent ∈ gw_all := List.mem_filter.mpr ⟨mt_3 (List.mem_of_getElem? (i := 225) rfl), rfl⟩
set_option maxRecDepth 100000 in
theorem mw_757 : Cond.instanceMethod yX2_tallySent ∈ gw_all := List.mem_filter.mpr ⟨mt_3 (List.mem_of_getElem? (i := 226) rfl), rfl⟩
set_option maxRecDepth 100000 in
theorem mw_758 : Cond.selects RX2 yX2_tallySent yX2_tallySent ∈ gw_all := List.mem_filter.mpr ⟨mt_3 (List.mem_of_getElem? (i := 227) rfl), rfl⟩
set_option maxRecDepth 100000 in
theorem mw_759 : Cond.code yX2_tallySent cX2_tallySent 1 none ∈ gw_all := List.mem_filter.mpr ⟨mt_3 (List.mem_of_getElem? (i := 228) rfl), rfl⟩
set_option maxRecDepth 100000 in
theorem mw_760 : Cond.methodLink RX5 168 yX5_hearPacket ∈ gw_all := List.mem_filter.mpr ⟨mt_3 (List.mem_of_getElem? (i := 229) rfl), rfl⟩
set_option maxRecDepth 100000 in
theorem mw_761 : Cond.instanceMethod yX5_hearPacket ∈ gw_all := List.mem_filter.mpr ⟨mt_3 (List.mem_of_getElem? (i := 230) rfl), rfl⟩
set_option maxRecDepth 100000 in
theorem mw_762 : Cond.selects RX5 yX5_hearPacket yX5_hearPacket ∈ gw_all := List.mem_filter.mpr ⟨mt_3 (List.mem_of_getElem? (i := 231) rfl), rfl⟩
set_option maxRecDepth 100000 in
theorem mw_763 : Cond.code yX5_hearPacket cX5_hearPacket 4 none ∈ gw_all := List.mem_filter.mpr ⟨mt_3 (List.mem_of_getElem? (i := 232) rfl), rfl⟩
set_option maxRecDepth 100000 in
theorem mw_764 : Cond.methodLink RX5 257 yX2_endCastTurn ∈ gw_all := List.mem_filter.mpr ⟨mt_3 (List.mem_of_getElem? (i := 233) rfl), rfl⟩
set_option maxRecDepth 100000 in
theorem mw_765 : Cond.instanceMethod yX2_endCastTurn ∈ gw_all := List.mem_filter.mpr ⟨mt_3 (List.mem_of_getElem? (i := 234) rfl), rfl⟩
set_option maxRecDepth 100000 in
theorem mw_766 : Cond.selects RX2 yX2_endCastTurn yX2_endCastTurn ∈ gw_all := List.mem_filter.mpr ⟨mt_3 (List.mem_of_getElem? (i := 235) rfl), rfl⟩
set_option maxRecDepth 100000 in
theorem mw_767 : Cond.code yX2_endCastTurn cX2_endCastTurn 3 none ∈ gw_all := List.mem_filter.mpr ⟨mt_3 (List.mem_of_getElem? (i := 236) rfl), rfl⟩
set_option maxRecDepth 100000 in
theorem nw_768 : Cond.methodLinkNest RX2 133 yX6_byMap RX6 ∈ lw_tbl := mt_3 (List.mem_of_getElem? (i := 237) rfl)
set_option maxRecDepth 100000 in
theorem mw_769 : Cond.methodLink RX2 137 yX1_hearCast ∈ gw_all := List.mem_filter.mpr ⟨mt_3 (List.mem_of_getElem? (i := 238) rfl), rfl⟩
set_option maxRecDepth 100000 in
theorem mw_770 : Cond.instanceMethod yX1_hearCast ∈ gw_all := List.mem_filter.mpr ⟨mt_3 (List.mem_of_getElem? (i := 239) rfl), rfl⟩
set_option maxRecDepth 100000 in
theorem mw_771 : Cond.selects RX1 yX1_hearCast yX1_hearCast ∈ gw_all := List.mem_filter.mpr ⟨mt_4 (List.mem_of_getElem? (i := 0) rfl), rfl⟩
set_option maxRecDepth 100000 in
theorem mw_772 : Cond.code yX1_hearCast cX1_hearCast 3 none ∈ gw_all := List.mem_filter.mpr ⟨mt_4 (List.mem_of_getElem? (i := 1) rfl), rfl⟩
set_option maxRecDepth 100000 in
theorem mw_773 : Cond.methodLink RX2 140 yX2_dropFirstCast ∈ gw_all := List.mem_filter.mpr ⟨mt_4 (List.mem_of_getElem? (i := 2) rfl), rfl⟩
set_option maxRecDepth 100000 in
theorem mw_774 : Cond.instanceMethod yX2_dropFirstCast ∈ gw_all := List.mem_filter.mpr ⟨mt_4 (List.mem_of_getElem? (i := 3) rfl), rfl⟩
set_option maxRecDepth 100000 in
theorem mw_775 : Cond.selects RX2 yX2_dropFirstCast yX2_dropFirstCast ∈ gw_all := List.mem_filter.mpr ⟨mt_4 (List.mem_of_getElem? (i := 4) rfl), rfl⟩
set_option maxRecDepth 100000 in
theorem mw_776 : Cond.code yX2_dropFirstCast cX2_dropFirstCast 2 none ∈ gw_all := List.mem_filter.mpr ⟨mt_4 (List.mem_of_getElem? (i := 5) rfl), rfl⟩
set_option maxRecDepth 100000 in
theorem mw_777 : Cond.methodLink RX5 263 yX4_takeFirst ∈ gw_all := List.mem_filter.mpr ⟨mt_4 (List.mem_of_getElem? (i := 6) rfl), rfl⟩
set_option maxRecDepth 100000 in
theorem mw_778 : Cond.instanceMethod yX4_takeFirst ∈ gw_all := List.mem_filter.mpr ⟨mt_4 (List.mem_of_getElem? (i := 7) rfl), rfl⟩
set_option maxRecDepth 100000 in
theorem mw_779 : Cond.selects RX4 yX4_takeFirst yX4_takeFirst ∈ gw_all := List.mem_filter.mpr ⟨mt_4 (List.mem_of_getElem? (i := 8) rfl), rfl⟩
set_option maxRecDepth 100000 in
theorem mw_780 : Cond.code yX4_takeFirst cX4_takeFirst 3 none ∈ gw_all := List.mem_filter.mpr ⟨mt_4 (List.mem_of_getElem? (i := 9) rfl), rfl⟩
set_option maxRecDepth 100000 in
theorem mw_781 : Cond.methodLink RX4 43 yJ9_max_7cf53 ∈ gw_all := List.mem_filter.mpr ⟨mt_4 (List.mem_of_getElem? (i := 10) rfl), rfl⟩
set_option maxRecDepth 100000 in
theorem mw_782 : Cond.static yJ9_max_7cf53 ∈ gw_all := List.mem_filter.mpr ⟨mt_4 (List.mem_of_getElem? (i := 11) rfl), rfl⟩
set_option maxRecDepth 100000 in
theorem mw_783 : Cond.code yJ9_max_7cf53 cJ9_max_7cf53 2 (some .int) ∈ gw_all := List.mem_filter.mpr ⟨mt_4 (List.mem_of_getElem? (i := 12) rfl), rfl⟩
set_option maxRecDepth 100000 in
theorem mw_784 : Cond.methodLink RX5 266 yX4_hearFirst ∈ gw_all := List.mem_filter.mpr ⟨mt_4 (List.mem_of_getElem? (i := 13) rfl), rfl⟩
set_option maxRecDepth 100000 in
theorem mw_785 : Cond.instanceMethod yX4_hearFirst ∈ gw_all := List.mem_filter.mpr ⟨mt_4 (List.mem_of_getElem? (i := 14) rfl), rfl⟩
set_option maxRecDepth 100000 in
theorem mw_786 : Cond.selects RX4 yX4_hearFirst yX4_hearFirst ∈ gw_all := List.mem_filter.mpr ⟨mt_4 (List.mem_of_getElem? (i := 15) rfl), rfl⟩
set_option maxRecDepth 100000 in
theorem mw_787 : Cond.code yX4_hearFirst cX4_hearFirst 1 (some .boolean) ∈ gw_all := List.mem_filter.mpr ⟨mt_4 (List.mem_of_getElem? (i := 16) rfl), rfl⟩
set_option maxRecDepth 100000 in
theorem mw_788 : Cond.methodLink RX5 269 yX5_passOn ∈ gw_all := List.mem_filter.mpr ⟨mt_4 (List.mem_of_getElem? (i := 17) rfl), rfl⟩
set_option maxRecDepth 100000 in
theorem mw_789 : Cond.instanceMethod yX5_passOn ∈ gw_all := List.mem_filter.mpr ⟨mt_4 (List.mem_of_getElem? (i := 18) rfl), rfl⟩
set_option maxRecDepth 100000 in
theorem mw_790 : Cond.selects RX5 yX5_passOn yX5_passOn ∈ gw_all := List.mem_filter.mpr ⟨mt_4 (List.mem_of_getElem? (i := 19) rfl), rfl⟩
set_option maxRecDepth 100000 in
theorem mw_791 : Cond.code yX5_passOn cX5_passOn 5 none ∈ gw_all := List.mem_filter.mpr ⟨mt_4 (List.mem_of_getElem? (i := 20) rfl), rfl⟩
set_option maxRecDepth 100000 in
theorem mw_792 : Cond.methodLink RX5 280 yX2_linkOfRadio ∈ gw_all := List.mem_filter.mpr ⟨mt_4 (List.mem_of_getElem? (i := 21) rfl), rfl⟩
set_option maxRecDepth 100000 in
theorem mw_793 : Cond.instanceMethod yX2_linkOfRadio ∈ gw_all := List.mem_filter.mpr ⟨mt_4 (List.mem_of_getElem? (i := 22) rfl), rfl⟩
set_option maxRecDepth 100000 in
theorem mw_794 : Cond.selects RX2 yX2_linkOfRadio yX2_linkOfRadio ∈ gw_all := List.mem_filter.mpr ⟨mt_4 (List.mem_of_getElem? (i := 23) rfl), rfl⟩
set_option maxRecDepth 100000 in
theorem mw_795 : Cond.code yX2_linkOfRadio cX2_linkOfRadio 3 (some (.object "HopNet$Link")) ∈ gw_all := List.mem_filter.mpr ⟨mt_4 (List.mem_of_getElem? (i := 24) rfl), rfl⟩
set_option maxRecDepth 100000 in
theorem mw_796 : Cond.methodLink RX5 283 yX4_isFull ∈ gw_all := List.mem_filter.mpr ⟨mt_4 (List.mem_of_getElem? (i := 25) rfl), rfl⟩
set_option maxRecDepth 100000 in
theorem mw_797 : Cond.methodLink RX5 286 yX4_append ∈ gw_all := List.mem_filter.mpr ⟨mt_4 (List.mem_of_getElem? (i := 26) rfl), rfl⟩
set_option maxRecDepth 100000 in
theorem mw_798 : Cond.methodLink RX5 273 yX1_hearMapOf ∈ gw_all := List.mem_filter.mpr ⟨mt_4 (List.mem_of_getElem? (i := 27) rfl), rfl⟩
set_option maxRecDepth 100000 in
theorem mw_799 : Cond.instanceMethod yX1_hearMapOf ∈ gw_all := List.mem_filter.mpr ⟨mt_4 (List.mem_of_getElem? (i := 28) rfl), rfl⟩
set_option maxRecDepth 100000 in
theorem mw_800 : Cond.selects RX1 yX1_hearMapOf yX1_hearMapOf ∈ gw_all := List.mem_filter.mpr ⟨mt_4 (List.mem_of_getElem? (i := 29) rfl), rfl⟩
set_option maxRecDepth 100000 in
theorem mw_801 : Cond.code yX1_hearMapOf cX1_hearMapOf 2 none ∈ gw_all := List.mem_filter.mpr ⟨mt_4 (List.mem_of_getElem? (i := 30) rfl), rfl⟩
set_option maxRecDepth 100000 in
theorem mw_802 : Cond.methodLink RX1 94 yX3_hasNext ∈ gw_all := List.mem_filter.mpr ⟨mt_4 (List.mem_of_getElem? (i := 31) rfl), rfl⟩
set_option maxRecDepth 100000 in
theorem mw_803 : Cond.methodLink RX1 104 yX3_expect ∈ gw_all := List.mem_filter.mpr ⟨mt_4 (List.mem_of_getElem? (i := 32) rfl), rfl⟩
set_option maxRecDepth 100000 in
theorem mw_804 : Cond.methodLink RX1 111 yX3_takeAtOnce ∈ gw_all := List.mem_filter.mpr ⟨mt_4 (List.mem_of_getElem? (i := 33) rfl), rfl⟩
set_option maxRecDepth 100000 in
theorem mw_805 : Cond.methodLink RX5 171 yX5_tuneAnswer ∈ gw_all := List.mem_filter.mpr ⟨mt_4 (List.mem_of_getElem? (i := 34) rfl), rfl⟩
set_option maxRecDepth 100000 in
theorem mw_806 : Cond.instanceMethod yX5_tuneAnswer ∈ gw_all := List.mem_filter.mpr ⟨mt_4 (List.mem_of_getElem? (i := 35) rfl), rfl⟩
set_option maxRecDepth 100000 in
theorem mw_807 : Cond.selects RX5 yX5_tuneAnswer yX5_tuneAnswer ∈ gw_all := List.mem_filter.mpr ⟨mt_4 (List.mem_of_getElem? (i := 36) rfl), rfl⟩
set_option maxRecDepth 100000 in
theorem mw_808 : Cond.code yX5_tuneAnswer cX5_tuneAnswer 4 none ∈ gw_all := List.mem_filter.mpr ⟨mt_4 (List.mem_of_getElem? (i := 37) rfl), rfl⟩
set_option maxRecDepth 100000 in
theorem mw_809 : Cond.methodLink RX5 174 yX5_sendAnswer ∈ gw_all := List.mem_filter.mpr ⟨mt_4 (List.mem_of_getElem? (i := 38) rfl), rfl⟩
set_option maxRecDepth 100000 in
theorem mw_810 : Cond.instanceMethod yX5_sendAnswer ∈ gw_all := List.mem_filter.mpr ⟨mt_4 (List.mem_of_getElem? (i := 39) rfl), rfl⟩
set_option maxRecDepth 100000 in
theorem mw_811 : Cond.selects RX5 yX5_sendAnswer yX5_sendAnswer ∈ gw_all := List.mem_filter.mpr ⟨mt_4 (List.mem_of_getElem? (i := 40) rfl), rfl⟩
set_option maxRecDepth 100000 in
theorem mw_812 : Cond.code yX5_sendAnswer cX5_sendAnswer 5 none ∈ gw_all := List.mem_filter.mpr ⟨mt_4 (List.mem_of_getElem? (i := 41) rfl), rfl⟩
set_option maxRecDepth 100000 in
theorem mw_813 : Cond.methodLink RX5 290 yX5_hearAnswer ∈ gw_all := List.mem_filter.mpr ⟨mt_4 (List.mem_of_getElem? (i := 42) rfl), rfl⟩
set_option maxRecDepth 100000 in
theorem mw_814 : Cond.instanceMethod yX5_hearAnswer ∈ gw_all := List.mem_filter.mpr ⟨mt_4 (List.mem_of_getElem? (i := 43) rfl), rfl⟩
set_option maxRecDepth 100000 in
theorem mw_815 : Cond.selects RX5 yX5_hearAnswer yX5_hearAnswer ∈ gw_all := List.mem_filter.mpr ⟨mt_4 (List.mem_of_getElem? (i := 44) rfl), rfl⟩
set_option maxRecDepth 100000 in
theorem mw_816 : Cond.code yX5_hearAnswer cX5_hearAnswer 3 none ∈ gw_all := List.mem_filter.mpr ⟨mt_4 (List.mem_of_getElem? (i := 45) rfl), rfl⟩
set_option maxRecDepth 100000 in
theorem mw_817 : Cond.methodLink RX5 294 yX2_tallyAnswered ∈ gw_all := List.mem_filter.mpr ⟨mt_4 (List.mem_of_getElem? (i := 46) rfl), rfl⟩
set_option maxRecDepth 100000 in
theorem mw_818 : Cond.instanceMethod yX2_tallyAnswered ∈ gw_all := List.mem_filter.mpr ⟨mt_4 (List.mem_of_getElem? (i := 47) rfl), rfl⟩
set_option maxRecDepth 100000 in
theorem mw_819 : Cond.selects RX2 yX2_tallyAnswered yX2_tallyAnswered ∈ gw_all := List.mem_filter.mpr ⟨mt_4 (List.mem_of_getElem? (i := 48) rfl), rfl⟩
set_option maxRecDepth 100000 in
theorem mw_820 : Cond.code yX2_tallyAnswered cX2_tallyAnswered 1 none ∈ gw_all := List.mem_filter.mpr ⟨mt_4 (List.mem_of_getElem? (i := 49) rfl), rfl⟩
set_option maxRecDepth 100000 in
theorem mw_821 : Cond.methodLink RX5 303 yX0_answer ∈ gw_all := List.mem_filter.mpr ⟨mt_4 (List.mem_of_getElem? (i := 50) rfl), rfl⟩
set_option maxRecDepth 100000 in
theorem mw_822 : Cond.instanceMethod yX0_answer ∈ gw_all := List.mem_filter.mpr ⟨mt_4 (List.mem_of_getElem? (i := 51) rfl), rfl⟩
set_option maxRecDepth 100000 in
theorem mw_823 : Cond.selects RX0 yX0_answer yX0_answer ∈ gw_all := List.mem_filter.mpr ⟨mt_4 (List.mem_of_getElem? (i := 52) rfl), rfl⟩
set_option maxRecDepth 100000 in
theorem mw_824 : Cond.code yX0_answer cX0_answer 1 none ∈ gw_all := List.mem_filter.mpr ⟨mt_4 (List.mem_of_getElem? (i := 53) rfl), rfl⟩
set_option maxRecDepth 100000 in
theorem mw_825 : Cond.methodLink RX5 177 yX5_endTurnOfLinks ∈ gw_all := List.mem_filter.mpr ⟨mt_4 (List.mem_of_getElem? (i := 54) rfl), rfl⟩
set_option maxRecDepth 100000 in
theorem mw_826 : Cond.instanceMethod yX5_endTurnOfLinks ∈ gw_all := List.mem_filter.mpr ⟨mt_4 (List.mem_of_getElem? (i := 55) rfl), rfl⟩
set_option maxRecDepth 100000 in
theorem mw_827 : Cond.selects RX5 yX5_endTurnOfLinks yX5_endTurnOfLinks ∈ gw_all := List.mem_filter.mpr ⟨mt_4 (List.mem_of_getElem? (i := 56) rfl), rfl⟩
set_option maxRecDepth 100000 in
theorem mw_828 : Cond.code yX5_endTurnOfLinks cX5_endTurnOfLinks 3 none ∈ gw_all := List.mem_filter.mpr ⟨mt_4 (List.mem_of_getElem? (i := 57) rfl), rfl⟩
set_option maxRecDepth 100000 in
theorem mw_829 : Cond.methodLink RX5 200 yX0_endTurn ∈ gw_all := List.mem_filter.mpr ⟨mt_4 (List.mem_of_getElem? (i := 58) rfl), rfl⟩
set_option maxRecDepth 100000 in
theorem mw_830 : Cond.instanceMethod yX0_endTurn ∈ gw_all := List.mem_filter.mpr ⟨mt_4 (List.mem_of_getElem? (i := 59) rfl), rfl⟩
set_option maxRecDepth 100000 in
theorem mw_831 : Cond.selects RX0 yX0_endTurn yX0_endTurn ∈ gw_all := List.mem_filter.mpr ⟨mt_4 (List.mem_of_getElem? (i := 60) rfl), rfl⟩
set_option maxRecDepth 100000 in
theorem mw_832 : Cond.code yX0_endTurn cX0_endTurn 1 none ∈ gw_all := List.mem_filter.mpr ⟨mt_4 (List.mem_of_getElem? (i := 61) rfl), rfl⟩
set_option maxRecDepth 100000 in
theorem mw_833 : Cond.methodLink RL 74 yX6_undo ∈ gw_all := List.mem_filter.mpr ⟨mt_4 (List.mem_of_getElem? (i := 62) rfl), rfl⟩
set_option maxRecDepth 100000 in
theorem mw_834 : Cond.instanceMethod yX6_undo ∈ gw_all := List.mem_filter.mpr ⟨mt_4 (List.mem_of_getElem? (i := 63) rfl), rfl⟩
set_option maxRecDepth 100000 in
theorem mw_835 : Cond.selects RX6 yX6_undo yX6_undo ∈ gw_all := List.mem_filter.mpr ⟨mt_4 (List.mem_of_getElem? (i := 64) rfl), rfl⟩
set_option maxRecDepth 100000 in
theorem mw_836 : Cond.code yX6_undo cX6_undo 1 (some .int) ∈ gw_all := List.mem_filter.mpr ⟨mt_4 (List.mem_of_getElem? (i := 65) rfl), rfl⟩
set_option maxRecDepth 100000 in
theorem mw_837 : Cond.methodLink RL 79 yX6_image ∈ gw_all := List.mem_filter.mpr ⟨mt_4 (List.mem_of_getElem? (i := 66) rfl), rfl⟩
set_option maxRecDepth 100000 in
theorem mw_838 : Cond.instanceMethod yX6_image ∈ gw_all := List.mem_filter.mpr ⟨mt_4 (List.mem_of_getElem? (i := 67) rfl), rfl⟩
set_option maxRecDepth 100000 in
theorem mw_839 : Cond.selects RX6 yX6_image yX6_image ∈ gw_all := List.mem_filter.mpr ⟨mt_4 (List.mem_of_getElem? (i := 68) rfl), rfl⟩
set_option maxRecDepth 100000 in
theorem mw_840 : Cond.code yX6_image cX6_image 2 (some .int) ∈ gw_all := List.mem_filter.mpr ⟨mt_4 (List.mem_of_getElem? (i := 69) rfl), rfl⟩
set_option maxRecDepth 100000 in
theorem mw_841 : Cond.methodLink RL 83 yX6_back ∈ gw_all := List.mem_filter.mpr ⟨mt_4 (List.mem_of_getElem? (i := 70) rfl), rfl⟩
set_option maxRecDepth 100000 in
theorem mw_842 : Cond.instanceMethod yX6_back ∈ gw_all := List.mem_filter.mpr ⟨mt_4 (List.mem_of_getElem? (i := 71) rfl), rfl⟩
set_option maxRecDepth 100000 in
theorem mw_843 : Cond.selects RX6 yX6_back yX6_back ∈ gw_all := List.mem_filter.mpr ⟨mt_4 (List.mem_of_getElem? (i := 72) rfl), rfl⟩
set_option maxRecDepth 100000 in
theorem mw_844 : Cond.code yX6_back cX6_back 2 (some .int) ∈ gw_all := List.mem_filter.mpr ⟨mt_4 (List.mem_of_getElem? (i := 73) rfl), rfl⟩
set_option maxRecDepth 100000 in
theorem mw_845 : Cond.methodLink RL 87 yX6_kernel ∈ gw_all := List.mem_filter.mpr ⟨mt_4 (List.mem_of_getElem? (i := 74) rfl), rfl⟩
set_option maxRecDepth 100000 in
theorem mw_846 : Cond.instanceMethod yX6_kernel ∈ gw_all := List.mem_filter.mpr ⟨mt_4 (List.mem_of_getElem? (i := 75) rfl), rfl⟩
set_option maxRecDepth 100000 in
theorem mw_847 : Cond.selects RX6 yX6_kernel yX6_kernel ∈ gw_all := List.mem_filter.mpr ⟨mt_4 (List.mem_of_getElem? (i := 76) rfl), rfl⟩
set_option maxRecDepth 100000 in
theorem mw_848 : Cond.code yX6_kernel cX6_kernel 3 (some .int) ∈ gw_all := List.mem_filter.mpr ⟨mt_4 (List.mem_of_getElem? (i := 77) rfl), rfl⟩
set_option maxRecDepth 100000 in
theorem mw_849 : Cond.constant RX6 223 999999 ∈ gw_all := List.mem_filter.mpr ⟨mt_4 (List.mem_of_getElem? (i := 78) rfl), rfl⟩
set_option maxRecDepth 100000 in
theorem mw_850 : Cond.methodLink RX6 224 yX6_hopOf ∈ gw_all := List.mem_filter.mpr ⟨mt_4 (List.mem_of_getElem? (i := 79) rfl), rfl⟩
set_option maxRecDepth 100000 in
theorem mw_851 : Cond.methodLink RL 91 yX6_hop ∈ gw_all := List.mem_filter.mpr ⟨mt_4 (List.mem_of_getElem? (i := 80) rfl), rfl⟩
set_option maxRecDepth 100000 in
theorem mw_852 : Cond.instanceMethod yX6_hop ∈ gw_all := List.mem_filter.mpr ⟨mt_4 (List.mem_of_getElem? (i := 81) rfl), rfl⟩
set_option maxRecDepth 100000 in
theorem mw_853 : Cond.selects RX6 yX6_hop yX6_hop ∈ gw_all := List.mem_filter.mpr ⟨mt_4 (List.mem_of_getElem? (i := 82) rfl), rfl⟩
set_option maxRecDepth 100000 in
theorem mw_854 : Cond.code yX6_hop cX6_hop 5 (some .int) ∈ gw_all := List.mem_filter.mpr ⟨mt_4 (List.mem_of_getElem? (i := 83) rfl), rfl⟩
set_option maxRecDepth 100000 in
theorem mw_855 : Cond.methodLink RX6 228 yX6_planOf ∈ gw_all := List.mem_filter.mpr ⟨mt_4 (List.mem_of_getElem? (i := 84) rfl), rfl⟩
set_option maxRecDepth 100000 in
theorem mw_857 : Cond.instanceMethod yX6_planOf ∈ gw_all := List.mem_filter.mpr ⟨mt_4 (List.mem_of_getElem? (i := 86) rfl), rfl⟩
set_option maxRecDepth 100000 in
theorem mw_858 : Cond.code yX6_planOf cX6_planOf 5 (some (.object "HopNet$Plan")) ∈ gw_all := List.mem_filter.mpr ⟨mt_4 (List.mem_of_getElem? (i := 87) rfl), rfl⟩
set_option maxRecDepth 100000 in
theorem mw_859 : Cond.constant RX6 232 199999 ∈ gw_all := List.mem_filter.mpr ⟨mt_4 (List.mem_of_getElem? (i := 88) rfl), rfl⟩
set_option maxRecDepth 100000 in
theorem mw_860 : Cond.methodLink RX6 233 yX5_channelBy ∈ gw_all := List.mem_filter.mpr ⟨mt_4 (List.mem_of_getElem? (i := 89) rfl), rfl⟩
set_option maxRecDepth 100000 in
theorem mw_861 : Cond.instanceMethod yX5_channelBy ∈ gw_all := List.mem_filter.mpr ⟨mt_4 (List.mem_of_getElem? (i := 90) rfl), rfl⟩
set_option maxRecDepth 100000 in
theorem mw_862 : Cond.selects RX5 yX5_channelBy yX5_channelBy ∈ gw_all := List.mem_filter.mpr ⟨mt_4 (List.mem_of_getElem? (i := 91) rfl), rfl⟩
set_option maxRecDepth 100000 in
theorem mw_863 : Cond.code yX5_channelBy cX5_channelBy 4 (some .int) ∈ gw_all := List.mem_filter.mpr ⟨mt_4 (List.mem_of_getElem? (i := 92) rfl), rfl⟩
set_option maxRecDepth 100000 in
theorem mw_864 : Cond.methodLink RL 95 yX6_alike ∈ gw_all := List.mem_filter.mpr ⟨mt_4 (List.mem_of_getElem? (i := 93) rfl), rfl⟩
set_option maxRecDepth 100000 in
theorem mw_865 : Cond.instanceMethod yX6_alike ∈ gw_all := List.mem_filter.mpr ⟨mt_4 (List.mem_of_getElem? (i := 94) rfl), rfl⟩
set_option maxRecDepth 100000 in
theorem mw_866 : Cond.selects RX6 yX6_alike yX6_alike ∈ gw_all := List.mem_filter.mpr ⟨mt_4 (List.mem_of_getElem? (i := 95) rfl), rfl⟩
set_option maxRecDepth 100000 in
theorem mw_867 : Cond.code yX6_alike cX6_alike 6 (some .int) ∈ gw_all := List.mem_filter.mpr ⟨mt_4 (List.mem_of_getElem? (i := 96) rfl), rfl⟩
set_option maxRecDepth 100000 in
theorem mw_868 : Cond.methodLink RX6 238 yX3_isLike ∈ gw_all := List.mem_filter.mpr ⟨mt_4 (List.mem_of_getElem? (i := 97) rfl), rfl⟩
set_option maxRecDepth 100000 in
theorem mw_869 : Cond.instanceMethod yX3_isLike ∈ gw_all := List.mem_filter.mpr ⟨mt_4 (List.mem_of_getElem? (i := 98) rfl), rfl⟩
set_option maxRecDepth 100000 in
theorem mw_870 : Cond.selects RX3 yX3_isLike yX3_isLike ∈ gw_all := List.mem_filter.mpr ⟨mt_4 (List.mem_of_getElem? (i := 99) rfl), rfl⟩
set_option maxRecDepth 100000 in
theorem mw_871 : Cond.code yX3_isLike cX3_isLike 2 (some .boolean) ∈ gw_all := List.mem_filter.mpr ⟨mt_4 (List.mem_of_getElem? (i := 100) rfl), rfl⟩
set_option maxRecDepth 100000 in
theorem mw_872 : Cond.methodLink RX6 242 yX6_bit ∈ gw_all := List.mem_filter.mpr ⟨mt_4 (List.mem_of_getElem? (i := 101) rfl), rfl⟩
set_option maxRecDepth 100000 in
theorem mw_873 : Cond.static yX6_bit ∈ gw_all := List.mem_filter.mpr ⟨mt_4 (List.mem_of_getElem? (i := 102) rfl), rfl⟩
set_option maxRecDepth 100000 in
theorem mw_874 : Cond.code yX6_bit cX6_bit 1 (some .int) ∈ gw_all := List.mem_filter.mpr ⟨mt_4 (List.mem_of_getElem? (i := 103) rfl), rfl⟩
set_option maxRecDepth 100000 in
theorem mw_875 : Cond.methodLink RL 99 yX6_mapOf ∈ gw_all := List.mem_filter.mpr ⟨mt_4 (List.mem_of_getElem? (i := 104) rfl), rfl⟩
set_option maxRecDepth 100000 in
theorem mw_876 : Cond.instanceMethod yX6_mapOf ∈ gw_all := List.mem_filter.mpr ⟨mt_4 (List.mem_of_getElem? (i := 105) rfl), rfl⟩
set_option maxRecDepth 100000 in
theorem mw_877 : Cond.selects RX6 yX6_mapOf yX6_mapOf ∈ gw_all := List.mem_filter.mpr ⟨mt_4 (List.mem_of_getElem? (i := 106) rfl), rfl⟩
set_option maxRecDepth 100000 in
theorem mw_878 : Cond.code yX6_mapOf cX6_mapOf 5 (some .int) ∈ gw_all := List.mem_filter.mpr ⟨mt_4 (List.mem_of_getElem? (i := 107) rfl), rfl⟩
set_option maxRecDepth 100000 in
theorem mw_879 : Cond.methodLink RL 103 yX6_meets ∈ gw_all := List.mem_filter.mpr ⟨mt_4 (List.mem_of_getElem? (i := 108) rfl), rfl⟩
set_option maxRecDepth 100000 in
theorem mw_880 : Cond.instanceMethod yX6_meets ∈ gw_all := List.mem_filter.mpr ⟨mt_4 (List.mem_of_getElem? (i := 109) rfl), rfl⟩
set_option maxRecDepth 100000 in
theorem mw_881 : Cond.selects RX6 yX6_meets yX6_meets ∈ gw_all := List.mem_filter.mpr ⟨mt_4 (List.mem_of_getElem? (i := 110) rfl), rfl⟩
set_option maxRecDepth 100000 in
theorem mw_882 : Cond.code yX6_meets cX6_meets 2 (some .int) ∈ gw_all := List.mem_filter.mpr ⟨mt_4 (List.mem_of_getElem? (i := 111) rfl), rfl⟩
set_option maxRecDepth 100000 in
theorem mw_883 : Cond.methodLink RX6 259 yX5_hasBothNets ∈ gw_all := List.mem_filter.mpr ⟨mt_4 (List.mem_of_getElem? (i := 112) rfl), rfl⟩
set_option maxRecDepth 100000 in
theorem mw_884 : Cond.instanceMethod yX5_hasBothNets ∈ gw_all := List.mem_filter.mpr ⟨mt_4 (List.mem_of_getElem? (i := 113) rfl), rfl⟩
set_option maxRecDepth 100000 in
theorem mw_885 : Cond.selects RX5 yX5_hasBothNets yX5_hasBothNets ∈ gw_all := List.mem_filter.mpr ⟨mt_4 (List.mem_of_getElem? (i := 114) rfl), rfl⟩
set_option maxRecDepth 100000 in
theorem mw_886 : Cond.code yX5_hasBothNets cX5_hasBothNets 1 (some .boolean) ∈ gw_all := List.mem_filter.mpr ⟨mt_4 (List.mem_of_getElem? (i := 115) rfl), rfl⟩
set_option maxRecDepth 100000 in
theorem mw_887 : Cond.methodLink RX6 262 yX5_mastersMeet ∈ gw_all := List.mem_filter.mpr ⟨mt_4 (List.mem_of_getElem? (i := 116) rfl), rfl⟩
set_option maxRecDepth 100000 in
theorem mw_888 : Cond.instanceMethod yX5_mastersMeet ∈ gw_all := List.mem_filter.mpr ⟨mt_4 (List.mem_of_getElem? (i := 117) rfl), rfl⟩
set_option maxRecDepth 100000 in
theorem mw_889 : Cond.selects RX5 yX5_mastersMeet yX5_mastersMeet ∈ gw_all := List.mem_filter.mpr ⟨mt_4 (List.mem_of_getElem? (i := 118) rfl), rfl⟩
set_option maxRecDepth 100000 in
theorem mw_890 : Cond.code yX5_mastersMeet cX5_mastersMeet 2 (some .boolean) ∈ gw_all := List.mem_filter.mpr ⟨mt_4 (List.mem_of_getElem? (i := 119) rfl), rfl⟩
set_option maxRecDepth 100000 in
theorem mw_891 : Cond.methodLink RX5 113 yX5_channelBy ∈ gw_all := List.mem_filter.mpr ⟨mt_4 (List.mem_of_getElem? (i := 120) rfl), rfl⟩
set_option maxRecDepth 100000 in
theorem mw_892 : Cond.methodLink RL 107 yX6_used ∈ gw_all := List.mem_filter.mpr ⟨mt_4 (List.mem_of_getElem? (i := 121) rfl), rfl⟩
set_option maxRecDepth 100000 in
theorem mw_893 : Cond.instanceMethod yX6_used ∈ gw_all := List.mem_filter.mpr ⟨mt_4 (List.mem_of_getElem? (i := 122) rfl), rfl⟩
set_option maxRecDepth 100000 in
theorem mw_894 : Cond.selects RX6 yX6_used yX6_used ∈ gw_all := List.mem_filter.mpr ⟨mt_4 (List.mem_of_getElem? (i := 123) rfl), rfl⟩
set_option maxRecDepth 100000 in
theorem mw_895 : Cond.code yX6_used cX6_used 7 (some .int) ∈ gw_all := List.mem_filter.mpr ⟨mt_4 (List.mem_of_getElem? (i := 124) rfl), rfl⟩
set_option maxRecDepth 100000 in
theorem mw_896 : Cond.methodLink RL 111 yX6_bad ∈ gw_all := List.mem_filter.mpr ⟨mt_4 (List.mem_of_getElem? (i := 125) rfl), rfl⟩
set_option maxRecDepth 100000 in
theorem mw_897 : Cond.instanceMethod yX6_bad ∈ gw_all := List.mem_filter.mpr ⟨mt_4 (List.mem_of_getElem? (i := 126) rfl), rfl⟩
set_option maxRecDepth 100000 in
theorem mw_898 : Cond.selects RX6 yX6_bad yX6_bad ∈ gw_all := List.mem_filter.mpr ⟨mt_4 (List.mem_of_getElem? (i := 127) rfl), rfl⟩
set_option maxRecDepth 100000 in
theorem mw_899 : Cond.code yX6_bad cX6_bad 4 (some .int) ∈ gw_all := List.mem_filter.mpr ⟨mt_4 (List.mem_of_getElem? (i := 128) rfl), rfl⟩
set_option maxRecDepth 100000 in
theorem mw_900 : Cond.methodLink RL 115 yX6_sent ∈ gw_all := List.mem_filter.mpr ⟨mt_4 (List.mem_of_getElem? (i := 129) rfl), rfl⟩
set_option maxRecDepth 100000 in
theorem mw_901 : Cond.instanceMethod yX6_sent ∈ gw_all := List.mem_filter.mpr ⟨mt_4 (List.mem_of_getElem? (i := 130) rfl), rfl⟩
set_option maxRecDepth 100000 in
theorem mw_902 : Cond.selects RX6 yX6_sent yX6_sent ∈ gw_all := List.mem_filter.mpr ⟨mt_4 (List.mem_of_getElem? (i := 131) rfl), rfl⟩
set_option maxRecDepth 100000 in
theorem mw_903 : Cond.code yX6_sent cX6_sent 5 (some .int) ∈ gw_all := List.mem_filter.mpr ⟨mt_4 (List.mem_of_getElem? (i := 132) rfl), rfl⟩
set_option maxRecDepth 100000 in
theorem mw_904 : Cond.methodLink RL 119 yX6_link ∈ gw_all := List.mem_filter.mpr ⟨mt_4 (List.mem_of_getElem? (i := 133) rfl), rfl⟩
set_option maxRecDepth 100000 in
theorem mw_905 : Cond.instanceMethod yX6_link ∈ gw_all := List.mem_filter.mpr ⟨mt_4 (List.mem_of_getElem? (i := 134) rfl), rfl⟩
set_option maxRecDepth 100000 in
theorem mw_906 : Cond.selects RX6 yX6_link yX6_link ∈ gw_all := List.mem_filter.mpr ⟨mt_4 (List.mem_of_getElem? (i := 135) rfl), rfl⟩
set_option maxRecDepth 100000 in
theorem mw_907 : Cond.code yX6_link cX6_link 5 (some .int) ∈ gw_all := List.mem_filter.mpr ⟨mt_4 (List.mem_of_getElem? (i := 136) rfl), rfl⟩
set_option maxRecDepth 100000 in
theorem mw_908 : Cond.methodLink RL 123 yX6_hash ∈ gw_all := List.mem_filter.mpr ⟨mt_4 (List.mem_of_getElem? (i := 137) rfl), rfl⟩
set_option maxRecDepth 100000 in
theorem mw_909 : Cond.instanceMethod yX6_hash ∈ gw_all := List.mem_filter.mpr ⟨mt_4 (List.mem_of_getElem? (i := 138) rfl), rfl⟩
set_option maxRecDepth 100000 in
theorem mw_910 : Cond.selects RX6 yX6_hash yX6_hash ∈ gw_all := List.mem_filter.mpr ⟨mt_4 (List.mem_of_getElem? (i := 139) rfl), rfl⟩
set_option maxRecDepth 100000 in
theorem mw_911 : Cond.code yX6_hash cX6_hash 5 (some .int) ∈ gw_all := List.mem_filter.mpr ⟨mt_4 (List.mem_of_getElem? (i := 140) rfl), rfl⟩
set_option maxRecDepth 100000 in
theorem mw_912 : Cond.methodLink RL 127 yX6_reserved ∈ gw_all := List.mem_filter.mpr ⟨mt_4 (List.mem_of_getElem? (i := 141) rfl), rfl⟩
set_option maxRecDepth 100000 in
theorem mw_913 : Cond.instanceMethod yX6_reserved ∈ gw_all := List.mem_filter.mpr ⟨mt_4 (List.mem_of_getElem? (i := 142) rfl), rfl⟩
set_option maxRecDepth 100000 in
theorem mw_914 : Cond.selects RX6 yX6_reserved yX6_reserved ∈ gw_all := List.mem_filter.mpr ⟨mt_4 (List.mem_of_getElem? (i := 143) rfl), rfl⟩
set_option maxRecDepth 100000 in
theorem mw_915 : Cond.code yX6_reserved cX6_reserved 5 (some .int) ∈ gw_all := List.mem_filter.mpr ⟨mt_4 (List.mem_of_getElem? (i := 144) rfl), rfl⟩
set_option maxRecDepth 100000 in
theorem mw_916 : Cond.methodLink RL 131 yX6_isThere ∈ gw_all := List.mem_filter.mpr ⟨mt_4 (List.mem_of_getElem? (i := 145) rfl), rfl⟩
set_option maxRecDepth 100000 in
theorem mw_917 : Cond.instanceMethod yX6_isThere ∈ gw_all := List.mem_filter.mpr ⟨mt_4 (List.mem_of_getElem? (i := 146) rfl), rfl⟩
set_option maxRecDepth 100000 in
theorem mw_918 : Cond.selects RX6 yX6_isThere yX6_isThere ∈ gw_all := List.mem_filter.mpr ⟨mt_4 (List.mem_of_getElem? (i := 147) rfl), rfl⟩
set_option maxRecDepth 100000 in
theorem mw_919 : Cond.code yX6_isThere cX6_isThere 5 (some .int) ∈ gw_all := List.mem_filter.mpr ⟨mt_4 (List.mem_of_getElem? (i := 148) rfl), rfl⟩
set_option maxRecDepth 100000 in
theorem mw_920 : Cond.methodLink RX6 322 yX5_isPresent ∈ gw_all := List.mem_filter.mpr ⟨mt_4 (List.mem_of_getElem? (i := 149) rfl), rfl⟩
set_option maxRecDepth 100000 in
theorem mw_921 : Cond.methodLink RL 135 yX6_odds ∈ gw_all := List.mem_filter.mpr ⟨mt_4 (List.mem_of_getElem? (i := 150) rfl), rfl⟩
set_option maxRecDepth 100000 in
theorem mw_922 : Cond.instanceMethod yX6_odds ∈ gw_all := List.mem_filter.mpr ⟨mt_4 (List.mem_of_getElem? (i := 151) rfl), rfl⟩
set_option maxRecDepth 100000 in
theorem mw_923 : Cond.selects RX6 yX6_odds yX6_odds ∈ gw_all := List.mem_filter.mpr ⟨mt_4 (List.mem_of_getElem? (i := 152) rfl), rfl⟩
set_option maxRecDepth 100000 in
theorem mw_924 : Cond.code yX6_odds cX6_odds 9 (some .int) ∈ gw_all := List.mem_filter.mpr ⟨mt_4 (List.mem_of_getElem? (i := 153) rfl), rfl⟩
set_option maxRecDepth 100000 in
theorem mw_925 : Cond.methodLink RX6 325 yX5_clearOf ∈ gw_all := List.mem_filter.mpr ⟨mt_4 (List.mem_of_getElem? (i := 154) rfl), rfl⟩
set_option maxRecDepth 100000 in
theorem mw_926 : Cond.instanceMethod yX5_clearOf ∈ gw_all := List.mem_filter.mpr ⟨mt_4 (List.mem_of_getElem? (i := 155) rfl), rfl⟩
set_option maxRecDepth 100000 in
theorem mw_927 : Cond.selects RX5 yX5_clearOf yX5_clearOf ∈ gw_all := List.mem_filter.mpr ⟨mt_4 (List.mem_of_getElem? (i := 156) rfl), rfl⟩
set_option maxRecDepth 100000 in
theorem mw_928 : Cond.code yX5_clearOf cX5_clearOf 7 (some .int) ∈ gw_all := List.mem_filter.mpr ⟨mt_4 (List.mem_of_getElem? (i := 157) rfl), rfl⟩
set_option maxRecDepth 100000 in
theorem mw_929 : Cond.methodLink RX6 329 yX6_greatestDivisor ∈ gw_all := List.mem_filter.mpr ⟨mt_4 (List.mem_of_getElem? (i := 158) rfl), rfl⟩
set_option maxRecDepth 100000 in
theorem mw_930 : Cond.static yX6_greatestDivisor ∈ gw_all := List.mem_filter.mpr ⟨mt_4 (List.mem_of_getElem? (i := 159) rfl), rfl⟩
set_option maxRecDepth 100000 in
theorem mw_931 : Cond.code yX6_greatestDivisor cX6_greatestDivisor 6 (some .int) ∈ gw_all := List.mem_filter.mpr ⟨mt_4 (List.mem_of_getElem? (i := 160) rfl), rfl⟩
set_option maxRecDepth 100000 in
theorem mw_932 : Cond.methodLink RL 139 yX6_clashes ∈ gw_all := List.mem_filter.mpr ⟨mt_4 (List.mem_of_getElem? (i := 161) rfl), rfl⟩
set_option maxRecDepth 100000 in
theorem mw_933 : Cond.instanceMethod yX6_clashes ∈ gw_all := List.mem_filter.mpr ⟨mt_4 (List.mem_of_getElem? (i := 162) rfl), rfl⟩
set_option maxRecDepth 100000 in
theorem mw_934 : Cond.selects RX6 yX6_clashes yX6_clashes ∈ gw_all := List.mem_filter.mpr ⟨mt_4 (List.mem_of_getElem? (i := 163) rfl), rfl⟩
set_option maxRecDepth 100000 in
theorem mw_935 : Cond.code yX6_clashes cX6_clashes 4 (some .int) ∈ gw_all := List.mem_filter.mpr ⟨mt_4 (List.mem_of_getElem? (i := 164) rfl), rfl⟩
set_option maxRecDepth 100000 in
theorem mw_936 : Cond.methodLink RL 143 yX6_bestOffset ∈ gw_all := List.mem_filter.mpr ⟨mt_4 (List.mem_of_getElem? (i := 165) rfl), rfl⟩
set_option maxRecDepth 100000 in
theorem mw_937 : Cond.instanceMethod yX6_bestOffset ∈ gw_all := List.mem_filter.mpr ⟨mt_4 (List.mem_of_getElem? (i := 166) rfl), rfl⟩
set_option maxRecDepth 100000 in
theorem mw_938 : Cond.selects RX6 yX6_bestOffset yX6_bestOffset ∈ gw_all := List.mem_filter.mpr ⟨mt_4 (List.mem_of_getElem? (i := 167) rfl), rfl⟩
set_option maxRecDepth 100000 in
theorem mw_939 : Cond.code yX6_bestOffset cX6_bestOffset 6 (some .int) ∈ gw_all := List.mem_filter.mpr ⟨mt_4 (List.mem_of_getElem? (i := 168) rfl), rfl⟩
set_option maxRecDepth 100000 in
theorem mw_940 : Cond.methodLink RX6 332 yX6_noteHops ∈ gw_all := List.mem_filter.mpr ⟨mt_4 (List.mem_of_getElem? (i := 169) rfl), rfl⟩
set_option maxRecDepth 100000 in
theorem mw_942 : Cond.instanceMethod yX6_noteHops ∈ gw_all := List.mem_filter.mpr ⟨mt_4 (List.mem_of_getElem? (i := 171) rfl), rfl⟩
set_option maxRecDepth 100000 in
theorem mw_943 : Cond.code yX6_noteHops cX6_noteHops 4 none ∈ gw_all := List.mem_filter.mpr ⟨mt_4 (List.mem_of_getElem? (i := 172) rfl), rfl⟩
set_option maxRecDepth 100000 in
theorem mw_944 : Cond.methodLink RX6 395 yX5_addressOf ∈ gw_all := List.mem_filter.mpr ⟨mt_4 (List.mem_of_getElem? (i := 173) rfl), rfl⟩
set_option maxRecDepth 100000 in
theorem mw_945 : Cond.methodLink RX6 398 yX6_byMap ∈ gw_all := List.mem_filter.mpr ⟨mt_4 (List.mem_of_getElem? (i := 174) rfl), rfl⟩
set_option maxRecDepth 100000 in
theorem mw_946 : Cond.methodLink RX6 335 yX6_clashesAt ∈ gw_all := List.mem_filter.mpr ⟨mt_4 (List.mem_of_getElem? (i := 175) rfl), rfl⟩
set_option maxRecDepth 100000 in
theorem mw_948 : Cond.instanceMethod yX6_clashesAt ∈ gw_all := List.mem_filter.mpr ⟨mt_4 (List.mem_of_getElem? (i := 177) rfl), rfl⟩
set_option maxRecDepth 100000 in
theorem mw_949 : Cond.code yX6_clashesAt cX6_clashesAt 5 (some .int) ∈ gw_all := List.mem_filter.mpr ⟨mt_4 (List.mem_of_getElem? (i := 178) rfl), rfl⟩
set_option maxRecDepth 100000 in
theorem mw_950 : Cond.methodLink RL 147 yX6_drain ∈ gw_all := List.mem_filter.mpr ⟨mt_4 (List.mem_of_getElem? (i := 179) rfl), rfl⟩
set_option maxRecDepth 100000 in
theorem mw_951 : Cond.instanceMethod yX6_drain ∈ gw_all := List.mem_filter.mpr ⟨mt_4 (List.mem_of_getElem? (i := 180) rfl), rfl⟩
set_option maxRecDepth 100000 in
theorem mw_952 : Cond.selects RX6 yX6_drain yX6_drain ∈ gw_all := List.mem_filter.mpr ⟨mt_4 (List.mem_of_getElem? (i := 181) rfl), rfl⟩
set_option maxRecDepth 100000 in
theorem mw_953 : Cond.code yX6_drain cX6_drain 5 (some .int) ∈ gw_all := List.mem_filter.mpr ⟨mt_4 (List.mem_of_getElem? (i := 182) rfl), rfl⟩
set_option maxRecDepth 100000 in
theorem mw_954 : Cond.methodLink RX6 339 yX5_goOneTurn ∈ gw_all := List.mem_filter.mpr ⟨mt_4 (List.mem_of_getElem? (i := 183) rfl), rfl⟩
set_option maxRecDepth 100000 in
theorem mw_955 : Cond.methodLink RL 151 yX6_would ∈ gw_all := List.mem_filter.mpr ⟨mt_4 (List.mem_of_getElem? (i := 184) rfl), rfl⟩
set_option maxRecDepth 100000 in
theorem mw_956 : Cond.instanceMethod yX6_would ∈ gw_all := List.mem_filter.mpr ⟨mt_4 (List.mem_of_getElem? (i := 185) rfl), rfl⟩
set_option maxRecDepth 100000 in
theorem mw_957 : Cond.selects RX6 yX6_would yX6_would ∈ gw_all := List.mem_filter.mpr ⟨mt_4 (List.mem_of_getElem? (i := 186) rfl), rfl⟩
set_option maxRecDepth 100000 in
theorem mw_958 : Cond.code yX6_would cX6_would 6 (some .int) ∈ gw_all := List.mem_filter.mpr ⟨mt_4 (List.mem_of_getElem? (i := 187) rfl), rfl⟩
set_option maxRecDepth 100000 in
theorem mw_959 : Cond.methodLink RX6 342 yX6_paperWith ∈ gw_all := List.mem_filter.mpr ⟨mt_4 (List.mem_of_getElem? (i := 188) rfl), rfl⟩
set_option maxRecDepth 100000 in
theorem mw_961 : Cond.instanceMethod yX6_paperWith ∈ gw_all := List.mem_filter.mpr ⟨mt_4 (List.mem_of_getElem? (i := 190) rfl), rfl⟩
set_option maxRecDepth 100000 in
theorem mw_962 : Cond.code yX6_paperWith cX6_paperWith 2 (some (.object "HopNet$World")) ∈ gw_all := List.mem_filter.mpr ⟨mt_4 (List.mem_of_getElem? (i := 191) rfl), rfl⟩
set_option maxRecDepth 100000 in
theorem mw_963 : Cond.methodLink RX6 346 yX5_framesMissed ∈ gw_all := List.mem_filter.mpr ⟨mt_4 (List.mem_of_getElem? (i := 192) rfl), rfl⟩
set_option maxRecDepth 100000 in
theorem mw_964 : Cond.instanceMethod yX5_framesMissed ∈ gw_all := List.mem_filter.mpr ⟨mt_4 (List.mem_of_getElem? (i := 193) rfl), rfl⟩
set_option maxRecDepth 100000 in
theorem mw_965 : Cond.selects RX5 yX5_framesMissed yX5_framesMissed ∈ gw_all := List.mem_filter.mpr ⟨mt_4 (List.mem_of_getElem? (i := 194) rfl), rfl⟩
set_option maxRecDepth 100000 in
theorem mw_966 : Cond.code yX5_framesMissed cX5_framesMissed 4 (some .int) ∈ gw_all := List.mem_filter.mpr ⟨mt_4 (List.mem_of_getElem? (i := 195) rfl), rfl⟩
set_option maxRecDepth 100000 in
theorem mw_967 : Cond.methodLink RX6 349 yX5_linksOfOtherMap ∈ gw_all := List.mem_filter.mpr ⟨mt_4 (List.mem_of_getElem? (i := 196) rfl), rfl⟩
set_option maxRecDepth 100000 in
theorem mw_968 : Cond.instanceMethod yX5_linksOfOtherMap ∈ gw_all := List.mem_filter.mpr ⟨mt_4 (List.mem_of_getElem? (i := 197) rfl), rfl⟩
set_option maxRecDepth 100000 in
theorem mw_969 : Cond.selects RX5 yX5_linksOfOtherMap yX5_linksOfOtherMap ∈ gw_all := List.mem_filter.mpr ⟨mt_4 (List.mem_of_getElem? (i := 198) rfl), rfl⟩
set_option maxRecDepth 100000 in
theorem mw_970 : Cond.code yX5_linksOfOtherMap cX5_linksOfOtherMap 4 (some .int) ∈ gw_all := List.mem_filter.mpr ⟨mt_4 (List.mem_of_getElem? (i := 199) rfl), rfl⟩
set_option maxRecDepth 100000 in
theorem mw_971 : Cond.methodLink RL 155 yX6_ready ∈ gw_all := List.mem_filter.mpr ⟨mt_4 (List.mem_of_getElem? (i := 200) rfl), rfl⟩
set_option maxRecDepth 100000 in
theorem mw_972 : Cond.instanceMethod yX6_ready ∈ gw_all := List.mem_filter.mpr ⟨mt_4 (List.mem_of_getElem? (i := 201) rfl), rfl⟩
set_option maxRecDepth 100000 in
theorem mw_973 : Cond.selects RX6 yX6_ready yX6_ready ∈ gw_all := List.mem_filter.mpr ⟨mt_4 (List.mem_of_getElem? (i := 202) rfl), rfl⟩
set_option maxRecDepth 100000 in
theorem mw_974 : Cond.code yX6_ready cX6_ready 5 (some .int) ∈ gw_all := List.mem_filter.mpr ⟨mt_4 (List.mem_of_getElem? (i := 203) rfl), rfl⟩
set_option maxRecDepth 100000 in
theorem mw_975 : Cond.methodLink RX6 352 yX5_isReadyAt ∈ gw_all := List.mem_filter.mpr ⟨mt_4 (List.mem_of_getElem? (i := 204) rfl), rfl⟩
set_option maxRecDepth 100000 in
theorem mw_976 : Cond.methodLink RL 159 yX6_bothReady ∈ gw_all := List.mem_filter.mpr ⟨mt_4 (List.mem_of_getElem? (i := 205) rfl), rfl⟩
set_option maxRecDepth 100000 in
theorem mw_977 : Cond.instanceMethod yX6_bothReady ∈ gw_all := List.mem_filter.mpr ⟨mt_4 (List.mem_of_getElem? (i := 206) rfl), rfl⟩
set_option maxRecDepth 100000 in
theorem mw_978 : Cond.selects RX6 yX6_bothReady yX6_bothReady ∈ gw_all := List.mem_filter.mpr ⟨mt_4 (List.mem_of_getElem? (i := 207) rfl), rfl⟩
set_option maxRecDepth 100000 in
theorem mw_979 : Cond.code yX6_bothReady cX6_bothReady 10 (some .int) ∈ gw_all := List.mem_filter.mpr ⟨mt_4 (List.mem_of_getElem? (i := 208) rfl), rfl⟩
set_option maxRecDepth 100000 in
theorem mw_980 : Cond.methodLink RL 163 yX6_ahead ∈ gw_all := List.mem_filter.mpr ⟨mt_4 (List.mem_of_getElem? (i := 209) rfl), rfl⟩
set_option maxRecDepth 100000 in
theorem mw_981 : Cond.instanceMethod yX6_ahead ∈ gw_all := List.mem_filter.mpr ⟨mt_4 (List.mem_of_getElem? (i := 210) rfl), rfl⟩
set_option maxRecDepth 100000 in
theorem mw_982 : Cond.selects RX6 yX6_ahead yX6_ahead ∈ gw_all := List.mem_filter.mpr ⟨mt_4 (List.mem_of_getElem? (i := 211) rfl), rfl⟩
set_option maxRecDepth 100000 in
theorem mw_983 : Cond.code yX6_ahead cX6_ahead 4 (some .int) ∈ gw_all := List.mem_filter.mpr ⟨mt_4 (List.mem_of_getElem? (i := 212) rfl), rfl⟩
set_option maxRecDepth 100000 in
theorem mw_984 : Cond.methodLink RL 167 yX6_together ∈ gw_all := List.mem_filter.mpr ⟨mt_4 (List.mem_of_getElem? (i := 213) rfl), rfl⟩
set_option maxRecDepth 100000 in
theorem mw_985 : Cond.instanceMethod yX6_together ∈ gw_all := List.mem_filter.mpr ⟨mt_4 (List.mem_of_getElem? (i := 214) rfl), rfl⟩
set_option maxRecDepth 100000 in
theorem mw_986 : Cond.selects RX6 yX6_together yX6_together ∈ gw_all := List.mem_filter.mpr ⟨mt_4 (List.mem_of_getElem? (i := 215) rfl), rfl⟩
set_option maxRecDepth 100000 in
theorem mw_987 : Cond.code yX6_together cX6_together 8 (some .int) ∈ gw_all := List.mem_filter.mpr ⟨mt_4 (List.mem_of_getElem? (i := 216) rfl), rfl⟩
set_option maxRecDepth 100000 in
theorem mw_988 : Cond.methodLink RX6 362 yX0_isDue ∈ gw_all := List.mem_filter.mpr ⟨mt_4 (List.mem_of_getElem? (i := 217) rfl), rfl⟩
set_option maxRecDepth 100000 in
theorem mw_989 : Cond.methodLink RL 171 yX6_ranked ∈ gw_all := List.mem_filter.mpr ⟨mt_4 (List.mem_of_getElem? (i := 218) rfl), rfl⟩
set_option maxRecDepth 100000 in
theorem mw_990 : Cond.instanceMethod yX6_ranked ∈ gw_all := List.mem_filter.mpr ⟨mt_4 (List.mem_of_getElem? (i := 219) rfl), rfl⟩
set_option maxRecDepth 100000 in
theorem mw_991 : Cond.selects RX6 yX6_ranked yX6_ranked ∈ gw_all := List.mem_filter.mpr ⟨mt_4 (List.mem_of_getElem? (i := 220) rfl), rfl⟩
set_option maxRecDepth 100000 in
theorem mw_992 : Cond.code yX6_ranked cX6_ranked 5 (some .int) ∈ gw_all := List.mem_filter.mpr ⟨mt_4 (List.mem_of_getElem? (i := 221) rfl), rfl⟩
set_option maxRecDepth 100000 in
theorem mw_993 : Cond.methodLink RX6 365 yX2_rankOf ∈ gw_all := List.mem_filter.mpr ⟨mt_4 (List.mem_of_getElem? (i := 222) rfl), rfl⟩
set_option maxRecDepth 100000 in
theorem mw_994 : Cond.instanceMethod yX2_rankOf ∈ gw_all := List.mem_filter.mpr ⟨mt_4 (List.mem_of_getElem? (i := 223) rfl), rfl⟩
set_option maxRecDepth 100000 in
theorem mw_995 : Cond.selects RX2 yX2_rankOf yX2_rankOf ∈ gw_all := List.mem_filter.mpr ⟨mt_4 (List.mem_of_getElem? (i := 224) rfl), rfl⟩
set_option maxRecDepth 100000 in
theorem mw_996 : Cond.code yX2_rankOf cX2_rankOf 8 (some .int) ∈ gw_all := List.mem_filter.mpr ⟨mt_4 (List.mem_of_getElem? (i := 225) rfl), rfl⟩
set_option maxRecDepth 100000 in
theorem mw_997 : Cond.methodLink RL 175 yX6_quiet ∈ gw_all := List.mem_filter.mpr ⟨mt_4 (List.mem_of_getElem? (i := 226) rfl), rfl⟩
set_option maxRecDepth 100000 in
theorem mw_998 : Cond.instanceMethod yX6_quiet ∈ gw_all := List.mem_filter.mpr ⟨mt_4 (List.mem_of_getElem? (i := 227) rfl), rfl⟩
set_option maxRecDepth 100000 in
theorem mw_999 : Cond.selects RX6 yX6_quiet yX6_quiet ∈ gw_all := List.mem_filter.mpr ⟨mt_4 (List.mem_of_getElem? (i := 228) rfl), rfl⟩
set_option maxRecDepth 100000 in
theorem mw_1000 : Cond.code yX6_quiet cX6_quiet 6 (some .int) ∈ gw_all := List.mem_filter.mpr ⟨mt_4 (List.mem_of_getElem? (i := 229) rfl), rfl⟩
set_option maxRecDepth 100000 in
theorem mw_1001 : Cond.methodLink RL 179 yX6_bestShare ∈ gw_all := List.mem_filter.mpr ⟨mt_4 (List.mem_of_getElem? (i := 230) rfl), rfl⟩
set_option maxRecDepth 100000 in
theorem mw_1002 : Cond.instanceMethod yX6_bestShare ∈ gw_all := List.mem_filter.mpr ⟨mt_4 (List.mem_of_getElem? (i := 231) rfl), rfl⟩
set_option maxRecDepth 100000 in
theorem mw_1003 : Cond.selects RX6 yX6_bestShare yX6_bestShare ∈ gw_all := List.mem_filter.mpr ⟨mt_4 (List.mem_of_getElem? (i := 232) rfl), rfl⟩
set_option maxRecDepth 100000 in
theorem mw_1004 : Cond.code yX6_bestShare cX6_bestShare 6 (some .int) ∈ gw_all := List.mem_filter.mpr ⟨mt_4 (List.mem_of_getElem? (i := 233) rfl), rfl⟩
set_option maxRecDepth 100000 in
theorem mw_1005 : Cond.methodLink RL 183 yX6_ofNet ∈ gw_all := List.mem_filter.mpr ⟨mt_4 (List.mem_of_getElem? (i := 234) rfl), rfl⟩
set_option maxRecDepth 100000 in
theorem mw_1006 : Cond.instanceMethod yX6_ofNet ∈ gw_all := List.mem_filter.mpr ⟨mt_4 (List.mem_of_getElem? (i := 235) rfl), rfl⟩
set_option maxRecDepth 100000 in
theorem mw_1007 : Cond.selects RX6 yX6_ofNet yX6_ofNet ∈ gw_all := List.mem_filter.mpr ⟨mt_4 (List.mem_of_getElem? (i := 236) rfl), rfl⟩
set_option maxRecDepth 100000 in
theorem mw_1008 : Cond.code yX6_ofNet cX6_ofNet 4 (some .int) ∈ gw_all := List.mem_filter.mpr ⟨mt_4 (List.mem_of_getElem? (i := 237) rfl), rfl⟩
set_option maxRecDepth 100000 in
theorem mw_1009 : Cond.methodLink RL 187 yX6_count ∈ gw_all := List.mem_filter.mpr ⟨mt_4 (List.mem_of_getElem? (i := 238) rfl), rfl⟩
set_option maxRecDepth 100000 in
theorem mw_1010 : Cond.instanceMethod yX6_count ∈ gw_all := List.mem_filter.mpr ⟨mt_4 (List.mem_of_getElem? (i := 239) rfl), rfl⟩
set_option maxRecDepth 100000 in
theorem mw_1011 : Cond.selects RX6 yX6_count yX6_count ∈ gw_all := List.mem_filter.mpr ⟨mt_5 (List.mem_of_getElem? (i := 0) rfl), rfl⟩
set_option maxRecDepth 100000 in
theorem mw_1012 : Cond.code yX6_count cX6_count 2 (some .int) ∈ gw_all := List.mem_filter.mpr ⟨mt_5 (List.mem_of_getElem? (i := 1) rfl), rfl⟩
set_option maxRecDepth 100000 in
theorem mw_1013 : Cond.methodLink RX6 382 yX5_heardOfAll ∈ gw_all := List.mem_filter.mpr ⟨mt_5 (List.mem_of_getElem? (i := 2) rfl), rfl⟩
set_option maxRecDepth 100000 in
theorem mw_1014 : Cond.instanceMethod yX5_heardOfAll ∈ gw_all := List.mem_filter.mpr ⟨mt_5 (List.mem_of_getElem? (i := 3) rfl), rfl⟩
set_option maxRecDepth 100000 in
theorem mw_1015 : Cond.selects RX5 yX5_heardOfAll yX5_heardOfAll ∈ gw_all := List.mem_filter.mpr ⟨mt_5 (List.mem_of_getElem? (i := 4) rfl), rfl⟩
set_option maxRecDepth 100000 in
theorem mw_1016 : Cond.code yX5_heardOfAll cX5_heardOfAll 4 (some .int) ∈ gw_all := List.mem_filter.mpr ⟨mt_5 (List.mem_of_getElem? (i := 5) rfl), rfl⟩
set_option maxRecDepth 100000 in
theorem mw_1017 : Cond.methodLink RL 191 yX6_status ∈ gw_all := List.mem_filter.mpr ⟨mt_5 (List.mem_of_getElem? (i := 6) rfl), rfl⟩
set_option maxRecDepth 100000 in
theorem mw_1018 : Cond.instanceMethod yX6_status ∈ gw_all := List.mem_filter.mpr ⟨mt_5 (List.mem_of_getElem? (i := 7) rfl), rfl⟩
set_option maxRecDepth 100000 in
theorem mw_1019 : Cond.selects RX6 yX6_status yX6_status ∈ gw_all := List.mem_filter.mpr ⟨mt_5 (List.mem_of_getElem? (i := 8) rfl), rfl⟩
set_option maxRecDepth 100000 in
theorem mw_1020 : Cond.code yX6_status cX6_status 1 (some .int) ∈ gw_all := List.mem_filter.mpr ⟨mt_5 (List.mem_of_getElem? (i := 9) rfl), rfl⟩
set_option maxRecDepth 100000 in
theorem mw_1021 : Cond.classLink RL 10 RX7 ∈ gw_all := List.mem_filter.mpr ⟨mt_5 (List.mem_of_getElem? (i := 10) rfl), rfl⟩
set_option maxRecDepth 100000 in
theorem mw_1022 : Cond.instantiable RX7 18 ∈ gw_all := List.mem_filter.mpr ⟨mt_5 (List.mem_of_getElem? (i := 11) rfl), rfl⟩
set_option maxRecDepth 100000 in
theorem mw_1023 : Cond.methodLink RL 12 yX7_init ∈ gw_all := List.mem_filter.mpr ⟨mt_5 (List.mem_of_getElem? (i := 12) rfl), rfl⟩
set_option maxRecDepth 100000 in
theorem mw_1024 : Cond.instanceMethod yX7_init ∈ gw_all := List.mem_filter.mpr ⟨mt_5 (List.mem_of_getElem? (i := 13) rfl), rfl⟩
set_option maxRecDepth 100000 in
theorem mw_1025 : Cond.code yX7_init cX7_init 1 none ∈ gw_all := List.mem_filter.mpr ⟨mt_5 (List.mem_of_getElem? (i := 14) rfl), rfl⟩
set_option maxRecDepth 100000 in
theorem mw_1026 : Cond.methodLink RX7 1 objectInit ∈ gw_all := List.mem_filter.mpr ⟨mt_5 (List.mem_of_getElem? (i := 15) rfl), rfl⟩
set_option maxRecDepth 100000 in
theorem mw_1027 : Cond.fieldLink RX7 50 RX7 "thrown" "I" ∈ gw_all := List.mem_filter.mpr ⟨mt_5 (List.mem_of_getElem? (i := 16) rfl), rfl⟩
set_option maxRecDepth 100000 in
theorem mw_1028 : Cond.fieldLink RX7 54 RX7 "status" "I" ∈ gw_all := List.mem_filter.mpr ⟨mt_5 (List.mem_of_getElem? (i := 17) rfl), rfl⟩
set_option maxRecDepth 100000 in
theorem mw_1029 : Cond.fieldLink RX7 7 RX7 "refusals" "[I" ∈ gw_all := List.mem_filter.mpr ⟨mt_5 (List.mem_of_getElem? (i := 18) rfl), rfl⟩
set_option maxRecDepth 100000 in
theorem mw_1030 : Cond.fieldLink RX7 13 RX7 "row" "[I" ∈ gw_all := List.mem_filter.mpr ⟨mt_5 (List.mem_of_getElem? (i := 19) rfl), rfl⟩
set_option maxRecDepth 100000 in
theorem mw_1031 : Cond.fieldLink RX7 16 RX7 "undos" "[I" ∈ gw_all := List.mem_filter.mpr ⟨mt_5 (List.mem_of_getElem? (i := 20) rfl), rfl⟩
set_option maxRecDepth 100000 in
theorem mw_1032 : Cond.fieldLink RX7 19 RX7 "sorts" "[I" ∈ gw_all := List.mem_filter.mpr ⟨mt_5 (List.mem_of_getElem? (i := 21) rfl), rfl⟩
set_option maxRecDepth 100000 in
theorem mw_1033 : Cond.fieldLink RX7 57 RX7 "nUndo" "I" ∈ gw_all := List.mem_filter.mpr ⟨mt_5 (List.mem_of_getElem? (i := 22) rfl), rfl⟩
set_option maxRecDepth 100000 in
theorem mw_1034 : Cond.fieldLink RX7 22 RX7 "images" "[I" ∈ gw_all := List.mem_filter.mpr ⟨mt_5 (List.mem_of_getElem? (i := 23) rfl), rfl⟩
set_option maxRecDepth 100000 in
theorem mw_1035 : Cond.fieldLink RX7 25 RX7 "isKept" "[Z" ∈ gw_all := List.mem_filter.mpr ⟨mt_5 (List.mem_of_getElem? (i := 24) rfl), rfl⟩
set_option maxRecDepth 100000 in
theorem mw_1036 : Cond.fieldLink RX7 29 RX7 "ahead" "[I" ∈ gw_all := List.mem_filter.mpr ⟨mt_5 (List.mem_of_getElem? (i := 25) rfl), rfl⟩
set_option maxRecDepth 100000 in
theorem mw_1037 : Cond.fieldLink RX7 32 RX7 "chosen" "[I" ∈ gw_all := List.mem_filter.mpr ⟨mt_5 (List.mem_of_getElem? (i := 26) rfl), rfl⟩
set_option maxRecDepth 100000 in
theorem mw_1038 : Cond.fieldLink RX7 35 RX7 "channel" "[I" ∈ gw_all := List.mem_filter.mpr ⟨mt_5 (List.mem_of_getElem? (i := 27) rfl), rfl⟩
set_option maxRecDepth 100000 in
theorem mw_1039 : Cond.fieldLink RX7 38 RX7 "firstChannel" "[I" ∈ gw_all := List.mem_filter.mpr ⟨mt_5 (List.mem_of_getElem? (i := 28) rfl), rfl⟩
set_option maxRecDepth 100000 in
theorem mw_1040 : Cond.fieldLink RX7 41 RX7 "sentNumber" "[Z" ∈ gw_all := List.mem_filter.mpr ⟨mt_5 (List.mem_of_getElem? (i := 29) rfl), rfl⟩
set_option maxRecDepth 100000 in
theorem mw_1041 : Cond.fieldLink RX7 44 RX7 "sentMap" "[Z" ∈ gw_all := List.mem_filter.mpr ⟨mt_5 (List.mem_of_getElem? (i := 30) rfl), rfl⟩
set_option maxRecDepth 100000 in
theorem mw_1042 : Cond.fieldLink RX7 47 RX7 "isHeard" "[Z" ∈ gw_all := List.mem_filter.mpr ⟨mt_5 (List.mem_of_getElem? (i := 31) rfl), rfl⟩
set_option maxRecDepth 100000 in
theorem mw_1043 : Cond.fieldLink RX7 189 RX7 "heardMany" "I" ∈ gw_all := List.mem_filter.mpr ⟨mt_5 (List.mem_of_getElem? (i := 32) rfl), rfl⟩
set_option maxRecDepth 100000 in
theorem mw_1044 : Cond.fieldLink RX7 233 RX7 "missedMany" "I" ∈ gw_all := List.mem_filter.mpr ⟨mt_5 (List.mem_of_getElem? (i := 33) rfl), rfl⟩
set_option maxRecDepth 100000 in
theorem mw_1045 : Cond.lays RX7 RX7 "thrown" "I" ∈ gw_all := List.mem_filter.mpr ⟨mt_5 (List.mem_of_getElem? (i := 34) rfl), rfl⟩
set_option maxRecDepth 100000 in
theorem mw_1047 : Cond.lays RX7 RX7 "status" "I" ∈ gw_all := List.mem_filter.mpr ⟨mt_5 (List.mem_of_getElem? (i := 36) rfl), rfl⟩
set_option maxRecDepth 100000 in
theorem mw_1049 : Cond.laysFinal RX7 RX7 "refusals" "[I" ∈ gw_all := List.mem_filter.mpr ⟨mt_5 (List.mem_of_getElem? (i := 38) rfl), rfl⟩
set_option maxRecDepth 100000 in
theorem mw_1051 : Cond.laysFinal RX7 RX7 "row" "[I" ∈ gw_all := List.mem_filter.mpr ⟨mt_5 (List.mem_of_getElem? (i := 40) rfl), rfl⟩
set_option maxRecDepth 100000 in
theorem mw_1053 : Cond.laysFinal RX7 RX7 "undos" "[I" ∈ gw_all := List.mem_filter.mpr ⟨mt_5 (List.mem_of_getElem? (i := 42) rfl), rfl⟩
set_option maxRecDepth 100000 in
theorem mw_1055 : Cond.laysFinal RX7 RX7 "sorts" "[I" ∈ gw_all := List.mem_filter.mpr ⟨mt_5 (List.mem_of_getElem? (i := 44) rfl), rfl⟩
set_option maxRecDepth 100000 in
theorem mw_1057 : Cond.lays RX7 RX7 "nUndo" "I" ∈ gw_all := List.mem_filter.mpr ⟨mt_5 (List.mem_of_getElem? (i := 46) rfl), rfl⟩
set_option maxRecDepth 100000 in
theorem mw_1059 : Cond.laysFinal RX7 RX7 "images" "[I" ∈ gw_all := List.mem_filter.mpr ⟨mt_5 (List.mem_of_getElem? (i := 48) rfl), rfl⟩
set_option maxRecDepth 100000 in
theorem mw_1061 : Cond.laysFinal RX7 RX7 "isKept" "[Z" ∈ gw_all := List.mem_filter.mpr ⟨mt_5 (List.mem_of_getElem? (i := 50) rfl), rfl⟩
set_option maxRecDepth 100000 in
theorem mw_1063 : Cond.laysFinal RX7 RX7 "ahead" "[I" ∈ gw_all := List.mem_filter.mpr ⟨mt_5 (List.mem_of_getElem? (i := 52) rfl), rfl⟩
set_option maxRecDepth 100000 in
theorem mw_1065 : Cond.laysFinal RX7 RX7 "chosen" "[I" ∈ gw_all := List.mem_filter.mpr ⟨mt_5 (List.mem_of_getElem? (i := 54) rfl), rfl⟩
set_option maxRecDepth 100000 in
theorem mw_1067 : Cond.laysFinal RX7 RX7 "channel" "[I" ∈ gw_all := List.mem_filter.mpr ⟨mt_5 (List.mem_of_getElem? (i := 56) rfl), rfl⟩
set_option maxRecDepth 100000 in
theorem mw_1069 : Cond.laysFinal RX7 RX7 "firstChannel" "[I" ∈ gw_all := List.mem_filter.mpr ⟨mt_5 (List.mem_of_getElem? (i := 58) rfl), rfl⟩
set_option maxRecDepth 100000 in
theorem mw_1071 : Cond.laysFinal RX7 RX7 "sentNumber" "[Z" ∈ gw_all := List.mem_filter.mpr ⟨mt_5 (List.mem_of_getElem? (i := 60) rfl), rfl⟩
set_option maxRecDepth 100000 in
theorem mw_1073 : Cond.laysFinal RX7 RX7 "sentMap" "[Z" ∈ gw_all := List.mem_filter.mpr ⟨mt_5 (List.mem_of_getElem? (i := 62) rfl), rfl⟩
set_option maxRecDepth 100000 in
theorem mw_1075 : Cond.laysFinal RX7 RX7 "isHeard" "[Z" ∈ gw_all := List.mem_filter.mpr ⟨mt_5 (List.mem_of_getElem? (i := 64) rfl), rfl⟩
set_option maxRecDepth 100000 in
theorem mw_1077 : Cond.lays RX7 RX7 "heardMany" "I" ∈ gw_all := List.mem_filter.mpr ⟨mt_5 (List.mem_of_getElem? (i := 66) rfl), rfl⟩
set_option maxRecDepth 100000 in
theorem mw_1079 : Cond.lays RX7 RX7 "missedMany" "I" ∈ gw_all := List.mem_filter.mpr ⟨mt_5 (List.mem_of_getElem? (i := 68) rfl), rfl⟩
set_option maxRecDepth 100000 in
theorem mw_1082 : Cond.methodLink RL 78 yX7_undo ∈ gw_all := List.mem_filter.mpr ⟨mt_5 (List.mem_of_getElem? (i := 71) rfl), rfl⟩
set_option maxRecDepth 100000 in
theorem mw_1083 : Cond.instanceMethod yX7_undo ∈ gw_all := List.mem_filter.mpr ⟨mt_5 (List.mem_of_getElem? (i := 72) rfl), rfl⟩
set_option maxRecDepth 100000 in
theorem mw_1084 : Cond.selects RX7 yX7_undo yX7_undo ∈ gw_all := List.mem_filter.mpr ⟨mt_5 (List.mem_of_getElem? (i := 73) rfl), rfl⟩
set_option maxRecDepth 100000 in
theorem mw_1085 : Cond.code yX7_undo cX7_undo 1 (some .int) ∈ gw_all := List.mem_filter.mpr ⟨mt_5 (List.mem_of_getElem? (i := 74) rfl), rfl⟩
set_option maxRecDepth 100000 in
theorem mw_1086 : Cond.methodLink RX7 64 yX7_refuse ∈ gw_all := List.mem_filter.mpr ⟨mt_5 (List.mem_of_getElem? (i := 75) rfl), rfl⟩
set_option maxRecDepth 100000 in
theorem mw_1088 : Cond.instanceMethod yX7_refuse ∈ gw_all := List.mem_filter.mpr ⟨mt_5 (List.mem_of_getElem? (i := 77) rfl), rfl⟩
set_option maxRecDepth 100000 in
theorem mw_1089 : Cond.code yX7_refuse cX7_refuse 2 (some .int) ∈ gw_all := List.mem_filter.mpr ⟨mt_5 (List.mem_of_getElem? (i := 78) rfl), rfl⟩
set_option maxRecDepth 100000 in
theorem mw_1090 : Cond.methodLink RX7 60 yX7_copy ∈ gw_all := List.mem_filter.mpr ⟨mt_5 (List.mem_of_getElem? (i := 79) rfl), rfl⟩
set_option maxRecDepth 100000 in
theorem mw_1091 : Cond.static yX7_copy ∈ gw_all := List.mem_filter.mpr ⟨mt_5 (List.mem_of_getElem? (i := 80) rfl), rfl⟩
set_option maxRecDepth 100000 in
theorem mw_1092 : Cond.code yX7_copy cX7_copy 5 none ∈ gw_all := List.mem_filter.mpr ⟨mt_5 (List.mem_of_getElem? (i := 81) rfl), rfl⟩
set_option maxRecDepth 100000 in
theorem mw_1093 : Cond.methodLink RX7 68 yX7_tell ∈ gw_all := List.mem_filter.mpr ⟨mt_5 (List.mem_of_getElem? (i := 82) rfl), rfl⟩
set_option maxRecDepth 100000 in
theorem mw_1095 : Cond.instanceMethod yX7_tell ∈ gw_all := List.mem_filter.mpr ⟨mt_5 (List.mem_of_getElem? (i := 84) rfl), rfl⟩
set_option maxRecDepth 100000 in
theorem mw_1096 : Cond.code yX7_tell cX7_tell 2 (some .int) ∈ gw_all := List.mem_filter.mpr ⟨mt_5 (List.mem_of_getElem? (i := 85) rfl), rfl⟩
set_option maxRecDepth 100000 in
theorem mw_1097 : Cond.methodLink RL 82 yX7_image ∈ gw_all := List.mem_filter.mpr ⟨mt_5 (List.mem_of_getElem? (i := 86) rfl), rfl⟩
set_option maxRecDepth 100000 in
theorem mw_1098 : Cond.instanceMethod yX7_image ∈ gw_all := List.mem_filter.mpr ⟨mt_5 (List.mem_of_getElem? (i := 87) rfl), rfl⟩
set_option maxRecDepth 100000 in
theorem mw_1099 : Cond.selects RX7 yX7_image yX7_image ∈ gw_all := List.mem_filter.mpr ⟨mt_5 (List.mem_of_getElem? (i := 88) rfl), rfl⟩
set_option maxRecDepth 100000 in
theorem mw_1100 : Cond.code yX7_image cX7_image 2 (some .int) ∈ gw_all := List.mem_filter.mpr ⟨mt_5 (List.mem_of_getElem? (i := 89) rfl), rfl⟩
set_option maxRecDepth 100000 in
theorem mw_1101 : Cond.methodLink RX7 71 yX7_in ∈ gw_all := List.mem_filter.mpr ⟨mt_5 (List.mem_of_getElem? (i := 90) rfl), rfl⟩
set_option maxRecDepth 100000 in
theorem mw_1102 : Cond.static yX7_in ∈ gw_all := List.mem_filter.mpr ⟨mt_5 (List.mem_of_getElem? (i := 91) rfl), rfl⟩
set_option maxRecDepth 100000 in
theorem mw_1103 : Cond.code yX7_in cX7_in 6 (some .boolean) ∈ gw_all := List.mem_filter.mpr ⟨mt_5 (List.mem_of_getElem? (i := 92) rfl), rfl⟩
set_option maxRecDepth 100000 in
theorem mw_1104 : Cond.methodLink RL 86 yX7_back ∈ gw_all := List.mem_filter.mpr ⟨mt_5 (List.mem_of_getElem? (i := 93) rfl), rfl⟩
set_option maxRecDepth 100000 in
theorem mw_1105 : Cond.instanceMethod yX7_back ∈ gw_all := List.mem_filter.mpr ⟨mt_5 (List.mem_of_getElem? (i := 94) rfl), rfl⟩
set_option maxRecDepth 100000 in
theorem mw_1106 : Cond.selects RX7 yX7_back yX7_back ∈ gw_all := List.mem_filter.mpr ⟨mt_5 (List.mem_of_getElem? (i := 95) rfl), rfl⟩
set_option maxRecDepth 100000 in
theorem mw_1107 : Cond.code yX7_back cX7_back 2 (some .int) ∈ gw_all := List.mem_filter.mpr ⟨mt_5 (List.mem_of_getElem? (i := 96) rfl), rfl⟩
set_option maxRecDepth 100000 in
theorem mw_1108 : Cond.methodLink RL 90 yX7_kernel ∈ gw_all := List.mem_filter.mpr ⟨mt_5 (List.mem_of_getElem? (i := 97) rfl), rfl⟩
set_option maxRecDepth 100000 in
theorem mw_1109 : Cond.instanceMethod yX7_kernel ∈ gw_all := List.mem_filter.mpr ⟨mt_5 (List.mem_of_getElem? (i := 98) rfl), rfl⟩
set_option maxRecDepth 100000 in
theorem mw_1110 : Cond.selects RX7 yX7_kernel yX7_kernel ∈ gw_all := List.mem_filter.mpr ⟨mt_5 (List.mem_of_getElem? (i := 99) rfl), rfl⟩
set_option maxRecDepth 100000 in
theorem mw_1111 : Cond.code yX7_kernel cX7_kernel 3 (some .int) ∈ gw_all := List.mem_filter.mpr ⟨mt_5 (List.mem_of_getElem? (i := 100) rfl), rfl⟩
set_option maxRecDepth 100000 in
theorem mw_1112 : Cond.constantLong RX7 102 268435455 ∈ gw_all := List.mem_filter.mpr ⟨mt_5 (List.mem_of_getElem? (i := 101) rfl), rfl⟩
set_option maxRecDepth 100000 in
theorem mw_1113 : Cond.constantLong RX7 104 999999 ∈ gw_all := List.mem_filter.mpr ⟨mt_5 (List.mem_of_getElem? (i := 102) rfl), rfl⟩
set_option maxRecDepth 100000 in
theorem mw_1114 : Cond.methodLink RX7 96 yX7_kernelOf ∈ gw_all := List.mem_filter.mpr ⟨mt_5 (List.mem_of_getElem? (i := 103) rfl), rfl⟩
set_option maxRecDepth 100000 in
theorem mw_1115 : Cond.static yX7_kernelOf ∈ gw_all := List.mem_filter.mpr ⟨mt_5 (List.mem_of_getElem? (i := 104) rfl), rfl⟩
set_option maxRecDepth 100000 in
theorem mw_1116 : Cond.code yX7_kernelOf cX7_kernelOf 8 (some .int) ∈ gw_all := List.mem_filter.mpr ⟨mt_5 (List.mem_of_getElem? (i := 105) rfl), rfl⟩
set_option maxRecDepth 100000 in
theorem mw_1117 : Cond.fieldLink RX7 90 RX7 "PAIRS" "[I" ∈ gw_all := List.mem_filter.mpr ⟨mt_5 (List.mem_of_getElem? (i := 106) rfl), rfl⟩
set_option maxRecDepth 100000 in
theorem nw_1118 : Cond.laysStatic RX7 "PAIRS" "[I" ∈ lw_tbl := mt_5 (List.mem_of_getElem? (i := 107) rfl)
set_option maxRecDepth 100000 in
theorem mw_1119 : Cond.methodLink RL 94 yX7_hop ∈ gw_all := List.mem_filter.mpr ⟨mt_5 (List.mem_of_getElem? (i := 108) rfl), rfl⟩
set_option maxRecDepth 100000 in
theorem mw_1120 : Cond.instanceMethod yX7_hop ∈ gw_all := List.mem_filter.mpr ⟨mt_5 (List.mem_of_getElem? (i := 109) rfl), rfl⟩
set_option maxRecDepth 100000 in
theorem mw_1121 : Cond.selects RX7 yX7_hop yX7_hop ∈ gw_all := List.mem_filter.mpr ⟨mt_5 (List.mem_of_getElem? (i := 110) rfl), rfl⟩
set_option maxRecDepth 100000 in
theorem mw_1122 : Cond.code yX7_hop cX7_hop 4 (some .int) ∈ gw_all := List.mem_filter.mpr ⟨mt_5 (List.mem_of_getElem? (i := 111) rfl), rfl⟩
set_option maxRecDepth 100000 in
theorem mw_1123 : Cond.methodLink RX7 78 yX7_isNet ∈ gw_all := List.mem_filter.mpr ⟨mt_5 (List.mem_of_getElem? (i := 112) rfl), rfl⟩
set_option maxRecDepth 100000 in
theorem mw_1125 : Cond.instanceMethod yX7_isNet ∈ gw_all := List.mem_filter.mpr ⟨mt_5 (List.mem_of_getElem? (i := 114) rfl), rfl⟩
set_option maxRecDepth 100000 in
theorem mw_1126 : Cond.code yX7_isNet cX7_isNet 2 (some .boolean) ∈ gw_all := List.mem_filter.mpr ⟨mt_5 (List.mem_of_getElem? (i := 115) rfl), rfl⟩
set_option maxRecDepth 100000 in
theorem mw_1127 : Cond.methodLink RX7 75 yX7_netAt ∈ gw_all := List.mem_filter.mpr ⟨mt_5 (List.mem_of_getElem? (i := 116) rfl), rfl⟩
set_option maxRecDepth 100000 in
theorem mw_1128 : Cond.static yX7_netAt ∈ gw_all := List.mem_filter.mpr ⟨mt_5 (List.mem_of_getElem? (i := 117) rfl), rfl⟩
set_option maxRecDepth 100000 in
theorem mw_1129 : Cond.code yX7_netAt cX7_netAt 1 (some .int) ∈ gw_all := List.mem_filter.mpr ⟨mt_5 (List.mem_of_getElem? (i := 118) rfl), rfl⟩
set_option maxRecDepth 100000 in
theorem mw_1130 : Cond.methodLink RX7 106 yX7_isLink ∈ gw_all := List.mem_filter.mpr ⟨mt_5 (List.mem_of_getElem? (i := 119) rfl), rfl⟩
set_option maxRecDepth 100000 in
theorem mw_1132 : Cond.instanceMethod yX7_isLink ∈ gw_all := List.mem_filter.mpr ⟨mt_5 (List.mem_of_getElem? (i := 121) rfl), rfl⟩
set_option maxRecDepth 100000 in
theorem mw_1133 : Cond.code yX7_isLink cX7_isLink 3 (some .boolean) ∈ gw_all := List.mem_filter.mpr ⟨mt_5 (List.mem_of_getElem? (i := 122) rfl), rfl⟩
set_option maxRecDepth 100000 in
theorem mw_1134 : Cond.constantLong RX7 109 199999 ∈ gw_all := List.mem_filter.mpr ⟨mt_5 (List.mem_of_getElem? (i := 123) rfl), rfl⟩
set_option maxRecDepth 100000 in
theorem mw_1135 : Cond.methodLink RX7 111 yX7_mapHeld ∈ gw_all := List.mem_filter.mpr ⟨mt_5 (List.mem_of_getElem? (i := 124) rfl), rfl⟩
set_option maxRecDepth 100000 in
theorem mw_1137 : Cond.instanceMethod yX7_mapHeld ∈ gw_all := List.mem_filter.mpr ⟨mt_5 (List.mem_of_getElem? (i := 126) rfl), rfl⟩
set_option maxRecDepth 100000 in
theorem mw_1138 : Cond.code yX7_mapHeld cX7_mapHeld 3 (some .int) ∈ gw_all := List.mem_filter.mpr ⟨mt_5 (List.mem_of_getElem? (i := 127) rfl), rfl⟩
set_option maxRecDepth 100000 in
theorem mw_1139 : Cond.methodLink RX7 82 yX7_linkAt ∈ gw_all := List.mem_filter.mpr ⟨mt_5 (List.mem_of_getElem? (i := 128) rfl), rfl⟩
set_option maxRecDepth 100000 in
theorem mw_1140 : Cond.static yX7_linkAt ∈ gw_all := List.mem_filter.mpr ⟨mt_5 (List.mem_of_getElem? (i := 129) rfl), rfl⟩
set_option maxRecDepth 100000 in
theorem mw_1141 : Cond.code yX7_linkAt cX7_linkAt 2 (some .int) ∈ gw_all := List.mem_filter.mpr ⟨mt_5 (List.mem_of_getElem? (i := 130) rfl), rfl⟩
set_option maxRecDepth 100000 in
theorem mw_1142 : Cond.methodLink RX7 114 yX7_hopOf ∈ gw_all := List.mem_filter.mpr ⟨mt_5 (List.mem_of_getElem? (i := 131) rfl), rfl⟩
set_option maxRecDepth 100000 in
theorem mw_1144 : Cond.instanceMethod yX7_hopOf ∈ gw_all := List.mem_filter.mpr ⟨mt_5 (List.mem_of_getElem? (i := 133) rfl), rfl⟩
set_option maxRecDepth 100000 in
theorem mw_1145 : Cond.code yX7_hopOf cX7_hopOf 5 (some .int) ∈ gw_all := List.mem_filter.mpr ⟨mt_5 (List.mem_of_getElem? (i := 134) rfl), rfl⟩
set_option maxRecDepth 100000 in
theorem mw_1146 : Cond.methodLink RX7 99 yX7_byMap ∈ gw_all := List.mem_filter.mpr ⟨mt_5 (List.mem_of_getElem? (i := 135) rfl), rfl⟩
set_option maxRecDepth 100000 in
theorem mw_1147 : Cond.static yX7_byMap ∈ gw_all := List.mem_filter.mpr ⟨mt_5 (List.mem_of_getElem? (i := 136) rfl), rfl⟩
set_option maxRecDepth 100000 in
theorem mw_1148 : Cond.code yX7_byMap cX7_byMap 4 (some .int) ∈ gw_all := List.mem_filter.mpr ⟨mt_5 (List.mem_of_getElem? (i := 137) rfl), rfl⟩
set_option maxRecDepth 100000 in
theorem mw_1149 : Cond.methodLink RX7 93 yX7_bits ∈ gw_all := List.mem_filter.mpr ⟨mt_5 (List.mem_of_getElem? (i := 138) rfl), rfl⟩
set_option maxRecDepth 100000 in
theorem mw_1150 : Cond.static yX7_bits ∈ gw_all := List.mem_filter.mpr ⟨mt_5 (List.mem_of_getElem? (i := 139) rfl), rfl⟩
set_option maxRecDepth 100000 in
theorem mw_1151 : Cond.code yX7_bits cX7_bits 3 (some .int) ∈ gw_all := List.mem_filter.mpr ⟨mt_5 (List.mem_of_getElem? (i := 140) rfl), rfl⟩
set_option maxRecDepth 100000 in
theorem mw_1152 : Cond.methodLink RL 17 yX7_radio ∈ gw_all := List.mem_filter.mpr ⟨mt_5 (List.mem_of_getElem? (i := 141) rfl), rfl⟩
set_option maxRecDepth 100000 in
theorem mw_1153 : Cond.instanceMethod yX7_radio ∈ gw_all := List.mem_filter.mpr ⟨mt_5 (List.mem_of_getElem? (i := 142) rfl), rfl⟩
set_option maxRecDepth 100000 in
theorem mw_1154 : Cond.selects RX7 yX7_radio yX7_radio ∈ gw_all := List.mem_filter.mpr ⟨mt_5 (List.mem_of_getElem? (i := 143) rfl), rfl⟩
set_option maxRecDepth 100000 in
theorem mw_1155 : Cond.code yX7_radio cX7_radio 3 (some .int) ∈ gw_all := List.mem_filter.mpr ⟨mt_5 (List.mem_of_getElem? (i := 144) rfl), rfl⟩
set_option maxRecDepth 100000 in
theorem mw_1156 : Cond.methodLink RX7 118 yX7_remember ∈ gw_all := List.mem_filter.mpr ⟨mt_5 (List.mem_of_getElem? (i := 145) rfl), rfl⟩
set_option maxRecDepth 100000 in
theorem mw_1158 : Cond.instanceMethod yX7_remember ∈ gw_all := List.mem_filter.mpr ⟨mt_5 (List.mem_of_getElem? (i := 147) rfl), rfl⟩
set_option maxRecDepth 100000 in
theorem mw_1159 : Cond.code yX7_remember cX7_remember 3 none ∈ gw_all := List.mem_filter.mpr ⟨mt_5 (List.mem_of_getElem? (i := 148) rfl), rfl⟩
set_option maxRecDepth 100000 in
theorem mw_1160 : Cond.methodLink RL 22 yX7_net ∈ gw_all := List.mem_filter.mpr ⟨mt_5 (List.mem_of_getElem? (i := 149) rfl), rfl⟩
set_option maxRecDepth 100000 in
theorem mw_1161 : Cond.instanceMethod yX7_net ∈ gw_all := List.mem_filter.mpr ⟨mt_5 (List.mem_of_getElem? (i := 150) rfl), rfl⟩
set_option maxRecDepth 100000 in
theorem mw_1162 : Cond.selects RX7 yX7_net yX7_net ∈ gw_all := List.mem_filter.mpr ⟨mt_5 (List.mem_of_getElem? (i := 151) rfl), rfl⟩
set_option maxRecDepth 100000 in
theorem mw_1163 : Cond.code yX7_net cX7_net 6 (some .int) ∈ gw_all := List.mem_filter.mpr ⟨mt_5 (List.mem_of_getElem? (i := 152) rfl), rfl⟩
set_option maxRecDepth 100000 in
theorem mw_1164 : Cond.constantLong RX7 122 65535 ∈ gw_all := List.mem_filter.mpr ⟨mt_5 (List.mem_of_getElem? (i := 153) rfl), rfl⟩
set_option maxRecDepth 100000 in
theorem mw_1165 : Cond.methodLink RX7 124 yX7_isRadio ∈ gw_all := List.mem_filter.mpr ⟨mt_5 (List.mem_of_getElem? (i := 154) rfl), rfl⟩
set_option maxRecDepth 100000 in
theorem mw_1167 : Cond.instanceMethod yX7_isRadio ∈ gw_all := List.mem_filter.mpr ⟨mt_5 (List.mem_of_getElem? (i := 156) rfl), rfl⟩
set_option maxRecDepth 100000 in
theorem mw_1168 : Cond.code yX7_isRadio cX7_isRadio 2 (some .boolean) ∈ gw_all := List.mem_filter.mpr ⟨mt_5 (List.mem_of_getElem? (i := 157) rfl), rfl⟩
set_option maxRecDepth 100000 in
theorem mw_1169 : Cond.constant RX7 127 8388607 ∈ gw_all := List.mem_filter.mpr ⟨mt_5 (List.mem_of_getElem? (i := 158) rfl), rfl⟩
set_option maxRecDepth 100000 in
theorem mw_1170 : Cond.methodLink RL 27 yX7_join ∈ gw_all := List.mem_filter.mpr ⟨mt_5 (List.mem_of_getElem? (i := 159) rfl), rfl⟩
set_option maxRecDepth 100000 in
theorem mw_1171 : Cond.instanceMethod yX7_join ∈ gw_all := List.mem_filter.mpr ⟨mt_5 (List.mem_of_getElem? (i := 160) rfl), rfl⟩
set_option maxRecDepth 100000 in
theorem mw_1172 : Cond.selects RX7 yX7_join yX7_join ∈ gw_all := List.mem_filter.mpr ⟨mt_5 (List.mem_of_getElem? (i := 161) rfl), rfl⟩
set_option maxRecDepth 100000 in
theorem mw_1173 : Cond.code yX7_join cX7_join 7 (some .int) ∈ gw_all := List.mem_filter.mpr ⟨mt_5 (List.mem_of_getElem? (i := 162) rfl), rfl⟩
set_option maxRecDepth 100000 in
theorem mw_1174 : Cond.methodLink RX7 86 yX7_isIn ∈ gw_all := List.mem_filter.mpr ⟨mt_5 (List.mem_of_getElem? (i := 163) rfl), rfl⟩
set_option maxRecDepth 100000 in
theorem mw_1176 : Cond.instanceMethod yX7_isIn ∈ gw_all := List.mem_filter.mpr ⟨mt_5 (List.mem_of_getElem? (i := 165) rfl), rfl⟩
set_option maxRecDepth 100000 in
theorem mw_1177 : Cond.code yX7_isIn cX7_isIn 5 (some .boolean) ∈ gw_all := List.mem_filter.mpr ⟨mt_5 (List.mem_of_getElem? (i := 166) rfl), rfl⟩
set_option maxRecDepth 100000 in
theorem mw_1178 : Cond.methodLink RL 31 yX7_leave ∈ gw_all := List.mem_filter.mpr ⟨mt_5 (List.mem_of_getElem? (i := 167) rfl), rfl⟩
set_option maxRecDepth 100000 in
theorem mw_1179 : Cond.instanceMethod yX7_leave ∈ gw_all := List.mem_filter.mpr ⟨mt_5 (List.mem_of_getElem? (i := 168) rfl), rfl⟩
set_option maxRecDepth 100000 in
theorem mw_1180 : Cond.selects RX7 yX7_leave yX7_leave ∈ gw_all := List.mem_filter.mpr ⟨mt_5 (List.mem_of_getElem? (i := 169) rfl), rfl⟩
set_option maxRecDepth 100000 in
theorem mw_1181 : Cond.code yX7_leave cX7_leave 5 (some .int) ∈ gw_all := List.mem_filter.mpr ⟨mt_5 (List.mem_of_getElem? (i := 170) rfl), rfl⟩
set_option maxRecDepth 100000 in
theorem mw_1182 : Cond.methodLink RL 35 yX7_noise ∈ gw_all := List.mem_filter.mpr ⟨mt_5 (List.mem_of_getElem? (i := 171) rfl), rfl⟩
set_option maxRecDepth 100000 in
theorem mw_1183 : Cond.instanceMethod yX7_noise ∈ gw_all := List.mem_filter.mpr ⟨mt_5 (List.mem_of_getElem? (i := 172) rfl), rfl⟩
set_option maxRecDepth 100000 in
theorem mw_1184 : Cond.selects RX7 yX7_noise yX7_noise ∈ gw_all := List.mem_filter.mpr ⟨mt_5 (List.mem_of_getElem? (i := 173) rfl), rfl⟩
set_option maxRecDepth 100000 in
theorem mw_1185 : Cond.code yX7_noise cX7_noise 4 (some .int) ∈ gw_all := List.mem_filter.mpr ⟨mt_5 (List.mem_of_getElem? (i := 174) rfl), rfl⟩
set_option maxRecDepth 100000 in
theorem mw_1186 : Cond.constantLong RX7 128 22 ∈ gw_all := List.mem_filter.mpr ⟨mt_5 (List.mem_of_getElem? (i := 175) rfl), rfl⟩
set_option maxRecDepth 100000 in
theorem mw_1187 : Cond.constantLong RX7 130 16 ∈ gw_all := List.mem_filter.mpr ⟨mt_5 (List.mem_of_getElem? (i := 176) rfl), rfl⟩
set_option maxRecDepth 100000 in
theorem mw_1188 : Cond.methodLink RL 39 yX7_terms ∈ gw_all := List.mem_filter.mpr ⟨mt_5 (List.mem_of_getElem? (i := 177) rfl), rfl⟩
set_option maxRecDepth 100000 in
theorem mw_1189 : Cond.instanceMethod yX7_terms ∈ gw_all := List.mem_filter.mpr ⟨mt_5 (List.mem_of_getElem? (i := 178) rfl), rfl⟩
set_option maxRecDepth 100000 in
theorem mw_1190 : Cond.selects RX7 yX7_terms yX7_terms ∈ gw_all := List.mem_filter.mpr ⟨mt_5 (List.mem_of_getElem? (i := 179) rfl), rfl⟩
set_option maxRecDepth 100000 in
theorem mw_1191 : Cond.code yX7_terms cX7_terms 4 (some .int) ∈ gw_all := List.mem_filter.mpr ⟨mt_5 (List.mem_of_getElem? (i := 180) rfl), rfl⟩
set_option maxRecDepth 100000 in
theorem mw_1192 : Cond.constantLong RX7 134 2 ∈ gw_all := List.mem_filter.mpr ⟨mt_5 (List.mem_of_getElem? (i := 181) rfl), rfl⟩
set_option maxRecDepth 100000 in
theorem mw_1193 : Cond.constantLong RX7 136 1000000 ∈ gw_all := List.mem_filter.mpr ⟨mt_5 (List.mem_of_getElem? (i := 182) rfl), rfl⟩
set_option maxRecDepth 100000 in
theorem mw_1194 : Cond.methodLink RX7 138 yX7_isShare ∈ gw_all := List.mem_filter.mpr ⟨mt_5 (List.mem_of_getElem? (i := 183) rfl), rfl⟩
set_option maxRecDepth 100000 in
theorem mw_1195 : Cond.static yX7_isShare ∈ gw_all := List.mem_filter.mpr ⟨mt_5 (List.mem_of_getElem? (i := 184) rfl), rfl⟩
set_option maxRecDepth 100000 in
theorem mw_1196 : Cond.code yX7_isShare cX7_isShare 1 (some .boolean) ∈ gw_all := List.mem_filter.mpr ⟨mt_5 (List.mem_of_getElem? (i := 185) rfl), rfl⟩
set_option maxRecDepth 100000 in
theorem mw_1197 : Cond.constantLong RX7 132 32 ∈ gw_all := List.mem_filter.mpr ⟨mt_5 (List.mem_of_getElem? (i := 186) rfl), rfl⟩
set_option maxRecDepth 100000 in
theorem mw_1198 : Cond.constantLong RX7 141 4 ∈ gw_all := List.mem_filter.mpr ⟨mt_5 (List.mem_of_getElem? (i := 187) rfl), rfl⟩
set_option maxRecDepth 100000 in
theorem mw_1199 : Cond.methodLink RL 44 yX7_put ∈ gw_all := List.mem_filter.mpr ⟨mt_5 (List.mem_of_getElem? (i := 188) rfl), rfl⟩
set_option maxRecDepth 100000 in
theorem mw_1200 : Cond.instanceMethod yX7_put ∈ gw_all := List.mem_filter.mpr ⟨mt_5 (List.mem_of_getElem? (i := 189) rfl), rfl⟩
set_option maxRecDepth 100000 in
theorem mw_1201 : Cond.selects RX7 yX7_put yX7_put ∈ gw_all := List.mem_filter.mpr ⟨mt_5 (List.mem_of_getElem? (i := 190) rfl), rfl⟩
set_option maxRecDepth 100000 in
theorem mw_1202 : Cond.code yX7_put cX7_put 7 (some .int) ∈ gw_all := List.mem_filter.mpr ⟨mt_5 (List.mem_of_getElem? (i := 191) rfl), rfl⟩
set_option maxRecDepth 100000 in
theorem mw_1203 : Cond.constantLong RX7 143 255 ∈ gw_all := List.mem_filter.mpr ⟨mt_5 (List.mem_of_getElem? (i := 192) rfl), rfl⟩
set_option maxRecDepth 100000 in
theorem mw_1204 : Cond.methodLink RX7 145 yX7_comes ∈ gw_all := List.mem_filter.mpr ⟨mt_5 (List.mem_of_getElem? (i := 193) rfl), rfl⟩
set_option maxRecDepth 100000 in
theorem mw_1206 : Cond.instanceMethod yX7_comes ∈ gw_all := List.mem_filter.mpr ⟨mt_5 (List.mem_of_getElem? (i := 195) rfl), rfl⟩
set_option maxRecDepth 100000 in
theorem mw_1207 : Cond.code yX7_comes cX7_comes 5 none ∈ gw_all := List.mem_filter.mpr ⟨mt_5 (List.mem_of_getElem? (i := 196) rfl), rfl⟩
set_option maxRecDepth 100000 in
theorem mw_1208 : Cond.methodLink RL 53 yX7_sniff ∈ gw_all := List.mem_filter.mpr ⟨mt_5 (List.mem_of_getElem? (i := 197) rfl), rfl⟩
set_option maxRecDepth 100000 in
theorem mw_1209 : Cond.instanceMethod yX7_sniff ∈ gw_all := List.mem_filter.mpr ⟨mt_5 (List.mem_of_getElem? (i := 198) rfl), rfl⟩
set_option maxRecDepth 100000 in
theorem mw_1210 : Cond.selects RX7 yX7_sniff yX7_sniff ∈ gw_all := List.mem_filter.mpr ⟨mt_5 (List.mem_of_getElem? (i := 199) rfl), rfl⟩
set_option maxRecDepth 100000 in
theorem mw_1211 : Cond.code yX7_sniff cX7_sniff 7 (some .int) ∈ gw_all := List.mem_filter.mpr ⟨mt_5 (List.mem_of_getElem? (i := 200) rfl), rfl⟩
set_option maxRecDepth 100000 in
theorem mw_1212 : Cond.methodLink RX7 149 yX7_isEven ∈ gw_all := List.mem_filter.mpr ⟨mt_5 (List.mem_of_getElem? (i := 201) rfl), rfl⟩
set_option maxRecDepth 100000 in
theorem mw_1213 : Cond.static yX7_isEven ∈ gw_all := List.mem_filter.mpr ⟨mt_5 (List.mem_of_getElem? (i := 202) rfl), rfl⟩
set_option maxRecDepth 100000 in
theorem mw_1214 : Cond.code yX7_isEven cX7_isEven 3 (some .boolean) ∈ gw_all := List.mem_filter.mpr ⟨mt_5 (List.mem_of_getElem? (i := 203) rfl), rfl⟩
set_option maxRecDepth 100000 in
theorem mw_1215 : Cond.methodLink RL 57 yX7_weigh ∈ gw_all := List.mem_filter.mpr ⟨mt_5 (List.mem_of_getElem? (i := 204) rfl), rfl⟩
set_option maxRecDepth 100000 in
theorem mw_1216 : Cond.instanceMethod yX7_weigh ∈ gw_all := List.mem_filter.mpr ⟨mt_5 (List.mem_of_getElem? (i := 205) rfl), rfl⟩
set_option maxRecDepth 100000 in
theorem mw_1217 : Cond.selects RX7 yX7_weigh yX7_weigh ∈ gw_all := List.mem_filter.mpr ⟨mt_5 (List.mem_of_getElem? (i := 206) rfl), rfl⟩
set_option maxRecDepth 100000 in
theorem mw_1218 : Cond.code yX7_weigh cX7_weigh 6 (some .int) ∈ gw_all := List.mem_filter.mpr ⟨mt_5 (List.mem_of_getElem? (i := 207) rfl), rfl⟩
set_option maxRecDepth 100000 in
theorem mw_1219 : Cond.methodLink RL 61 yX7_cast ∈ gw_all := List.mem_filter.mpr ⟨mt_5 (List.mem_of_getElem? (i := 208) rfl), rfl⟩
set_option maxRecDepth 100000 in
theorem mw_1220 : Cond.instanceMethod yX7_cast ∈ gw_all := List.mem_filter.mpr ⟨mt_5 (List.mem_of_getElem? (i := 209) rfl), rfl⟩
set_option maxRecDepth 100000 in
theorem mw_1221 : Cond.selects RX7 yX7_cast yX7_cast ∈ gw_all := List.mem_filter.mpr ⟨mt_5 (List.mem_of_getElem? (i := 210) rfl), rfl⟩
set_option maxRecDepth 100000 in
theorem mw_1222 : Cond.code yX7_cast cX7_cast 4 (some .int) ∈ gw_all := List.mem_filter.mpr ⟨mt_5 (List.mem_of_getElem? (i := 211) rfl), rfl⟩
set_option maxRecDepth 100000 in
theorem mw_1223 : Cond.methodLink RL 49 yX7_reserve ∈ gw_all := List.mem_filter.mpr ⟨mt_5 (List.mem_of_getElem? (i := 212) rfl), rfl⟩
set_option maxRecDepth 100000 in
theorem mw_1224 : Cond.instanceMethod yX7_reserve ∈ gw_all := List.mem_filter.mpr ⟨mt_5 (List.mem_of_getElem? (i := 213) rfl), rfl⟩
set_option maxRecDepth 100000 in
theorem mw_1225 : Cond.selects RX7 yX7_reserve yX7_reserve ∈ gw_all := List.mem_filter.mpr ⟨mt_5 (List.mem_of_getElem? (i := 214) rfl), rfl⟩
set_option maxRecDepth 100000 in
theorem mw_1226 : Cond.code yX7_reserve cX7_reserve 8 (some .int) ∈ gw_all := List.mem_filter.mpr ⟨mt_5 (List.mem_of_getElem? (i := 215) rfl), rfl⟩
set_option maxRecDepth 100000 in
theorem mw_1227 : Cond.constantLong RX7 153 3 ∈ gw_all := List.mem_filter.mpr ⟨mt_5 (List.mem_of_getElem? (i := 216) rfl), rfl⟩
set_option maxRecDepth 100000 in
theorem mw_1228 : Cond.methodLink RL 65 yX7_map ∈ gw_all := List.mem_filter.mpr ⟨mt_5 (List.mem_of_getElem? (i := 217) rfl), rfl⟩
set_option maxRecDepth 100000 in
theorem mw_1229 : Cond.instanceMethod yX7_map ∈ gw_all := List.mem_filter.mpr ⟨mt_5 (List.mem_of_getElem? (i := 218) rfl), rfl⟩
set_option maxRecDepth 100000 in
theorem mw_1230 : Cond.selects RX7 yX7_map yX7_map ∈ gw_all := List.mem_filter.mpr ⟨mt_5 (List.mem_of_getElem? (i := 219) rfl), rfl⟩
set_option maxRecDepth 100000 in
theorem mw_1231 : Cond.code yX7_map cX7_map 4 (some .int) ∈ gw_all := List.mem_filter.mpr ⟨mt_5 (List.mem_of_getElem? (i := 220) rfl), rfl⟩
set_option maxRecDepth 100000 in
theorem mw_1232 : Cond.constantLong RX7 155 8388607 ∈ gw_all := List.mem_filter.mpr ⟨mt_5 (List.mem_of_getElem? (i := 221) rfl), rfl⟩
set_option maxRecDepth 100000 in
theorem mw_1233 : Cond.constantLong RX7 157 100 ∈ gw_all := List.mem_filter.mpr ⟨mt_5 (List.mem_of_getElem? (i := 222) rfl), rfl⟩
set_option maxRecDepth 100000 in
theorem mw_1234 : Cond.methodLink RX7 159 yX7_tellMap ∈ gw_all := List.mem_filter.mpr ⟨mt_5 (List.mem_of_getElem? (i := 223) rfl), rfl⟩
set_option maxRecDepth 100000 in
theorem mw_1236 : Cond.instanceMethod yX7_tellMap ∈ gw_all := List.mem_filter.mpr ⟨mt_5 (List.mem_of_getElem? (i := 225) rfl), rfl⟩
set_option maxRecDepth 100000 in
theorem mw_1237 : Cond.code yX7_tellMap cX7_tellMap 6 (some .int) ∈ gw_all := List.mem_filter.mpr ⟨mt_5 (List.mem_of_getElem? (i := 226) rfl), rfl⟩
set_option maxRecDepth 100000 in
theorem mw_1238 : Cond.methodLink RL 69 yX7_adapt ∈ gw_all := List.mem_filter.mpr ⟨mt_5 (List.mem_of_getElem? (i := 227) rfl), rfl⟩
set_option maxRecDepth 100000 in
theorem mw_1239 : Cond.instanceMethod yX7_adapt ∈ gw_all := List.mem_filter.mpr ⟨mt_5 (List.mem_of_getElem? (i := 228) rfl), rfl⟩
set_option maxRecDepth 100000 in
theorem mw_1240 : Cond.selects RX7 yX7_adapt yX7_adapt ∈ gw_all := List.mem_filter.mpr ⟨mt_5 (List.mem_of_getElem? (i := 229) rfl), rfl⟩
set_option maxRecDepth 100000 in
theorem mw_1241 : Cond.code yX7_adapt cX7_adapt 8 (some .int) ∈ gw_all := List.mem_filter.mpr ⟨mt_5 (List.mem_of_getElem? (i := 230) rfl), rfl⟩
set_option maxRecDepth 100000 in
theorem mw_1242 : Cond.constantLong RX7 162 99 ∈ gw_all := List.mem_filter.mpr ⟨mt_5 (List.mem_of_getElem? (i := 231) rfl), rfl⟩
set_option maxRecDepth 100000 in
theorem mw_1243 : Cond.methodLink RX7 164 yX7_badOf ∈ gw_all := List.mem_filter.mpr ⟨mt_5 (List.mem_of_getElem? (i := 232) rfl), rfl⟩
set_option maxRecDepth 100000 in
theorem mw_1245 : Cond.instanceMethod yX7_badOf ∈ gw_all := List.mem_filter.mpr ⟨mt_5 (List.mem_of_getElem? (i := 234) rfl), rfl⟩
set_option maxRecDepth 100000 in
theorem mw_1246 : Cond.code yX7_badOf cX7_badOf 7 (some .int) ∈ gw_all := List.mem_filter.mpr ⟨mt_5 (List.mem_of_getElem? (i := 235) rfl), rfl⟩
set_option maxRecDepth 100000 in
theorem mw_1247 : Cond.methodLink RX7 167 yX7_aheadOf ∈ gw_all := List.mem_filter.mpr ⟨mt_5 (List.mem_of_getElem? (i := 236) rfl), rfl⟩
set_option maxRecDepth 100000 in
theorem mw_1249 : Cond.instanceMethod yX7_aheadOf ∈ gw_all := List.mem_filter.mpr ⟨mt_5 (List.mem_of_getElem? (i := 238) rfl), rfl⟩
set_option maxRecDepth 100000 in
theorem mw_1250 : Cond.code yX7_aheadOf cX7_aheadOf 6 (some .int) ∈ gw_all := List.mem_filter.mpr ⟨mt_5 (List.mem_of_getElem? (i := 239) rfl), rfl⟩
set_option maxRecDepth 100000 in
theorem mw_1251 : Cond.methodLink RL 73 yX7_run ∈ gw_all := List.mem_filter.mpr ⟨mt_6 (List.mem_of_getElem? (i := 0) rfl), rfl⟩
set_option maxRecDepth 100000 in
theorem mw_1252 : Cond.instanceMethod yX7_run ∈ gw_all := List.mem_filter.mpr ⟨mt_6 (List.mem_of_getElem? (i := 1) rfl), rfl⟩
set_option maxRecDepth 100000 in
theorem mw_1253 : Cond.selects RX7 yX7_run yX7_run ∈ gw_all := List.mem_filter.mpr ⟨mt_6 (List.mem_of_getElem? (i := 2) rfl), rfl⟩
set_option maxRecDepth 100000 in
theorem mw_1254 : Cond.code yX7_run cX7_run 2 (some .int) ∈ gw_all := List.mem_filter.mpr ⟨mt_6 (List.mem_of_getElem? (i := 3) rfl), rfl⟩
set_option maxRecDepth 100000 in
theorem mw_1255 : Cond.constantLong RX7 239 200 ∈ gw_all := List.mem_filter.mpr ⟨mt_6 (List.mem_of_getElem? (i := 4) rfl), rfl⟩
set_option maxRecDepth 100000 in
theorem mw_1256 : Cond.constant RX7 241 99998 ∈ gw_all := List.mem_filter.mpr ⟨mt_6 (List.mem_of_getElem? (i := 5) rfl), rfl⟩
set_option maxRecDepth 100000 in
theorem mw_1257 : Cond.methodLink RX7 242 yX7_turnsBy ∈ gw_all := List.mem_filter.mpr ⟨mt_6 (List.mem_of_getElem? (i := 6) rfl), rfl⟩
set_option maxRecDepth 100000 in
theorem mw_1259 : Cond.instanceMethod yX7_turnsBy ∈ gw_all := List.mem_filter.mpr ⟨mt_6 (List.mem_of_getElem? (i := 8) rfl), rfl⟩
set_option maxRecDepth 100000 in
theorem mw_1260 : Cond.code yX7_turnsBy cX7_turnsBy 3 none ∈ gw_all := List.mem_filter.mpr ⟨mt_6 (List.mem_of_getElem? (i := 9) rfl), rfl⟩
set_option maxRecDepth 100000 in
theorem mw_1261 : Cond.methodLink RX7 236 yX7_turn ∈ gw_all := List.mem_filter.mpr ⟨mt_6 (List.mem_of_getElem? (i := 10) rfl), rfl⟩
set_option maxRecDepth 100000 in
theorem mw_1263 : Cond.instanceMethod yX7_turn ∈ gw_all := List.mem_filter.mpr ⟨mt_6 (List.mem_of_getElem? (i := 12) rfl), rfl⟩
set_option maxRecDepth 100000 in
theorem mw_1264 : Cond.code yX7_turn cX7_turn 5 none ∈ gw_all := List.mem_filter.mpr ⟨mt_6 (List.mem_of_getElem? (i := 13) rfl), rfl⟩
set_option maxRecDepth 100000 in
theorem mw_1265 : Cond.methodLink RX7 218 yX7_mapsBecome ∈ gw_all := List.mem_filter.mpr ⟨mt_6 (List.mem_of_getElem? (i := 14) rfl), rfl⟩
set_option maxRecDepth 100000 in
theorem mw_1267 : Cond.instanceMethod yX7_mapsBecome ∈ gw_all := List.mem_filter.mpr ⟨mt_6 (List.mem_of_getElem? (i := 16) rfl), rfl⟩
set_option maxRecDepth 100000 in
theorem mw_1268 : Cond.code yX7_mapsBecome cX7_mapsBecome 5 none ∈ gw_all := List.mem_filter.mpr ⟨mt_6 (List.mem_of_getElem? (i := 17) rfl), rfl⟩
set_option maxRecDepth 100000 in
theorem mw_1269 : Cond.methodLink RX7 221 yX7_framesCome ∈ gw_all := List.mem_filter.mpr ⟨mt_6 (List.mem_of_getElem? (i := 18) rfl), rfl⟩
set_option maxRecDepth 100000 in
theorem mw_1271 : Cond.instanceMethod yX7_framesCome ∈ gw_all := List.mem_filter.mpr ⟨mt_6 (List.mem_of_getElem? (i := 20) rfl), rfl⟩
set_option maxRecDepth 100000 in
theorem mw_1272 : Cond.code yX7_framesCome cX7_framesCome 2 none ∈ gw_all := List.mem_filter.mpr ⟨mt_6 (List.mem_of_getElem? (i := 21) rfl), rfl⟩
set_option maxRecDepth 100000 in
theorem mw_1273 : Cond.methodLink RX7 182 yX7_isLinkHere ∈ gw_all := List.mem_filter.mpr ⟨mt_6 (List.mem_of_getElem? (i := 22) rfl), rfl⟩
set_option maxRecDepth 100000 in
theorem mw_1275 : Cond.instanceMethod yX7_isLinkHere ∈ gw_all := List.mem_filter.mpr ⟨mt_6 (List.mem_of_getElem? (i := 24) rfl), rfl⟩
set_option maxRecDepth 100000 in
theorem mw_1276 : Cond.code yX7_isLinkHere cX7_isLinkHere 3 (some .boolean) ∈ gw_all := List.mem_filter.mpr ⟨mt_6 (List.mem_of_getElem? (i := 25) rfl), rfl⟩
set_option maxRecDepth 100000 in
theorem mw_1277 : Cond.methodLink RX7 179 yX7_isReady ∈ gw_all := List.mem_filter.mpr ⟨mt_6 (List.mem_of_getElem? (i := 26) rfl), rfl⟩
set_option maxRecDepth 100000 in
theorem mw_1279 : Cond.instanceMethod yX7_isReady ∈ gw_all := List.mem_filter.mpr ⟨mt_6 (List.mem_of_getElem? (i := 28) rfl), rfl⟩
set_option maxRecDepth 100000 in
theorem mw_1280 : Cond.code yX7_isReady cX7_isReady 5 (some .boolean) ∈ gw_all := List.mem_filter.mpr ⟨mt_6 (List.mem_of_getElem? (i := 29) rfl), rfl⟩
set_option maxRecDepth 100000 in
theorem mw_1281 : Cond.methodLink RX7 176 yX7_isHere ∈ gw_all := List.mem_filter.mpr ⟨mt_6 (List.mem_of_getElem? (i := 30) rfl), rfl⟩
set_option maxRecDepth 100000 in
theorem mw_1283 : Cond.instanceMethod yX7_isHere ∈ gw_all := List.mem_filter.mpr ⟨mt_6 (List.mem_of_getElem? (i := 32) rfl), rfl⟩
set_option maxRecDepth 100000 in
theorem mw_1284 : Cond.code yX7_isHere cX7_isHere 4 (some .boolean) ∈ gw_all := List.mem_filter.mpr ⟨mt_6 (List.mem_of_getElem? (i := 33) rfl), rfl⟩
set_option maxRecDepth 100000 in
theorem mw_1285 : Cond.methodLink RX7 224 yX7_choose ∈ gw_all := List.mem_filter.mpr ⟨mt_6 (List.mem_of_getElem? (i := 34) rfl), rfl⟩
set_option maxRecDepth 100000 in
theorem mw_1287 : Cond.instanceMethod yX7_choose ∈ gw_all := List.mem_filter.mpr ⟨mt_6 (List.mem_of_getElem? (i := 36) rfl), rfl⟩
set_option maxRecDepth 100000 in
theorem mw_1288 : Cond.code yX7_choose cX7_choose 9 (some .int) ∈ gw_all := List.mem_filter.mpr ⟨mt_6 (List.mem_of_getElem? (i := 37) rfl), rfl⟩
set_option maxRecDepth 100000 in
theorem mw_1289 : Cond.methodLink RX7 227 yX7_sendsDown ∈ gw_all := List.mem_filter.mpr ⟨mt_6 (List.mem_of_getElem? (i := 38) rfl), rfl⟩
set_option maxRecDepth 100000 in
theorem mw_1291 : Cond.instanceMethod yX7_sendsDown ∈ gw_all := List.mem_filter.mpr ⟨mt_6 (List.mem_of_getElem? (i := 40) rfl), rfl⟩
set_option maxRecDepth 100000 in
theorem mw_1292 : Cond.code yX7_sendsDown cX7_sendsDown 5 none ∈ gw_all := List.mem_filter.mpr ⟨mt_6 (List.mem_of_getElem? (i := 41) rfl), rfl⟩
set_option maxRecDepth 100000 in
theorem mw_1293 : Cond.methodLink RX7 196 yX7_mapFor ∈ gw_all := List.mem_filter.mpr ⟨mt_6 (List.mem_of_getElem? (i := 42) rfl), rfl⟩
set_option maxRecDepth 100000 in
theorem mw_1295 : Cond.instanceMethod yX7_mapFor ∈ gw_all := List.mem_filter.mpr ⟨mt_6 (List.mem_of_getElem? (i := 44) rfl), rfl⟩
set_option maxRecDepth 100000 in
theorem mw_1296 : Cond.code yX7_mapFor cX7_mapFor 4 (some .int) ∈ gw_all := List.mem_filter.mpr ⟨mt_6 (List.mem_of_getElem? (i := 45) rfl), rfl⟩
set_option maxRecDepth 100000 in
theorem mw_1297 : Cond.methodLink RX7 199 yX7_casts ∈ gw_all := List.mem_filter.mpr ⟨mt_6 (List.mem_of_getElem? (i := 46) rfl), rfl⟩
set_option maxRecDepth 100000 in
theorem mw_1299 : Cond.instanceMethod yX7_casts ∈ gw_all := List.mem_filter.mpr ⟨mt_6 (List.mem_of_getElem? (i := 48) rfl), rfl⟩
set_option maxRecDepth 100000 in
theorem mw_1300 : Cond.code yX7_casts cX7_casts 6 none ∈ gw_all := List.mem_filter.mpr ⟨mt_6 (List.mem_of_getElem? (i := 49) rfl), rfl⟩
set_option maxRecDepth 100000 in
theorem mw_1301 : Cond.methodLink RX7 202 yX7_whyNot ∈ gw_all := List.mem_filter.mpr ⟨mt_6 (List.mem_of_getElem? (i := 50) rfl), rfl⟩
set_option maxRecDepth 100000 in
theorem mw_1303 : Cond.instanceMethod yX7_whyNot ∈ gw_all := List.mem_filter.mpr ⟨mt_6 (List.mem_of_getElem? (i := 52) rfl), rfl⟩
set_option maxRecDepth 100000 in
theorem mw_1304 : Cond.code yX7_whyNot cX7_whyNot 4 (some .int) ∈ gw_all := List.mem_filter.mpr ⟨mt_6 (List.mem_of_getElem? (i := 53) rfl), rfl⟩
set_option maxRecDepth 100000 in
theorem mw_1305 : Cond.methodLink RX7 185 yX7_draw ∈ gw_all := List.mem_filter.mpr ⟨mt_6 (List.mem_of_getElem? (i := 54) rfl), rfl⟩
set_option maxRecDepth 100000 in
theorem mw_1307 : Cond.instanceMethod yX7_draw ∈ gw_all := List.mem_filter.mpr ⟨mt_6 (List.mem_of_getElem? (i := 56) rfl), rfl⟩
set_option maxRecDepth 100000 in
theorem mw_1308 : Cond.code yX7_draw cX7_draw 1 (some .int) ∈ gw_all := List.mem_filter.mpr ⟨mt_6 (List.mem_of_getElem? (i := 57) rfl), rfl⟩
set_option maxRecDepth 100000 in
theorem mw_1309 : Cond.constantLong RX7 170 1103 ∈ gw_all := List.mem_filter.mpr ⟨mt_6 (List.mem_of_getElem? (i := 58) rfl), rfl⟩
set_option maxRecDepth 100000 in
theorem mw_1310 : Cond.constantLong RX7 172 12345 ∈ gw_all := List.mem_filter.mpr ⟨mt_6 (List.mem_of_getElem? (i := 59) rfl), rfl⟩
set_option maxRecDepth 100000 in
theorem mw_1311 : Cond.constantLong RX7 174 1000003 ∈ gw_all := List.mem_filter.mpr ⟨mt_6 (List.mem_of_getElem? (i := 60) rfl), rfl⟩
set_option maxRecDepth 100000 in
theorem mw_1312 : Cond.methodLink RX7 205 yX7_memberHears ∈ gw_all := List.mem_filter.mpr ⟨mt_6 (List.mem_of_getElem? (i := 61) rfl), rfl⟩
set_option maxRecDepth 100000 in
theorem mw_1314 : Cond.instanceMethod yX7_memberHears ∈ gw_all := List.mem_filter.mpr ⟨mt_6 (List.mem_of_getElem? (i := 63) rfl), rfl⟩
set_option maxRecDepth 100000 in
theorem mw_1315 : Cond.code yX7_memberHears cX7_memberHears 4 none ∈ gw_all := List.mem_filter.mpr ⟨mt_6 (List.mem_of_getElem? (i := 64) rfl), rfl⟩
set_option maxRecDepth 100000 in
theorem mw_1316 : Cond.methodLink RX7 209 yX7_hears ∈ gw_all := List.mem_filter.mpr ⟨mt_6 (List.mem_of_getElem? (i := 65) rfl), rfl⟩
set_option maxRecDepth 100000 in
theorem mw_1318 : Cond.instanceMethod yX7_hears ∈ gw_all := List.mem_filter.mpr ⟨mt_6 (List.mem_of_getElem? (i := 67) rfl), rfl⟩
set_option maxRecDepth 100000 in
theorem mw_1319 : Cond.code yX7_hears cX7_hears 6 none ∈ gw_all := List.mem_filter.mpr ⟨mt_6 (List.mem_of_getElem? (i := 68) rfl), rfl⟩
set_option maxRecDepth 100000 in
theorem mw_1320 : Cond.methodLink RX7 192 yX7_passes ∈ gw_all := List.mem_filter.mpr ⟨mt_6 (List.mem_of_getElem? (i := 69) rfl), rfl⟩
set_option maxRecDepth 100000 in
theorem mw_1322 : Cond.instanceMethod yX7_passes ∈ gw_all := List.mem_filter.mpr ⟨mt_6 (List.mem_of_getElem? (i := 71) rfl), rfl⟩
set_option maxRecDepth 100000 in
theorem mw_1323 : Cond.code yX7_passes cX7_passes 7 none ∈ gw_all := List.mem_filter.mpr ⟨mt_6 (List.mem_of_getElem? (i := 72) rfl), rfl⟩
set_option maxRecDepth 100000 in
theorem mw_1324 : Cond.methodLink RX7 212 yX7_goes ∈ gw_all := List.mem_filter.mpr ⟨mt_6 (List.mem_of_getElem? (i := 73) rfl), rfl⟩
set_option maxRecDepth 100000 in
theorem mw_1326 : Cond.instanceMethod yX7_goes ∈ gw_all := List.mem_filter.mpr ⟨mt_6 (List.mem_of_getElem? (i := 75) rfl), rfl⟩
set_option maxRecDepth 100000 in
theorem mw_1327 : Cond.code yX7_goes cX7_goes 8 none ∈ gw_all := List.mem_filter.mpr ⟨mt_6 (List.mem_of_getElem? (i := 76) rfl), rfl⟩
set_option maxRecDepth 100000 in
theorem mw_1328 : Cond.methodLink RX7 230 yX7_sendsUp ∈ gw_all := List.mem_filter.mpr ⟨mt_6 (List.mem_of_getElem? (i := 77) rfl), rfl⟩
set_option maxRecDepth 100000 in
theorem mw_1330 : Cond.instanceMethod yX7_sendsUp ∈ gw_all := List.mem_filter.mpr ⟨mt_6 (List.mem_of_getElem? (i := 79) rfl), rfl⟩
set_option maxRecDepth 100000 in
theorem mw_1331 : Cond.code yX7_sendsUp cX7_sendsUp 4 none ∈ gw_all := List.mem_filter.mpr ⟨mt_6 (List.mem_of_getElem? (i := 80) rfl), rfl⟩
set_option maxRecDepth 100000 in
theorem mw_1332 : Cond.methodLink RX7 215 yX7_masterHears ∈ gw_all := List.mem_filter.mpr ⟨mt_6 (List.mem_of_getElem? (i := 81) rfl), rfl⟩
set_option maxRecDepth 100000 in
theorem mw_1334 : Cond.instanceMethod yX7_masterHears ∈ gw_all := List.mem_filter.mpr ⟨mt_6 (List.mem_of_getElem? (i := 83) rfl), rfl⟩
set_option maxRecDepth 100000 in
theorem mw_1335 : Cond.code yX7_masterHears cX7_masterHears 3 none ∈ gw_all := List.mem_filter.mpr ⟨mt_6 (List.mem_of_getElem? (i := 84) rfl), rfl⟩
set_option maxRecDepth 100000 in
theorem mw_1336 : Cond.methodLink RL 98 yX7_alike ∈ gw_all := List.mem_filter.mpr ⟨mt_6 (List.mem_of_getElem? (i := 85) rfl), rfl⟩
set_option maxRecDepth 100000 in
theorem mw_1337 : Cond.instanceMethod yX7_alike ∈ gw_all := List.mem_filter.mpr ⟨mt_6 (List.mem_of_getElem? (i := 86) rfl), rfl⟩
set_option maxRecDepth 100000 in
theorem mw_1338 : Cond.selects RX7 yX7_alike yX7_alike ∈ gw_all := List.mem_filter.mpr ⟨mt_6 (List.mem_of_getElem? (i := 87) rfl), rfl⟩
set_option maxRecDepth 100000 in
theorem mw_1339 : Cond.code yX7_alike cX7_alike 8 (some .int) ∈ gw_all := List.mem_filter.mpr ⟨mt_6 (List.mem_of_getElem? (i := 88) rfl), rfl⟩
set_option maxRecDepth 100000 in
theorem mw_1340 : Cond.methodLink RL 102 yX7_mapOf ∈ gw_all := List.mem_filter.mpr ⟨mt_6 (List.mem_of_getElem? (i := 89) rfl), rfl⟩
set_option maxRecDepth 100000 in
theorem mw_1341 : Cond.instanceMethod yX7_mapOf ∈ gw_all := List.mem_filter.mpr ⟨mt_6 (List.mem_of_getElem? (i := 90) rfl), rfl⟩
set_option maxRecDepth 100000 in
theorem mw_1342 : Cond.selects RX7 yX7_mapOf yX7_mapOf ∈ gw_all := List.mem_filter.mpr ⟨mt_6 (List.mem_of_getElem? (i := 91) rfl), rfl⟩
set_option maxRecDepth 100000 in
theorem mw_1343 : Cond.code yX7_mapOf cX7_mapOf 5 (some .int) ∈ gw_all := List.mem_filter.mpr ⟨mt_6 (List.mem_of_getElem? (i := 92) rfl), rfl⟩
set_option maxRecDepth 100000 in
theorem mw_1344 : Cond.methodLink RL 106 yX7_meets ∈ gw_all := List.mem_filter.mpr ⟨mt_6 (List.mem_of_getElem? (i := 93) rfl), rfl⟩
set_option maxRecDepth 100000 in
theorem mw_1345 : Cond.instanceMethod yX7_meets ∈ gw_all := List.mem_filter.mpr ⟨mt_6 (List.mem_of_getElem? (i := 94) rfl), rfl⟩
set_option maxRecDepth 100000 in
theorem mw_1346 : Cond.selects RX7 yX7_meets yX7_meets ∈ gw_all := List.mem_filter.mpr ⟨mt_6 (List.mem_of_getElem? (i := 95) rfl), rfl⟩
set_option maxRecDepth 100000 in
theorem mw_1347 : Cond.code yX7_meets cX7_meets 2 (some .int) ∈ gw_all := List.mem_filter.mpr ⟨mt_6 (List.mem_of_getElem? (i := 96) rfl), rfl⟩
set_option maxRecDepth 100000 in
theorem mw_1348 : Cond.methodLink RL 110 yX7_used ∈ gw_all := List.mem_filter.mpr ⟨mt_6 (List.mem_of_getElem? (i := 97) rfl), rfl⟩
set_option maxRecDepth 100000 in
theorem mw_1349 : Cond.instanceMethod yX7_used ∈ gw_all := List.mem_filter.mpr ⟨mt_6 (List.mem_of_getElem? (i := 98) rfl), rfl⟩
set_option maxRecDepth 100000 in
theorem mw_1350 : Cond.selects RX7 yX7_used yX7_used ∈ gw_all := List.mem_filter.mpr ⟨mt_6 (List.mem_of_getElem? (i := 99) rfl), rfl⟩
set_option maxRecDepth 100000 in
theorem mw_1351 : Cond.code yX7_used cX7_used 6 (some .int) ∈ gw_all := List.mem_filter.mpr ⟨mt_6 (List.mem_of_getElem? (i := 100) rfl), rfl⟩
set_option maxRecDepth 100000 in
theorem mw_1352 : Cond.constantLong RX7 245 512 ∈ gw_all := List.mem_filter.mpr ⟨mt_6 (List.mem_of_getElem? (i := 101) rfl), rfl⟩
set_option maxRecDepth 100000 in
theorem mw_1353 : Cond.methodLink RL 114 yX7_bad ∈ gw_all := List.mem_filter.mpr ⟨mt_6 (List.mem_of_getElem? (i := 102) rfl), rfl⟩
set_option maxRecDepth 100000 in
theorem mw_1354 : Cond.instanceMethod yX7_bad ∈ gw_all := List.mem_filter.mpr ⟨mt_6 (List.mem_of_getElem? (i := 103) rfl), rfl⟩
set_option maxRecDepth 100000 in
theorem mw_1355 : Cond.selects RX7 yX7_bad yX7_bad ∈ gw_all := List.mem_filter.mpr ⟨mt_6 (List.mem_of_getElem? (i := 104) rfl), rfl⟩
set_option maxRecDepth 100000 in
theorem mw_1356 : Cond.code yX7_bad cX7_bad 3 (some .int) ∈ gw_all := List.mem_filter.mpr ⟨mt_6 (List.mem_of_getElem? (i := 105) rfl), rfl⟩
set_option maxRecDepth 100000 in
theorem mw_1357 : Cond.methodLink RL 118 yX7_sent ∈ gw_all := List.mem_filter.mpr ⟨mt_6 (List.mem_of_getElem? (i := 106) rfl), rfl⟩
set_option maxRecDepth 100000 in
theorem mw_1358 : Cond.instanceMethod yX7_sent ∈ gw_all := List.mem_filter.mpr ⟨mt_6 (List.mem_of_getElem? (i := 107) rfl), rfl⟩
set_option maxRecDepth 100000 in
theorem mw_1359 : Cond.selects RX7 yX7_sent yX7_sent ∈ gw_all := List.mem_filter.mpr ⟨mt_6 (List.mem_of_getElem? (i := 108) rfl), rfl⟩
set_option maxRecDepth 100000 in
theorem mw_1360 : Cond.code yX7_sent cX7_sent 4 (some .int) ∈ gw_all := List.mem_filter.mpr ⟨mt_6 (List.mem_of_getElem? (i := 109) rfl), rfl⟩
set_option maxRecDepth 100000 in
theorem mw_1361 : Cond.methodLink RL 122 yX7_link ∈ gw_all := List.mem_filter.mpr ⟨mt_6 (List.mem_of_getElem? (i := 110) rfl), rfl⟩
set_option maxRecDepth 100000 in
theorem mw_1362 : Cond.instanceMethod yX7_link ∈ gw_all := List.mem_filter.mpr ⟨mt_6 (List.mem_of_getElem? (i := 111) rfl), rfl⟩
set_option maxRecDepth 100000 in
theorem mw_1363 : Cond.selects RX7 yX7_link yX7_link ∈ gw_all := List.mem_filter.mpr ⟨mt_6 (List.mem_of_getElem? (i := 112) rfl), rfl⟩
set_option maxRecDepth 100000 in
theorem mw_1364 : Cond.code yX7_link cX7_link 5 (some .int) ∈ gw_all := List.mem_filter.mpr ⟨mt_6 (List.mem_of_getElem? (i := 113) rfl), rfl⟩
set_option maxRecDepth 100000 in
theorem mw_1365 : Cond.methodLink RL 126 yX7_hash ∈ gw_all := List.mem_filter.mpr ⟨mt_6 (List.mem_of_getElem? (i := 114) rfl), rfl⟩
set_option maxRecDepth 100000 in
theorem mw_1366 : Cond.instanceMethod yX7_hash ∈ gw_all := List.mem_filter.mpr ⟨mt_6 (List.mem_of_getElem? (i := 115) rfl), rfl⟩
set_option maxRecDepth 100000 in
theorem mw_1367 : Cond.selects RX7 yX7_hash yX7_hash ∈ gw_all := List.mem_filter.mpr ⟨mt_6 (List.mem_of_getElem? (i := 116) rfl), rfl⟩
set_option maxRecDepth 100000 in
theorem mw_1368 : Cond.code yX7_hash cX7_hash 4 (some .int) ∈ gw_all := List.mem_filter.mpr ⟨mt_6 (List.mem_of_getElem? (i := 117) rfl), rfl⟩
set_option maxRecDepth 100000 in
theorem mw_1369 : Cond.methodLink RL 130 yX7_reserved ∈ gw_all := List.mem_filter.mpr ⟨mt_6 (List.mem_of_getElem? (i := 118) rfl), rfl⟩
set_option maxRecDepth 100000 in
theorem mw_1370 : Cond.instanceMethod yX7_reserved ∈ gw_all := List.mem_filter.mpr ⟨mt_6 (List.mem_of_getElem? (i := 119) rfl), rfl⟩
set_option maxRecDepth 100000 in
theorem mw_1371 : Cond.selects RX7 yX7_reserved yX7_reserved ∈ gw_all := List.mem_filter.mpr ⟨mt_6 (List.mem_of_getElem? (i := 120) rfl), rfl⟩
set_option maxRecDepth 100000 in
theorem mw_1372 : Cond.code yX7_reserved cX7_reserved 4 (some .int) ∈ gw_all := List.mem_filter.mpr ⟨mt_6 (List.mem_of_getElem? (i := 121) rfl), rfl⟩
set_option maxRecDepth 100000 in
theorem mw_1373 : Cond.constantLong RX7 247 5 ∈ gw_all := List.mem_filter.mpr ⟨mt_6 (List.mem_of_getElem? (i := 122) rfl), rfl⟩
set_option maxRecDepth 100000 in
theorem mw_1374 : Cond.methodLink RL 134 yX7_isThere ∈ gw_all := List.mem_filter.mpr ⟨mt_6 (List.mem_of_getElem? (i := 123) rfl), rfl⟩
set_option maxRecDepth 100000 in
theorem mw_1375 : Cond.instanceMethod yX7_isThere ∈ gw_all := List.mem_filter.mpr ⟨mt_6 (List.mem_of_getElem? (i := 124) rfl), rfl⟩
set_option maxRecDepth 100000 in
theorem mw_1376 : Cond.selects RX7 yX7_isThere yX7_isThere ∈ gw_all := List.mem_filter.mpr ⟨mt_6 (List.mem_of_getElem? (i := 125) rfl), rfl⟩
set_option maxRecDepth 100000 in
theorem mw_1377 : Cond.code yX7_isThere cX7_isThere 4 (some .int) ∈ gw_all := List.mem_filter.mpr ⟨mt_6 (List.mem_of_getElem? (i := 126) rfl), rfl⟩
set_option maxRecDepth 100000 in
theorem mw_1378 : Cond.methodLink RL 138 yX7_odds ∈ gw_all := List.mem_filter.mpr ⟨mt_6 (List.mem_of_getElem? (i := 127) rfl), rfl⟩
set_option maxRecDepth 100000 in
theorem mw_1379 : Cond.instanceMethod yX7_odds ∈ gw_all := List.mem_filter.mpr ⟨mt_6 (List.mem_of_getElem? (i := 128) rfl), rfl⟩
set_option maxRecDepth 100000 in
theorem mw_1380 : Cond.selects RX7 yX7_odds yX7_odds ∈ gw_all := List.mem_filter.mpr ⟨mt_6 (List.mem_of_getElem? (i := 129) rfl), rfl⟩
set_option maxRecDepth 100000 in
theorem mw_1381 : Cond.code yX7_odds cX7_odds 8 (some .int) ∈ gw_all := List.mem_filter.mpr ⟨mt_6 (List.mem_of_getElem? (i := 130) rfl), rfl⟩
set_option maxRecDepth 100000 in
theorem mw_1382 : Cond.constantLong RX7 249 64 ∈ gw_all := List.mem_filter.mpr ⟨mt_6 (List.mem_of_getElem? (i := 131) rfl), rfl⟩
set_option maxRecDepth 100000 in
theorem mw_1383 : Cond.methodLink RX7 251 yX7_chance ∈ gw_all := List.mem_filter.mpr ⟨mt_6 (List.mem_of_getElem? (i := 132) rfl), rfl⟩
set_option maxRecDepth 100000 in
theorem mw_1385 : Cond.instanceMethod yX7_chance ∈ gw_all := List.mem_filter.mpr ⟨mt_6 (List.mem_of_getElem? (i := 134) rfl), rfl⟩
set_option maxRecDepth 100000 in
theorem mw_1386 : Cond.code yX7_chance cX7_chance 5 (some .int) ∈ gw_all := List.mem_filter.mpr ⟨mt_6 (List.mem_of_getElem? (i := 135) rfl), rfl⟩
set_option maxRecDepth 100000 in
theorem mw_1387 : Cond.methodLink RX7 254 yX7_common ∈ gw_all := List.mem_filter.mpr ⟨mt_6 (List.mem_of_getElem? (i := 136) rfl), rfl⟩
set_option maxRecDepth 100000 in
theorem mw_1388 : Cond.static yX7_common ∈ gw_all := List.mem_filter.mpr ⟨mt_6 (List.mem_of_getElem? (i := 137) rfl), rfl⟩
set_option maxRecDepth 100000 in
theorem mw_1389 : Cond.code yX7_common cX7_common 5 (some .int) ∈ gw_all := List.mem_filter.mpr ⟨mt_6 (List.mem_of_getElem? (i := 138) rfl), rfl⟩
set_option maxRecDepth 100000 in
theorem mw_1390 : Cond.methodLink RL 142 yX7_clashes ∈ gw_all := List.mem_filter.mpr ⟨mt_6 (List.mem_of_getElem? (i := 139) rfl), rfl⟩
set_option maxRecDepth 100000 in
theorem mw_1391 : Cond.instanceMethod yX7_clashes ∈ gw_all := List.mem_filter.mpr ⟨mt_6 (List.mem_of_getElem? (i := 140) rfl), rfl⟩
set_option maxRecDepth 100000 in
theorem mw_1392 : Cond.selects RX7 yX7_clashes yX7_clashes ∈ gw_all := List.mem_filter.mpr ⟨mt_6 (List.mem_of_getElem? (i := 141) rfl), rfl⟩
set_option maxRecDepth 100000 in
theorem mw_1393 : Cond.code yX7_clashes cX7_clashes 2 (some .int) ∈ gw_all := List.mem_filter.mpr ⟨mt_6 (List.mem_of_getElem? (i := 142) rfl), rfl⟩
set_option maxRecDepth 100000 in
theorem mw_1394 : Cond.methodLink RX7 257 yX7_areBoth ∈ gw_all := List.mem_filter.mpr ⟨mt_6 (List.mem_of_getElem? (i := 143) rfl), rfl⟩
set_option maxRecDepth 100000 in
theorem mw_1396 : Cond.instanceMethod yX7_areBoth ∈ gw_all := List.mem_filter.mpr ⟨mt_6 (List.mem_of_getElem? (i := 145) rfl), rfl⟩
set_option maxRecDepth 100000 in
theorem mw_1397 : Cond.code yX7_areBoth cX7_areBoth 2 (some .boolean) ∈ gw_all := List.mem_filter.mpr ⟨mt_6 (List.mem_of_getElem? (i := 146) rfl), rfl⟩
set_option maxRecDepth 100000 in
theorem mw_1398 : Cond.methodLink RX7 260 yX7_clashesBy ∈ gw_all := List.mem_filter.mpr ⟨mt_6 (List.mem_of_getElem? (i := 147) rfl), rfl⟩
set_option maxRecDepth 100000 in
theorem mw_1400 : Cond.instanceMethod yX7_clashesBy ∈ gw_all := List.mem_filter.mpr ⟨mt_6 (List.mem_of_getElem? (i := 149) rfl), rfl⟩
set_option maxRecDepth 100000 in
theorem mw_1401 : Cond.code yX7_clashesBy cX7_clashesBy 5 (some .int) ∈ gw_all := List.mem_filter.mpr ⟨mt_6 (List.mem_of_getElem? (i := 150) rfl), rfl⟩
set_option maxRecDepth 100000 in
theorem mw_1402 : Cond.methodLink RL 146 yX7_bestOffset ∈ gw_all := List.mem_filter.mpr ⟨mt_6 (List.mem_of_getElem? (i := 151) rfl), rfl⟩
set_option maxRecDepth 100000 in
theorem mw_1403 : Cond.instanceMethod yX7_bestOffset ∈ gw_all := List.mem_filter.mpr ⟨mt_6 (List.mem_of_getElem? (i := 152) rfl), rfl⟩
set_option maxRecDepth 100000 in
theorem mw_1404 : Cond.selects RX7 yX7_bestOffset yX7_bestOffset ∈ gw_all := List.mem_filter.mpr ⟨mt_6 (List.mem_of_getElem? (i := 153) rfl), rfl⟩
set_option maxRecDepth 100000 in
theorem mw_1405 : Cond.code yX7_bestOffset cX7_bestOffset 8 (some .int) ∈ gw_all := List.mem_filter.mpr ⟨mt_6 (List.mem_of_getElem? (i := 154) rfl), rfl⟩
set_option maxRecDepth 100000 in
theorem mw_1406 : Cond.methodLink RL 158 yX7_ready ∈ gw_all := List.mem_filter.mpr ⟨mt_6 (List.mem_of_getElem? (i := 155) rfl), rfl⟩
set_option maxRecDepth 100000 in
theorem mw_1407 : Cond.instanceMethod yX7_ready ∈ gw_all := List.mem_filter.mpr ⟨mt_6 (List.mem_of_getElem? (i := 156) rfl), rfl⟩
set_option maxRecDepth 100000 in
theorem mw_1408 : Cond.selects RX7 yX7_ready yX7_ready ∈ gw_all := List.mem_filter.mpr ⟨mt_6 (List.mem_of_getElem? (i := 157) rfl), rfl⟩
set_option maxRecDepth 100000 in
theorem mw_1409 : Cond.code yX7_ready cX7_ready 5 (some .int) ∈ gw_all := List.mem_filter.mpr ⟨mt_6 (List.mem_of_getElem? (i := 158) rfl), rfl⟩
set_option maxRecDepth 100000 in
theorem mw_1410 : Cond.methodLink RL 162 yX7_bothReady ∈ gw_all := List.mem_filter.mpr ⟨mt_6 (List.mem_of_getElem? (i := 159) rfl), rfl⟩
set_option maxRecDepth 100000 in
theorem mw_1411 : Cond.instanceMethod yX7_bothReady ∈ gw_all := List.mem_filter.mpr ⟨mt_6 (List.mem_of_getElem? (i := 160) rfl), rfl⟩
set_option maxRecDepth 100000 in
theorem mw_1412 : Cond.selects RX7 yX7_bothReady yX7_bothReady ∈ gw_all := List.mem_filter.mpr ⟨mt_6 (List.mem_of_getElem? (i := 161) rfl), rfl⟩
set_option maxRecDepth 100000 in
theorem mw_1413 : Cond.code yX7_bothReady cX7_bothReady 8 (some .int) ∈ gw_all := List.mem_filter.mpr ⟨mt_6 (List.mem_of_getElem? (i := 162) rfl), rfl⟩
set_option maxRecDepth 100000 in
theorem mw_1414 : Cond.methodLink RL 166 yX7_ahead ∈ gw_all := List.mem_filter.mpr ⟨mt_6 (List.mem_of_getElem? (i := 163) rfl), rfl⟩
set_option maxRecDepth 100000 in
theorem mw_1415 : Cond.instanceMethod yX7_ahead ∈ gw_all := List.mem_filter.mpr ⟨mt_6 (List.mem_of_getElem? (i := 164) rfl), rfl⟩
set_option maxRecDepth 100000 in
theorem mw_1416 : Cond.selects RX7 yX7_ahead yX7_ahead ∈ gw_all := List.mem_filter.mpr ⟨mt_6 (List.mem_of_getElem? (i := 165) rfl), rfl⟩
set_option maxRecDepth 100000 in
theorem mw_1417 : Cond.code yX7_ahead cX7_ahead 3 (some .int) ∈ gw_all := List.mem_filter.mpr ⟨mt_6 (List.mem_of_getElem? (i := 166) rfl), rfl⟩
set_option maxRecDepth 100000 in
theorem mw_1418 : Cond.methodLink RX7 263 yX7_canTurn ∈ gw_all := List.mem_filter.mpr ⟨mt_6 (List.mem_of_getElem? (i := 167) rfl), rfl⟩
set_option maxRecDepth 100000 in
theorem mw_1420 : Cond.instanceMethod yX7_canTurn ∈ gw_all := List.mem_filter.mpr ⟨mt_6 (List.mem_of_getElem? (i := 169) rfl), rfl⟩
set_option maxRecDepth 100000 in
theorem mw_1421 : Cond.code yX7_canTurn cX7_canTurn 2 (some .boolean) ∈ gw_all := List.mem_filter.mpr ⟨mt_6 (List.mem_of_getElem? (i := 170) rfl), rfl⟩
set_option maxRecDepth 100000 in
theorem mw_1422 : Cond.methodLink RL 170 yX7_together ∈ gw_all := List.mem_filter.mpr ⟨mt_6 (List.mem_of_getElem? (i := 171) rfl), rfl⟩
set_option maxRecDepth 100000 in
theorem mw_1423 : Cond.instanceMethod yX7_together ∈ gw_all := List.mem_filter.mpr ⟨mt_6 (List.mem_of_getElem? (i := 172) rfl), rfl⟩
set_option maxRecDepth 100000 in
theorem mw_1424 : Cond.selects RX7 yX7_together yX7_together ∈ gw_all := List.mem_filter.mpr ⟨mt_6 (List.mem_of_getElem? (i := 173) rfl), rfl⟩
set_option maxRecDepth 100000 in
theorem mw_1425 : Cond.code yX7_together cX7_together 6 (some .int) ∈ gw_all := List.mem_filter.mpr ⟨mt_6 (List.mem_of_getElem? (i := 174) rfl), rfl⟩
set_option maxRecDepth 100000 in
theorem mw_1426 : Cond.methodLink RX7 266 yX7_comesAt ∈ gw_all := List.mem_filter.mpr ⟨mt_6 (List.mem_of_getElem? (i := 175) rfl), rfl⟩
set_option maxRecDepth 100000 in
theorem mw_1428 : Cond.instanceMethod yX7_comesAt ∈ gw_all := List.mem_filter.mpr ⟨mt_6 (List.mem_of_getElem? (i := 177) rfl), rfl⟩
set_option maxRecDepth 100000 in
theorem mw_1429 : Cond.code yX7_comesAt cX7_comesAt 3 (some .boolean) ∈ gw_all := List.mem_filter.mpr ⟨mt_6 (List.mem_of_getElem? (i := 178) rfl), rfl⟩
set_option maxRecDepth 100000 in
theorem mw_1430 : Cond.methodLink RL 174 yX7_ranked ∈ gw_all := List.mem_filter.mpr ⟨mt_6 (List.mem_of_getElem? (i := 179) rfl), rfl⟩
set_option maxRecDepth 100000 in
theorem mw_1431 : Cond.instanceMethod yX7_ranked ∈ gw_all := List.mem_filter.mpr ⟨mt_6 (List.mem_of_getElem? (i := 180) rfl), rfl⟩
set_option maxRecDepth 100000 in
theorem mw_1432 : Cond.selects RX7 yX7_ranked yX7_ranked ∈ gw_all := List.mem_filter.mpr ⟨mt_6 (List.mem_of_getElem? (i := 181) rfl), rfl⟩
set_option maxRecDepth 100000 in
theorem mw_1433 : Cond.code yX7_ranked cX7_ranked 7 (some .int) ∈ gw_all := List.mem_filter.mpr ⟨mt_6 (List.mem_of_getElem? (i := 182) rfl), rfl⟩
set_option maxRecDepth 100000 in
theorem mw_1434 : Cond.methodLink RX7 269 yX7_isAhead ∈ gw_all := List.mem_filter.mpr ⟨mt_6 (List.mem_of_getElem? (i := 183) rfl), rfl⟩
set_option maxRecDepth 100000 in
theorem mw_1436 : Cond.instanceMethod yX7_isAhead ∈ gw_all := List.mem_filter.mpr ⟨mt_6 (List.mem_of_getElem? (i := 185) rfl), rfl⟩
set_option maxRecDepth 100000 in
theorem mw_1437 : Cond.code yX7_isAhead cX7_isAhead 8 (some .boolean) ∈ gw_all := List.mem_filter.mpr ⟨mt_6 (List.mem_of_getElem? (i := 186) rfl), rfl⟩
set_option maxRecDepth 100000 in
theorem mw_1438 : Cond.methodLink RL 178 yX7_quiet ∈ gw_all := List.mem_filter.mpr ⟨mt_6 (List.mem_of_getElem? (i := 187) rfl), rfl⟩
set_option maxRecDepth 100000 in
theorem mw_1439 : Cond.instanceMethod yX7_quiet ∈ gw_all := List.mem_filter.mpr ⟨mt_6 (List.mem_of_getElem? (i := 188) rfl), rfl⟩
set_option maxRecDepth 100000 in
theorem mw_1440 : Cond.selects RX7 yX7_quiet yX7_quiet ∈ gw_all := List.mem_filter.mpr ⟨mt_6 (List.mem_of_getElem? (i := 189) rfl), rfl⟩
set_option maxRecDepth 100000 in
theorem mw_1441 : Cond.code yX7_quiet cX7_quiet 5 (some .int) ∈ gw_all := List.mem_filter.mpr ⟨mt_6 (List.mem_of_getElem? (i := 190) rfl), rfl⟩
set_option maxRecDepth 100000 in
theorem mw_1442 : Cond.constantLong RX7 272 9999 ∈ gw_all := List.mem_filter.mpr ⟨mt_6 (List.mem_of_getElem? (i := 191) rfl), rfl⟩
set_option maxRecDepth 100000 in
theorem mw_1443 : Cond.methodLink RL 150 yX7_drain ∈ gw_all := List.mem_filter.mpr ⟨mt_6 (List.mem_of_getElem? (i := 192) rfl), rfl⟩
set_option maxRecDepth 100000 in
theorem mw_1444 : Cond.instanceMethod yX7_drain ∈ gw_all := List.mem_filter.mpr ⟨mt_6 (List.mem_of_getElem? (i := 193) rfl), rfl⟩
set_option maxRecDepth 100000 in
theorem mw_1445 : Cond.selects RX7 yX7_drain yX7_drain ∈ gw_all := List.mem_filter.mpr ⟨mt_6 (List.mem_of_getElem? (i := 194) rfl), rfl⟩
set_option maxRecDepth 100000 in
theorem mw_1446 : Cond.code yX7_drain cX7_drain 5 (some .int) ∈ gw_all := List.mem_filter.mpr ⟨mt_6 (List.mem_of_getElem? (i := 195) rfl), rfl⟩
set_option maxRecDepth 100000 in
theorem mw_1447 : Cond.methodLink RX7 274 yX7_isEmpty ∈ gw_all := List.mem_filter.mpr ⟨mt_6 (List.mem_of_getElem? (i := 196) rfl), rfl⟩
set_option maxRecDepth 100000 in
theorem mw_1449 : Cond.instanceMethod yX7_isEmpty ∈ gw_all := List.mem_filter.mpr ⟨mt_6 (List.mem_of_getElem? (i := 198) rfl), rfl⟩
set_option maxRecDepth 100000 in
theorem mw_1450 : Cond.code yX7_isEmpty cX7_isEmpty 4 (some .boolean) ∈ gw_all := List.mem_filter.mpr ⟨mt_6 (List.mem_of_getElem? (i := 199) rfl), rfl⟩
set_option maxRecDepth 100000 in
theorem mw_1451 : Cond.methodLink RL 154 yX7_would ∈ gw_all := List.mem_filter.mpr ⟨mt_6 (List.mem_of_getElem? (i := 200) rfl), rfl⟩
set_option maxRecDepth 100000 in
theorem mw_1452 : Cond.instanceMethod yX7_would ∈ gw_all := List.mem_filter.mpr ⟨mt_6 (List.mem_of_getElem? (i := 201) rfl), rfl⟩
set_option maxRecDepth 100000 in
theorem mw_1453 : Cond.selects RX7 yX7_would yX7_would ∈ gw_all := List.mem_filter.mpr ⟨mt_6 (List.mem_of_getElem? (i := 202) rfl), rfl⟩
set_option maxRecDepth 100000 in
theorem mw_1454 : Cond.code yX7_would cX7_would 4 (some .int) ∈ gw_all := List.mem_filter.mpr ⟨mt_6 (List.mem_of_getElem? (i := 203) rfl), rfl⟩
set_option maxRecDepth 100000 in
theorem mw_1455 : Cond.methodLink RX7 280 yX7_tries ∈ gw_all := List.mem_filter.mpr ⟨mt_6 (List.mem_of_getElem? (i := 204) rfl), rfl⟩
set_option maxRecDepth 100000 in
theorem mw_1457 : Cond.instanceMethod yX7_tries ∈ gw_all := List.mem_filter.mpr ⟨mt_6 (List.mem_of_getElem? (i := 206) rfl), rfl⟩
set_option maxRecDepth 100000 in
theorem mw_1458 : Cond.code yX7_tries cX7_tries 5 (some .int) ∈ gw_all := List.mem_filter.mpr ⟨mt_6 (List.mem_of_getElem? (i := 207) rfl), rfl⟩
set_option maxRecDepth 100000 in
theorem mw_1459 : Cond.methodLink RX7 277 yX7_otherMaps ∈ gw_all := List.mem_filter.mpr ⟨mt_6 (List.mem_of_getElem? (i := 208) rfl), rfl⟩
set_option maxRecDepth 100000 in
theorem mw_1461 : Cond.instanceMethod yX7_otherMaps ∈ gw_all := List.mem_filter.mpr ⟨mt_6 (List.mem_of_getElem? (i := 210) rfl), rfl⟩
set_option maxRecDepth 100000 in
theorem mw_1462 : Cond.code yX7_otherMaps cX7_otherMaps 4 (some .int) ∈ gw_all := List.mem_filter.mpr ⟨mt_6 (List.mem_of_getElem? (i := 211) rfl), rfl⟩
set_option maxRecDepth 100000 in
theorem mw_1463 : Cond.methodLink RL 182 yX7_bestShare ∈ gw_all := List.mem_filter.mpr ⟨mt_6 (List.mem_of_getElem? (i := 212) rfl), rfl⟩
set_option maxRecDepth 100000 in
theorem mw_1464 : Cond.instanceMethod yX7_bestShare ∈ gw_all := List.mem_filter.mpr ⟨mt_6 (List.mem_of_getElem? (i := 213) rfl), rfl⟩
set_option maxRecDepth 100000 in
theorem mw_1465 : Cond.selects RX7 yX7_bestShare yX7_bestShare ∈ gw_all := List.mem_filter.mpr ⟨mt_6 (List.mem_of_getElem? (i := 214) rfl), rfl⟩
set_option maxRecDepth 100000 in
theorem mw_1466 : Cond.code yX7_bestShare cX7_bestShare 6 (some .int) ∈ gw_all := List.mem_filter.mpr ⟨mt_6 (List.mem_of_getElem? (i := 215) rfl), rfl⟩
set_option maxRecDepth 100000 in
theorem mw_1467 : Cond.methodLink RL 186 yX7_ofNet ∈ gw_all := List.mem_filter.mpr ⟨mt_6 (List.mem_of_getElem? (i := 216) rfl), rfl⟩
set_option maxRecDepth 100000 in
theorem mw_1468 : Cond.instanceMethod yX7_ofNet ∈ gw_all := List.mem_filter.mpr ⟨mt_6 (List.mem_of_getElem? (i := 217) rfl), rfl⟩
set_option maxRecDepth 100000 in
theorem mw_1469 : Cond.selects RX7 yX7_ofNet yX7_ofNet ∈ gw_all := List.mem_filter.mpr ⟨mt_6 (List.mem_of_getElem? (i := 218) rfl), rfl⟩
set_option maxRecDepth 100000 in
theorem mw_1470 : Cond.code yX7_ofNet cX7_ofNet 4 (some .int) ∈ gw_all := List.mem_filter.mpr ⟨mt_6 (List.mem_of_getElem? (i := 219) rfl), rfl⟩
set_option maxRecDepth 100000 in
theorem mw_1471 : Cond.methodLink RL 190 yX7_count ∈ gw_all := List.mem_filter.mpr ⟨mt_6 (List.mem_of_getElem? (i := 220) rfl), rfl⟩
set_option maxRecDepth 100000 in
theorem mw_1472 : Cond.instanceMethod yX7_count ∈ gw_all := List.mem_filter.mpr ⟨mt_6 (List.mem_of_getElem? (i := 221) rfl), rfl⟩
set_option maxRecDepth 100000 in
theorem mw_1473 : Cond.selects RX7 yX7_count yX7_count ∈ gw_all := List.mem_filter.mpr ⟨mt_6 (List.mem_of_getElem? (i := 222) rfl), rfl⟩
set_option maxRecDepth 100000 in
theorem mw_1474 : Cond.code yX7_count cX7_count 2 (some .int) ∈ gw_all := List.mem_filter.mpr ⟨mt_6 (List.mem_of_getElem? (i := 223) rfl), rfl⟩
set_option maxRecDepth 100000 in
theorem mw_1475 : Cond.methodLink RX7 283 yX7_heardOfAll ∈ gw_all := List.mem_filter.mpr ⟨mt_6 (List.mem_of_getElem? (i := 224) rfl), rfl⟩
set_option maxRecDepth 100000 in
theorem mw_1477 : Cond.instanceMethod yX7_heardOfAll ∈ gw_all := List.mem_filter.mpr ⟨mt_6 (List.mem_of_getElem? (i := 226) rfl), rfl⟩
set_option maxRecDepth 100000 in
theorem mw_1478 : Cond.code yX7_heardOfAll cX7_heardOfAll 4 (some .int) ∈ gw_all := List.mem_filter.mpr ⟨mt_6 (List.mem_of_getElem? (i := 227) rfl), rfl⟩
set_option maxRecDepth 100000 in
theorem mw_1479 : Cond.constantLong RX7 286 10 ∈ gw_all := List.mem_filter.mpr ⟨mt_6 (List.mem_of_getElem? (i := 228) rfl), rfl⟩
set_option maxRecDepth 100000 in
theorem mw_1480 : Cond.constantLong RX7 288 17 ∈ gw_all := List.mem_filter.mpr ⟨mt_6 (List.mem_of_getElem? (i := 229) rfl), rfl⟩
set_option maxRecDepth 100000 in
theorem mw_1481 : Cond.methodLink RL 194 yX7_status ∈ gw_all := List.mem_filter.mpr ⟨mt_6 (List.mem_of_getElem? (i := 230) rfl), rfl⟩
set_option maxRecDepth 100000 in
theorem mw_1482 : Cond.instanceMethod yX7_status ∈ gw_all := List.mem_filter.mpr ⟨mt_6 (List.mem_of_getElem? (i := 231) rfl), rfl⟩
set_option maxRecDepth 100000 in
theorem mw_1483 : Cond.selects RX7 yX7_status yX7_status ∈ gw_all := List.mem_filter.mpr ⟨mt_6 (List.mem_of_getElem? (i := 232) rfl), rfl⟩
set_option maxRecDepth 100000 in
theorem mw_1484 : Cond.code yX7_status cX7_status 1 (some .int) ∈ gw_all := List.mem_filter.mpr ⟨mt_6 (List.mem_of_getElem? (i := 233) rfl), rfl⟩
end
section
abbrev hE : Type := va_G × Nat × (Nat → ClassId) × (Nat → Nat)
def hA (E : hE) : Nat → Prop := fun q => E.2.1 ≤ q
def wl (E : hE) (N : Nat) (C : Nat → va_E) : va_W := (List.range N).map (fun k => (E.2.1 + k, C k))
theorem wl_len (E : hE) (N : Nat) (C : Nat → va_E) : (wl E N C).length = N := by simp [wl]
theorem wl_get (E : hE) (N : Nat) (C : Nat → va_E) (i : Nat) : (wl E N C)[i]? = if i < N then some (E.2.1 + i, C i) else none := by
  unfold wl
  rw [List.getElem?_map]
  by_cases h : i < N
  · rw [List.getElem?_range h, if_pos h]; rfl
  · rw [List.getElem?_eq_none (by simp; omega), if_neg h]; rfl
theorem wl_at {E : hE} {N : Nat} {C : Nat → va_E} {k : Nat} (h : k < N) : (wl E N C)[k]? = some (E.2.1 + k, C k) := by rw [wl_get, if_pos h]
theorem wl_set {E : hE} {N : Nat} {C : Nat → va_E} {k : Nat} {e : va_E} (h : k < N) : (wl E N C).set k (E.2.1 + k, e) = wl E N (va_up C k e) := by
  apply List.ext_getElem?
  intro i
  rw [wl_get]
  by_cases hi : i = k
  · subst hi
    rw [List.getElem?_set_self (by rw [wl_len]; exact h), if_pos h]
    simp [va_up]
  · rw [List.getElem?_set_ne (Ne.symm hi), wl_get]
    simp [va_up, hi]
theorem wl_push {E : hE} {N : Nat} {C : Nat → va_E} {e : va_E} : wl E N C ++ [(E.2.1 + N, e)] = wl E (N + 1) (va_up C N e) := by
  apply List.ext_getElem?
  intro i
  rw [wl_get]
  by_cases hi : i < N
  · rw [List.getElem?_append_left (by rw [wl_len]; exact hi), wl_get, if_pos hi, if_pos (by omega)]
    simp [va_up, Nat.ne_of_lt hi]
  · rw [List.getElem?_append_right (by rw [wl_len]; omega), wl_len]
    by_cases h2 : i = N
    · subst h2
      simp [va_up]
    · rw [if_neg (by omega), List.getElem?_eq_none (by simp; omega)]
theorem wl_D (E : hE) (N : Nat) (C : Nat → va_E) : va_D (hA E) (wl E N C) := by
  refine ⟨fun i j p q hi hj hpq => ?_, fun k q h => ?_⟩
  · rw [wl_get] at hi hj
    by_cases h1 : i < N
    · by_cases h2 : j < N
      · rw [if_pos h1] at hi
        rw [if_pos h2] at hj
        cases hi
        cases hj
        have hpq : E.2.1 + i = E.2.1 + j := hpq
        omega
      · rw [if_neg h2] at hj; cases hj
    · rw [if_neg h1] at hi; cases hi
  · rw [wl_get] at h
    by_cases h1 : k < N
    · rw [if_pos h1] at h
      cases h
      exact Nat.le_add_right _ _
    · rw [if_neg h1] at h; cases h
theorem wl_ext {E : hE} {N : Nat} {C C' : Nat → va_E} (h : ∀ k, k < N → C k = C' k) : wl E N C = wl E N C' := by
  apply List.ext_getElem?
  intro i
  rw [wl_get, wl_get]
  by_cases hi : i < N
  · rw [if_pos hi, if_pos hi, h i hi]
  · rw [if_neg hi, if_neg hi]
def hkL (r : Nat) : Nat := ([1, 3, 4, 8, 8, 4, 8, 8, 0] : List Nat).getD r 99
def hkN (r : Nat) : Nat := if r = 0 then 2 else if r = 1 then 3 else if r < 5 then 8 else if r = 5 then 10 else hkL ((r - 6) % 9)
def hkW (r : Nat) : Nat := if r = 0 then 5 else if r < 4 then 8 else if r = 4 then 11 else hkN ((r - 5) % 42)
/-- the kind of the cell k: 0 Frames, 1 Link, 2 Net, 3 Plan, 4 Row, 5 World, 6 HopNet, 7 HopNetModel, 8 int[], 9 boolean[], 10 Link[], 11 Net[], 12 World[] -/
def hk (k : Nat) : Nat := if k = 0 then 6 else if k < 179 then hkW ((k - 1) % 89) else if k < 186 then ([12, 9, 12, 8, 8, 8, 8] : List Nat).getD (k - 179) 99 else if k < 1076 then hkW ((k - 186) % 89) else if k = 1076 then 7 else ([8, 8, 8, 8, 8, 9, 8, 8, 8, 8, 9, 9, 9] : List Nat).getD (k - 1077) 99
def hlL (r : Nat) : Nat := ([0, 0, 0, 8, 8, 0, 8, 8, 0] : List Nat).getD r 0
def hlN (r : Nat) : Nat := if r < 6 then ([0, 0, 4, 23, 23, 4] : List Nat).getD r 0 else hlL ((r - 6) % 9)
def hlW (r : Nat) : Nat := if r < 5 then ([0, 6, 23, 9, 2] : List Nat).getD r 0 else hlN ((r - 5) % 42)
/-- the length of the array in the cell k -/
def hlen (k : Nat) : Nat := if k = 0 then 0 else if k < 179 then hlW ((k - 1) % 89) else if k < 186 then ([2, 2, 8, 8, 5, 512, 576] : List Nat).getD (k - 179) 0 else if k < 1076 then hlW ((k - 186) % 89) else ([0, 6, 695, 5560, 8, 1390, 2, 695, 2, 2, 2, 2, 2, 2] : List Nat).getD (k - 1076) 0
def hw (k : Nat) : Nat := if k = 179 then 186 else 364
def fl0 (E : hE) (k : Nat) (f : Nat → Int32) : List Value := [.int (f 0), .int (f 1), .int (f 2), .int (f 3), .int (f 4), .int (f 5)]
def fl1 (E : hE) (k : Nat) (f : Nat → Int32) : List Value := [.ref (E.2.1 + (k + 1)), .ref (E.2.1 + (k + 2)), .ref (E.2.1 + (k + 5)), .ref (E.2.1 + (k + 8)), .int (f 4), .int (f 5), .int (f 6), .int (f 7), .int (f 8), .int (f 9), .int (f 10), .int (f 11), .int (f 12), .int (f 13), .int (f 14), .int (f 15), .int (f 16), .int (f 17)]
def fl2 (E : hE) (k : Nat) (f : Nat → Int32) : List Value := [.ref (E.2.1 + (k + 1)), .ref (E.2.1 + (k + 2)), .ref (E.2.1 + (k + 3)), .ref (E.2.1 + (k + 4)), .ref (E.2.1 + (k + 5)), .int (f 5), .int (f 6), .int (f 7), .int (f 8), .int (f 9), .int (f 10), .int (f 11), .int (f 12), .int (f 13), .int (f 14), .int (f 15), .int (f 16), .int (f 17), .int (f 18), .int (f 19)]
def fl3 (E : hE) (k : Nat) (f : Nat → Int32) : List Value := [.int (f 0), .int (f 1), .int (f 2)]
def fl4 (E : hE) (k : Nat) (f : Nat → Int32) : List Value := [.ref (E.2.1 + (k + 1)), .ref (E.2.1 + (k + 2)), .int (f 2), .int (f 3), .int (f 4), .int (f 5), .int (f 6), .int (f 7)]
def fl5 (E : hE) (k : Nat) (f : Nat → Int32) : List Value := [.ref (E.2.1 + (k + 1)), .ref (E.2.1 + (k + 2)), .ref (E.2.1 + (k + 3)), .ref (E.2.1 + (k + 4)), .int (f 4), .int (f 5), .int (f 6), .int (f 7), .int (f 8), .int (f 9)]
def fl6 (E : hE) (k : Nat) (f : Nat → Int32) : List Value := [.ref (E.2.1 + (k + 1)), .ref (E.2.1 + (k + 90)), .ref (E.2.1 + (k + 179)), .ref (E.2.1 + (k + 180)), .ref (E.2.1 + (k + 181)), .ref (E.2.1 + (k + 182)), .int (f 6), .int (f 7), .ref (E.2.1 + (k + 183)), .int (f 9), .ref (E.2.1 + (k + 184)), .ref (E.2.1 + (k + 185))]
def fl7 (E : hE) (k : Nat) (f : Nat → Int32) : List Value := [.int (f 0), .int (f 1), .ref (E.2.1 + (k + 1)), .ref (E.2.1 + (k + 2)), .ref (E.2.1 + (k + 3)), .ref (E.2.1 + (k + 4)), .int (f 6), .ref (E.2.1 + (k + 5)), .ref (E.2.1 + (k + 6)), .ref (E.2.1 + (k + 7)), .ref (E.2.1 + (k + 8)), .ref (E.2.1 + (k + 9)), .ref (E.2.1 + (k + 10)), .ref (E.2.1 + (k + 11)), .ref (E.2.1 + (k + 12)), .ref (E.2.1 + (k + 13)), .int (f 16), .int (f 17)]
/-- what the cell k holds -/
def hcc (E : hE) (k : Nat) (f : Nat → Int32) : va_E :=
  if hk k = 0 then .inr (0, fl0 E k f) else if hk k = 1 then .inr (1, fl1 E k f) else if hk k = 2 then .inr (2, fl2 E k f) else if hk k = 3 then .inr (3, fl3 E k f) else if hk k = 4 then .inr (4, fl4 E k f) else if hk k = 5 then .inr (5, fl5 E k f) else if hk k = 6 then .inr (6, fl6 E k f) else if hk k = 7 then .inr (7, fl7 E k f)
  else if hk k = 8 then .inl (E.2.2.1 0, hlen k, .inl f) else if hk k = 9 then .inl (E.2.2.1 1, hlen k, .inl f) else if hk k = 10 then .inl (E.2.2.1 2, hlen k, .inr (.inr (.inr (.inr (fun i => some (E.2.1 + (f i).toNatClampNeg)))))) else if hk k = 11 then .inl (E.2.2.1 3, hlen k, .inr (.inr (.inr (.inr (fun i => some (E.2.1 + (k + 1 + 42 * i))))))) else .inl (E.2.2.1 4, hlen k, .inr (.inr (.inr (.inr (fun i => some (E.2.1 + (hw k + 89 * i)))))))
def hcf (E : hE) (ρ : Nat → Nat → Int32) : Nat → va_E := fun k => hcc E k (ρ k)
/-- the state with the slot j of the cell k changed -/
def up (ρ : Nat → Nat → Int32) (k j : Nat) (v : Int32) : Nat → Nat → Int32 := fun k' => if k' = k then upd (ρ k) j v else ρ k'
def upc (ρ : Nat → Nat → Int32) (k : Nat) (f : Nat → Int32) : Nat → Nat → Int32 := fun k' => if k' = k then f else ρ k'
theorem upc_at (ρ : Nat → Nat → Int32) (k : Nat) (f : Nat → Int32) : upc ρ k f k = f := if_pos rfl
theorem upc_ne (ρ : Nat → Nat → Int32) {k k' : Nat} (f : Nat → Int32) (h : k' ≠ k) : upc ρ k f k' = ρ k' := if_neg h
theorem up_at (ρ : Nat → Nat → Int32) (k j : Nat) (v : Int32) : up ρ k j v k = upd (ρ k) j v := if_pos rfl
theorem up_ne (ρ : Nat → Nat → Int32) {k k' : Nat} (j : Nat) (v : Int32) (h : k' ≠ k) : up ρ k j v k' = ρ k' := if_neg h
theorem up_eq (ρ : Nat → Nat → Int32) (k j : Nat) (v : Int32) : up ρ k j v = upc ρ k (upd (ρ k) j v) := rfl
theorem upc_self (ρ : Nat → Nat → Int32) {k : Nat} {f : Nat → Int32} (h : ∀ j, f j = ρ k j) : upc ρ k f = ρ := by
  funext k' j
  by_cases hk : k' = k
  · subst hk; rw [upc_at]; exact h j
  · rw [upc_ne _ _ hk]
theorem up_self (ρ : Nat → Nat → Int32) {k j : Nat} {v : Int32} (h : ρ k j = v) : up ρ k j v = ρ := by
  rw [up_eq]
  refine upc_self ρ (fun i => ?_)
  by_cases hi : i = j
  · subst hi; simp [upd, h]
  · simp [upd, hi]
theorem hcf_up (E : hE) (ρ : Nat → Nat → Int32) (k : Nat) (f : Nat → Int32) : va_up (hcf E ρ) k (hcc E k f) = hcf E (upc ρ k f) := by
  funext k'
  by_cases h : k' = k
  · subst h; simp [va_up, hcf, upc]
  · simp [va_up, hcf, upc, h]
theorem hcc0 (E : hE) {k : Nat} (f : Nat → Int32) (h : hk k = 0) : hcc E k f = .inr (0, fl0 E k f) := by simp [hcc, h]
theorem hcc1 (E : hE) {k : Nat} (f : Nat → Int32) (h : hk k = 1) : hcc E k f = .inr (1, fl1 E k f) := by simp [hcc, h]
theorem hcc2 (E : hE) {k : Nat} (f : Nat → Int32) (h : hk k = 2) : hcc E k f = .inr (2, fl2 E k f) := by simp [hcc, h]
theorem hcc3 (E : hE) {k : Nat} (f : Nat → Int32) (h : hk k = 3) : hcc E k f = .inr (3, fl3 E k f) := by simp [hcc, h]
theorem hcc4 (E : hE) {k : Nat} (f : Nat → Int32) (h : hk k = 4) : hcc E k f = .inr (4, fl4 E k f) := by simp [hcc, h]
theorem hcc5 (E : hE) {k : Nat} (f : Nat → Int32) (h : hk k = 5) : hcc E k f = .inr (5, fl5 E k f) := by simp [hcc, h]
theorem hcc6 (E : hE) {k : Nat} (f : Nat → Int32) (h : hk k = 6) : hcc E k f = .inr (6, fl6 E k f) := by simp [hcc, h]
theorem hcc7 (E : hE) {k : Nat} (f : Nat → Int32) (h : hk k = 7) : hcc E k f = .inr (7, fl7 E k f) := by simp [hcc, h]
theorem hcc8 (E : hE) {k : Nat} (f : Nat → Int32) (h : hk k = 8) : hcc E k f = .inl (E.2.2.1 0, hlen k, .inl f) := by simp [hcc, h]
theorem hcc9 (E : hE) {k : Nat} (f : Nat → Int32) (h : hk k = 9) : hcc E k f = .inl (E.2.2.1 1, hlen k, .inl f) := by simp [hcc, h]
theorem hcc10 (E : hE) {k : Nat} (f : Nat → Int32) (h : hk k = 10) : hcc E k f = .inl (E.2.2.1 2, hlen k, .inr (.inr (.inr (.inr (fun i => some (E.2.1 + (f i).toNatClampNeg)))))) := by simp [hcc, h]
theorem hcc11 (E : hE) {k : Nat} (f : Nat → Int32) (h : hk k = 11) : hcc E k f = .inl (E.2.2.1 3, hlen k, .inr (.inr (.inr (.inr (fun i => some (E.2.1 + (k + 1 + 42 * i))))))) := by simp [hcc, h]
theorem hcc12 (E : hE) {k : Nat} (f : Nat → Int32) (h : hk k = 12) : hcc E k f = .inl (E.2.2.1 4, hlen k, .inr (.inr (.inr (.inr (fun i => some (E.2.1 + (hw k + 89 * i))))))) := by simp [hcc, h]
theorem hk_big {k : Nat} (h : 1090 ≤ k) : hk k = 99 := by
  unfold hk
  rw [if_neg (by omega), if_neg (by omega), if_neg (by omega), if_neg (by omega), if_neg (by omega), List.getD_eq_getElem?_getD, List.getElem?_eq_none (by simp; omega)]
  rfl
theorem hk_lt {k c : Nat} (h : hk k = c) (hc : c ≠ 99) : k < 1090 := by
  rcases Nat.lt_or_ge k 1090 with q | q
  · exact q
  · exact absurd ((hk_big q).symm.trans h).symm hc
theorem lay1b : (List.range 1090).all (fun k => !(hk k == 1) || (hk (k + 1) == 3 && hk (k + 2) == 4 && hk (k + 5) == 4 && hk (k + 8) == 0)) = true := by decide +kernel
theorem lay1 {k : Nat} (h : hk k = 1) : hk (k + 1) = 3 ∧ hk (k + 2) = 4 ∧ hk (k + 5) = 4 ∧ hk (k + 8) = 0 := by
  have q := List.all_eq_true.mp lay1b k (List.mem_range.mpr (hk_lt h (by decide)))
  simpa [h, and_assoc] using q
theorem lay4b : (List.range 1090).all (fun k => !(hk k == 4) || (hk (k + 1) == 8 && hlen (k + 1) == 8 && hk (k + 2) == 8 && hlen (k + 2) == 8)) = true := by decide +kernel
theorem lay4 {k : Nat} (h : hk k = 4) : hk (k + 1) = 8 ∧ hlen (k + 1) = 8 ∧ hk (k + 2) = 8 ∧ hlen (k + 2) = 8 := by
  have q := List.all_eq_true.mp lay4b k (List.mem_range.mpr (hk_lt h (by decide)))
  simpa [h, and_assoc] using q
theorem lay2b : (List.range 1090).all (fun k => !(hk k == 2) || (hk (k + 1) == 3 && hk (k + 2) == 8 && hlen (k + 2) == 4 && hk (k + 3) == 8 && hlen (k + 3) == 23 && hk (k + 4) == 8 && hlen (k + 4) == 23 && hk (k + 5) == 10 && hlen (k + 5) == 4 && hk (k + 6) == 1 && hk (k + 15) == 1 && hk (k + 24) == 1 && hk (k + 33) == 1)) = true := by decide +kernel
theorem lay2 {k : Nat} (h : hk k = 2) : hk (k + 1) = 3 ∧ hk (k + 2) = 8 ∧ hlen (k + 2) = 4 ∧ hk (k + 3) = 8 ∧ hlen (k + 3) = 23 ∧ hk (k + 4) = 8 ∧ hlen (k + 4) = 23 ∧ hk (k + 5) = 10 ∧ hlen (k + 5) = 4 ∧ hk (k + 6) = 1 ∧ hk (k + 15) = 1 ∧ hk (k + 24) = 1 ∧ hk (k + 33) = 1 := by
  have q := List.all_eq_true.mp lay2b k (List.mem_range.mpr (hk_lt h (by decide)))
  simpa [h, and_assoc] using q
theorem lay5b : (List.range 1090).all (fun k => !(hk k == 5) || (hk (k + 1) == 8 && hlen (k + 1) == 6 && hk (k + 2) == 8 && hlen (k + 2) == 23 && hk (k + 3) == 8 && hlen (k + 3) == 9 && hk (k + 4) == 11 && hlen (k + 4) == 2 && hk (k + 5) == 2 && hk (k + 47) == 2)) = true := by decide +kernel
theorem lay5 {k : Nat} (h : hk k = 5) : hk (k + 1) = 8 ∧ hlen (k + 1) = 6 ∧ hk (k + 2) = 8 ∧ hlen (k + 2) = 23 ∧ hk (k + 3) = 8 ∧ hlen (k + 3) = 9 ∧ hk (k + 4) = 11 ∧ hlen (k + 4) = 2 ∧ hk (k + 5) = 2 ∧ hk (k + 47) = 2 := by
  have q := List.all_eq_true.mp lay5b k (List.mem_range.mpr (hk_lt h (by decide)))
  simpa [h, and_assoc] using q
theorem lay5n {k n : Nat} (h : hk k = 5) (hn : n < 2) : hk (k + 4 + 1 + 42 * n) = 2 := by
  rcases (show n = 0 ∨ n = 1 by omega) with rfl | rfl
  · exact (lay5 h).2.2.2.2.2.2.2.2.1
  · exact (lay5 h).2.2.2.2.2.2.2.2.2
theorem fs0_0 (E : hE) (k : Nat) (f : Nat → Int32) (v : Int32) : (fl0 E k f).set 0 (.int v) = fl0 E k (upd f 0 v) := rfl
theorem fs0_1 (E : hE) (k : Nat) (f : Nat → Int32) (v : Int32) : (fl0 E k f).set 1 (.int v) = fl0 E k (upd f 1 v) := rfl
theorem fs0_2 (E : hE) (k : Nat) (f : Nat → Int32) (v : Int32) : (fl0 E k f).set 2 (.int v) = fl0 E k (upd f 2 v) := rfl
theorem fs0_3 (E : hE) (k : Nat) (f : Nat → Int32) (v : Int32) : (fl0 E k f).set 3 (.int v) = fl0 E k (upd f 3 v) := rfl
theorem fs0_4 (E : hE) (k : Nat) (f : Nat → Int32) (v : Int32) : (fl0 E k f).set 4 (.int v) = fl0 E k (upd f 4 v) := rfl
theorem fs0_5 (E : hE) (k : Nat) (f : Nat → Int32) (v : Int32) : (fl0 E k f).set 5 (.int v) = fl0 E k (upd f 5 v) := rfl
theorem fs1_4 (E : hE) (k : Nat) (f : Nat → Int32) (v : Int32) : (fl1 E k f).set 4 (.int v) = fl1 E k (upd f 4 v) := rfl
theorem fs1_5 (E : hE) (k : Nat) (f : Nat → Int32) (v : Int32) : (fl1 E k f).set 5 (.int v) = fl1 E k (upd f 5 v) := rfl
theorem fs1_6 (E : hE) (k : Nat) (f : Nat → Int32) (v : Int32) : (fl1 E k f).set 6 (.int v) = fl1 E k (upd f 6 v) := rfl
theorem fs1_7 (E : hE) (k : Nat) (f : Nat → Int32) (v : Int32) : (fl1 E k f).set 7 (.int v) = fl1 E k (upd f 7 v) := rfl
theorem fs1_8 (E : hE) (k : Nat) (f : Nat → Int32) (v : Int32) : (fl1 E k f).set 8 (.int v) = fl1 E k (upd f 8 v) := rfl
theorem fs1_9 (E : hE) (k : Nat) (f : Nat → Int32) (v : Int32) : (fl1 E k f).set 9 (.int v) = fl1 E k (upd f 9 v) := rfl
theorem fs1_10 (E : hE) (k : Nat) (f : Nat → Int32) (v : Int32) : (fl1 E k f).set 10 (.int v) = fl1 E k (upd f 10 v) := rfl
theorem fs1_11 (E : hE) (k : Nat) (f : Nat → Int32) (v : Int32) : (fl1 E k f).set 11 (.int v) = fl1 E k (upd f 11 v) := rfl
theorem fs1_12 (E : hE) (k : Nat) (f : Nat → Int32) (v : Int32) : (fl1 E k f).set 12 (.int v) = fl1 E k (upd f 12 v) := rfl
theorem fs1_13 (E : hE) (k : Nat) (f : Nat → Int32) (v : Int32) : (fl1 E k f).set 13 (.int v) = fl1 E k (upd f 13 v) := rfl
theorem fs1_14 (E : hE) (k : Nat) (f : Nat → Int32) (v : Int32) : (fl1 E k f).set 14 (.int v) = fl1 E k (upd f 14 v) := rfl
theorem fs1_15 (E : hE) (k : Nat) (f : Nat → Int32) (v : Int32) : (fl1 E k f).set 15 (.int v) = fl1 E k (upd f 15 v) := rfl
theorem fs1_16 (E : hE) (k : Nat) (f : Nat → Int32) (v : Int32) : (fl1 E k f).set 16 (.int v) = fl1 E k (upd f 16 v) := rfl
theorem fs1_17 (E : hE) (k : Nat) (f : Nat → Int32) (v : Int32) : (fl1 E k f).set 17 (.int v) = fl1 E k (upd f 17 v) := rfl
theorem fs2_5 (E : hE) (k : Nat) (f : Nat → Int32) (v : Int32) : (fl2 E k f).set 5 (.int v) = fl2 E k (upd f 5 v) := rfl
theorem fs2_6 (E : hE) (k : Nat) (f : Nat → Int32) (v : Int32) : (fl2 E k f).set 6 (.int v) = fl2 E k (upd f 6 v) := rfl
theorem fs2_7 (E : hE) (k : Nat) (f : Nat → Int32) (v : Int32) : (fl2 E k f).set 7 (.int v) = fl2 E k (upd f 7 v) := rfl
theorem fs2_8 (E : hE) (k : Nat) (f : Nat → Int32) (v : Int32) : (fl2 E k f).set 8 (.int v) = fl2 E k (upd f 8 v) := rfl
theorem fs2_9 (E : hE) (k : Nat) (f : Nat → Int32) (v : Int32) : (fl2 E k f).set 9 (.int v) = fl2 E k (upd f 9 v) := rfl
theorem fs2_10 (E : hE) (k : Nat) (f : Nat → Int32) (v : Int32) : (fl2 E k f).set 10 (.int v) = fl2 E k (upd f 10 v) := rfl
theorem fs2_11 (E : hE) (k : Nat) (f : Nat → Int32) (v : Int32) : (fl2 E k f).set 11 (.int v) = fl2 E k (upd f 11 v) := rfl
theorem fs2_12 (E : hE) (k : Nat) (f : Nat → Int32) (v : Int32) : (fl2 E k f).set 12 (.int v) = fl2 E k (upd f 12 v) := rfl
theorem fs2_13 (E : hE) (k : Nat) (f : Nat → Int32) (v : Int32) : (fl2 E k f).set 13 (.int v) = fl2 E k (upd f 13 v) := rfl
theorem fs2_14 (E : hE) (k : Nat) (f : Nat → Int32) (v : Int32) : (fl2 E k f).set 14 (.int v) = fl2 E k (upd f 14 v) := rfl
theorem fs2_15 (E : hE) (k : Nat) (f : Nat → Int32) (v : Int32) : (fl2 E k f).set 15 (.int v) = fl2 E k (upd f 15 v) := rfl
theorem fs2_16 (E : hE) (k : Nat) (f : Nat → Int32) (v : Int32) : (fl2 E k f).set 16 (.int v) = fl2 E k (upd f 16 v) := rfl
theorem fs2_17 (E : hE) (k : Nat) (f : Nat → Int32) (v : Int32) : (fl2 E k f).set 17 (.int v) = fl2 E k (upd f 17 v) := rfl
theorem fs2_18 (E : hE) (k : Nat) (f : Nat → Int32) (v : Int32) : (fl2 E k f).set 18 (.int v) = fl2 E k (upd f 18 v) := rfl
theorem fs2_19 (E : hE) (k : Nat) (f : Nat → Int32) (v : Int32) : (fl2 E k f).set 19 (.int v) = fl2 E k (upd f 19 v) := rfl
theorem fs3_0 (E : hE) (k : Nat) (f : Nat → Int32) (v : Int32) : (fl3 E k f).set 0 (.int v) = fl3 E k (upd f 0 v) := rfl
theorem fs3_1 (E : hE) (k : Nat) (f : Nat → Int32) (v : Int32) : (fl3 E k f).set 1 (.int v) = fl3 E k (upd f 1 v) := rfl
theorem fs3_2 (E : hE) (k : Nat) (f : Nat → Int32) (v : Int32) : (fl3 E k f).set 2 (.int v) = fl3 E k (upd f 2 v) := rfl
theorem fs4_2 (E : hE) (k : Nat) (f : Nat → Int32) (v : Int32) : (fl4 E k f).set 2 (.int v) = fl4 E k (upd f 2 v) := rfl
theorem fs4_3 (E : hE) (k : Nat) (f : Nat → Int32) (v : Int32) : (fl4 E k f).set 3 (.int v) = fl4 E k (upd f 3 v) := rfl
theorem fs4_4 (E : hE) (k : Nat) (f : Nat → Int32) (v : Int32) : (fl4 E k f).set 4 (.int v) = fl4 E k (upd f 4 v) := rfl
theorem fs4_5 (E : hE) (k : Nat) (f : Nat → Int32) (v : Int32) : (fl4 E k f).set 5 (.int v) = fl4 E k (upd f 5 v) := rfl
theorem fs4_6 (E : hE) (k : Nat) (f : Nat → Int32) (v : Int32) : (fl4 E k f).set 6 (.int v) = fl4 E k (upd f 6 v) := rfl
theorem fs4_7 (E : hE) (k : Nat) (f : Nat → Int32) (v : Int32) : (fl4 E k f).set 7 (.int v) = fl4 E k (upd f 7 v) := rfl
theorem fs5_4 (E : hE) (k : Nat) (f : Nat → Int32) (v : Int32) : (fl5 E k f).set 4 (.int v) = fl5 E k (upd f 4 v) := rfl
theorem fs5_5 (E : hE) (k : Nat) (f : Nat → Int32) (v : Int32) : (fl5 E k f).set 5 (.int v) = fl5 E k (upd f 5 v) := rfl
theorem fs5_6 (E : hE) (k : Nat) (f : Nat → Int32) (v : Int32) : (fl5 E k f).set 6 (.int v) = fl5 E k (upd f 6 v) := rfl
theorem fs5_7 (E : hE) (k : Nat) (f : Nat → Int32) (v : Int32) : (fl5 E k f).set 7 (.int v) = fl5 E k (upd f 7 v) := rfl
theorem fs5_8 (E : hE) (k : Nat) (f : Nat → Int32) (v : Int32) : (fl5 E k f).set 8 (.int v) = fl5 E k (upd f 8 v) := rfl
theorem fs5_9 (E : hE) (k : Nat) (f : Nat → Int32) (v : Int32) : (fl5 E k f).set 9 (.int v) = fl5 E k (upd f 9 v) := rfl
theorem fs6_6 (E : hE) (k : Nat) (f : Nat → Int32) (v : Int32) : (fl6 E k f).set 6 (.int v) = fl6 E k (upd f 6 v) := rfl
theorem fs6_7 (E : hE) (k : Nat) (f : Nat → Int32) (v : Int32) : (fl6 E k f).set 7 (.int v) = fl6 E k (upd f 7 v) := rfl
theorem fs6_9 (E : hE) (k : Nat) (f : Nat → Int32) (v : Int32) : (fl6 E k f).set 9 (.int v) = fl6 E k (upd f 9 v) := rfl
theorem fs7_0 (E : hE) (k : Nat) (f : Nat → Int32) (v : Int32) : (fl7 E k f).set 0 (.int v) = fl7 E k (upd f 0 v) := rfl
theorem fs7_1 (E : hE) (k : Nat) (f : Nat → Int32) (v : Int32) : (fl7 E k f).set 1 (.int v) = fl7 E k (upd f 1 v) := rfl
theorem fs7_6 (E : hE) (k : Nat) (f : Nat → Int32) (v : Int32) : (fl7 E k f).set 6 (.int v) = fl7 E k (upd f 6 v) := rfl
theorem fs7_16 (E : hE) (k : Nat) (f : Nat → Int32) (v : Int32) : (fl7 E k f).set 16 (.int v) = fl7 E k (upd f 16 v) := rfl
theorem fs7_17 (E : hE) (k : Nat) (f : Nat → Int32) (v : Int32) : (fl7 E k f).set 17 (.int v) = fl7 E k (upd f 17 v) := rfl
/-- the state of new objects -/
def r0 (k : Nat) : Nat → Int32 := fun j =>
  if hk k = 2 then (if j = 5 ∨ j = 9 ∨ 15 ≤ j ∧ j ≤ 18 then -1 else if j = 7 then 8388607 else 0)
  else if hk k = 3 then (if j = 0 then 8388607 else if j = 2 then -1 else 0)
  else if hk k = 5 then (if j = 6 then 1 else if j = 7 then 16 else if j = 8 then 2 else 0)
  else if hk k = 10 then nI (k + 1 + 9 * j)
  else if k = 1078 then (if j = 8 then 1 else if j = 9 then 16 else if j = 10 then 2 else if j = 42 ∨ j = 368 then -1 else 0)
  else 0
end
section
abbrev vwCl : List vw_C := [(RX0, TX0, 6), (RX1, TX1, 18), (RX2, TX2, 20), (RX3, TX3, 3), (RX4, TX4, 8), (RX5, TX5, 10), (RX6, TX6, 12), (RX7, TX7, 18)]
def tyl (E : hE) : List (ClassId × FieldType) := [(E.2.2.1 0, .int), (E.2.2.1 1, .boolean), (E.2.2.1 2, .object RX1), (E.2.2.1 3, .object RX2), (E.2.2.1 4, .object RX5)]
def nws : List (String × Nat × MethodName × String) := [(RX2, 11, yX3_init, RX6), (RX2, 82, yX1_init, RX6), (RX1, 9, yX3_init, RX6), (RX1, 18, yX4_init, RX6), (RX1, 28, yX0_init, RX6), (RX5, 94, yX6_hopOf, RX6), (RX5, 101, yX6_byMap, RX6), (RX2, 133, yX6_byMap, RX6)]
def xo : Nat → Value := fun j => .int (([0, 1, 0, 2, 1, 0, 3, 1, 0] : List Int32).getD j 0)
def xp : Nat → Value := fun j => .int (([3, 2, 1, 4, 4, 2, 4, 3, 4] : List Int32).getD j 0)
def xq : Nat → Value := fun j => .int (([0, 3, 1, 2, 0, 1, 2, 4, 1, 4, 0, 2, 3, 4, 1, 3, 0, 4] : List Int32).getD j 0)
/-- the statics -/
def ST (E : hE) (U : State) (H : Heap) : Prop := (va_Z RX6 "EXCHANGE_ONE" "[I" (.ref (E.2.2.2 0)) (hA E) U H ∧ va_T .int (E.2.2.2 0) 9 xo (hA E) U H) ∧ (va_Z RX6 "EXCHANGE_OTHER" "[I" (.ref (E.2.2.2 1)) (hA E) U H ∧ va_T .int (E.2.2.2 1) 9 xp (hA E) U H) ∧ (va_Z RX7 "PAIRS" "[I" (.ref (E.2.2.2 2)) (hA E) U H ∧ va_T .int (E.2.2.2 2) 18 xq (hA E) U H)
/-- what a method knows of the machine's tables and statics -/
def KK (E : hE) (U : State) : Prop := va_K E.1 vwCl (tyl E) U ∧ (∀ q ∈ nws, va_Nw (.methodLinkNest q.1 q.2.1 q.2.2.1 q.2.2.2) U) ∧ (va_AO RX1 U ∧ va_AO RX2 U ∧ va_AO RX5 U) ∧ ST E U U.heap
theorem ST.moved {E : hE} {u U : State} {H : Heap} (hvm : u.vm.Alike U.vm) (h : ST E u H) : ST E U H :=
  ⟨⟨h.1.1.moved hvm, h.1.2.moved hvm⟩, ⟨h.2.1.1.moved hvm, h.2.1.2.moved hvm⟩, ⟨h.2.2.1.moved hvm, h.2.2.2.moved hvm⟩⟩
theorem ST.kept {E : hE} {U : State} {H H1 : Heap} (h : ST E U H) (hq : ∀ a : Nat, a < H.size → ¬ hA E a → H1[a]? = H[a]?) : ST E U H1 :=
  ⟨⟨h.1.1.kept hq, h.1.2.kept hq⟩, ⟨h.2.1.1.kept hq, h.2.1.2.kept hq⟩, ⟨h.2.2.1.kept hq, h.2.2.2.kept hq⟩⟩
theorem KK.warm {E : hE} {s U : State} {H : Heap} {locs : List Loc} (h : KK E s) (hS : va_S (hA E) s.heap H locs) (hU : U.heap = H) (hW : s.WarmedH U.vm) : KK E U :=
  ⟨va_K.moved hW.alike h.1, fun q hq => va_Nw.warmM hW (h.2.1 q hq), ⟨h.2.2.1.1.moved hW.alike, h.2.2.1.2.1.moved hW.alike, h.2.2.1.2.2.moved hW.alike⟩, by rw [hU]; exact (h.2.2.2.moved hW.alike).kept hS.2.1⟩
/-- the world is as ρ says -/
abbrev WP (E : hE) (ρ : Nat → Nat → Int32) (H : Heap) : Prop := va_P E.1 vwCl (wl E 1090 (hcf E ρ)) H
def cPre (E : hE) (ρ : Nat → Nat → Int32) (av : List Value) : Array Value → State → Prop := va_Pc av (fun U => WP E ρ U.heap ∧ KK E U)
abbrev cI (E : hE) (post : Int32 → (Nat → Nat → Int32) → Prop) : Array Value → State → Outcome → State → Prop := va_Qi post (fun ρ t => WP E ρ t.heap) (hA E)
abbrev cV (E : hE) (post : (Nat → Nat → Int32) → Prop) : Array Value → State → Outcome → State → Prop := va_Qv post (fun ρ t => WP E ρ t.heap) (hA E)
abbrev cQ (E : hE) (post : Option Nat → (Nat → Nat → Int32) → Prop) : Array Value → State → Outcome → State → Prop := va_Qq post (fun ρ t => WP E ρ t.heap) (hA E)
abbrev rmk (fr lo : Nat) : Room := { frames := fr, cells := 0, slots := 0, locals := lo }
theorem KK.call {E : hE} {U : State} (g : JFrame) (mk : MethodId) (a : Array Value) (h : KK E U) : KK E (U.calling g mk a) :=
  ⟨va_K.moved (u := U) (U := U.calling g mk a) (Vm.Alike.refl U.vm) h.1, fun q hq => va_Nw.same rfl (rfl : U.vm = (U.calling g mk a).vm) (h.2.1 q hq), ⟨h.2.2.1.1.moved (Vm.Alike.refl U.vm), h.2.2.1.2.1.moved (Vm.Alike.refl U.vm), h.2.2.1.2.2.moved (Vm.Alike.refl U.vm)⟩, h.2.2.2.moved (U := U.calling g mk a) (Vm.Alike.refl U.vm)⟩
theorem cPre_blind {E : hE} {ρ : Nat → Nat → Int32} {av : List Value} : FrameBlind (cPre E ρ av) := fun a U g mk h => ⟨h.1, h.2.1, h.2.2.call g mk a⟩
/-- what is at hand inside a method -/
abbrev MB (p : Program) (s : State) (m : MethodId) (args : Array Value) (c : Code) (cc : ByteArray) (nL : Nat) (own : String) (E : hE) : Prop := CallFix p m c cc nL s args gw_all own ∧ KK E s
theorem gwAll : gw_all.all goodWord = true := List.all_eq_true.mpr (fun _ h => (List.mem_filter.mp h).2)
theorem gwGood {w : Cond} (h : w ∈ gw_all) : (w.onTables && w.keeps) = true ∨ ∃ ty, w = .arrayClass ty := good_of_word (List.mem_filter.mp h).2
/-- a method is entered -/
theorem ent {l : Launch} {y : MethodName} {cc : ByteArray} {maxL : Nat} {ret : Option FieldType} {fr lo : Nat} {E : hE} {ρ : Nat → Nat → Int32} {av : List Value} {Qc : Array Value → State → Outcome → State → Prop} {own : String} (hy : plainName y.cls = true) (ho : y.cls = own) (hlen : (lg_sl av).length ≤ maxL)
    (body : ∀ (p : Program) (e : Env) (s : State) (m : MethodId) (below : List Frame) (meth : Method) (c : Code) (ls : Array Slot), MB p s m av.toArray c cc maxL own E → meth.sig.returnType = ret → meth.locks = false → lv_has ls maxL (lv_args 0 av) → WP E ρ s.heap → va_S (hA E) s.heap s.heap [] → W p l e (rmk fr lo) s m av.toArray below meth c s.heap [] 0 0 (MQ below Qc av.toArray s 0 0 (hA E)) (F0 m 0 ls [])) :
    Met l y (.code y cc maxL ret :: gw_all) (rmk fr lo) (cPre E ρ av) Qc 0 0 (hA E) := by
  refine Met.ofW (cc := cc) (maxL := maxL) (ret := ret) hy rfl ?_
  intro p e s m args below meth c s₁ B hml hv
  obtain ⟨rfl, hP, hK⟩ := hv
  rw [lg_entry_eq]
  have hts := atoms_spec (ws := .code y cc maxL ret :: gw_all) B.pre
  exact body p e s m below meth c _ ⟨⟨B.exec, B.bytes, hml, by rw [← ho]; exact findClass_of_methodNamed B.named, fun w hw => hts w (List.mem_cons_of_mem _ hw)⟩, hK⟩ B.returns B.notSynchronized (lv_entry av hlen) hP va_S.rf
section XR
variable {p : Program} {l : Launch} {e : Env} {R : Room} {s : State} {m : MethodId} {args : Array Value} {below : List Frame} {meth : Method} {c : Code} {H : Heap} {locs : List Loc} {cells slots : Nat} {Q : State → Prop} {cc : ByteArray} {nL pc : Nat} {ls : Array Slot} {rest : List Value} {E : hE} {ρ : Nat → Nat → Int32} {own : String}
theorem ret_i {post : Int32 → (Nat → Nat → Int32) → Prop} {v : Int32} (B : MB p s m args c cc nL own E) (hr : meth.sig.returnType = some .int) (hlk : meth.locks = false) (hP : WP E ρ H) (hS : va_S (hA E) s.heap H locs) (hd : decode cc pc = .ok (.ireturn, 1)) (hq : post v ρ) : W p l e R s m args below meth c H locs cells slots (MQ below (cI E post) args s cells slots (hA E)) (F0 m pc ls [.int v]) :=
  W.iret (v := v) B.1.1 B.1.2.1 hr (fun t ht hW => ⟨⟨v, ρ, rfl, hq, by show WP E ρ t.heap; rw [ht]; exact hP⟩, hS.F ht⟩) hS.2.2 hd hlk
theorem ret_z {post : Int32 → (Nat → Nat → Int32) → Prop} {v : Int32} (B : MB p s m args c cc nL own E) (hr : meth.sig.returnType = some .boolean) (hlk : meth.locks = false) (hP : WP E ρ H) (hS : va_S (hA E) s.heap H locs) (hd : decode cc pc = .ok (.ireturn, 1)) (hn : v = 0 ∨ v = 1) (hq : post v ρ) : W p l e R s m args below meth c H locs cells slots (MQ below (cI E post) args s cells slots (hA E)) (F0 m pc ls [.int v]) :=
  W.zret (v := v) B.1.1 B.1.2.1 hr (by rcases hn with rfl | rfl <;> rfl) (fun t ht hW => ⟨⟨v, ρ, rfl, hq, by show WP E ρ t.heap; rw [ht]; exact hP⟩, hS.F ht⟩) hS.2.2 hd hlk
theorem ret_v {post : (Nat → Nat → Int32) → Prop} (B : MB p s m args c cc nL own E) (hr : meth.sig.returnType = none) (hlk : meth.locks = false) (hP : WP E ρ H) (hS : va_S (hA E) s.heap H locs) (hd : decode cc pc = .ok (.return_, 1)) (hq : post ρ) : W p l e R s m args below meth c H locs cells slots (MQ below (cV E post) args s cells slots (hA E)) (F0 m pc ls []) :=
  W.vret B.1.1 B.1.2.1 hr (fun t ht hW => ⟨⟨ρ, rfl, hq, by show WP E ρ t.heap; rw [ht]; exact hP⟩, hS.F ht⟩) hS.2.2 hd hlk
theorem ret_q {post : Option Nat → (Nat → Nat → Int32) → Prop} {C : String} (r : Option Nat) (B : MB p s m args c cc nL own E) (hr : meth.sig.returnType = some (.object C)) (hlk : meth.locks = false) (hP : WP E ρ H) (hS : va_S (hA E) s.heap H locs) (hd : decode cc pc = .ok (.areturn, 1)) (hq : post r ρ) : W p l e R s m args below meth c H locs cells slots (MQ below (cQ E post) args s cells slots (hA E)) (F0 m pc ls [va_rf r]) :=
  W.aret (v := va_rf r) B.1.1 B.1.2.1 hr (Or.inl ⟨C, rfl⟩) (by cases r with | none => exact Or.inl rfl | some a => exact Or.inr ⟨a, rfl⟩) (fun t ht hW => ⟨⟨r, ρ, rfl, hq, by show WP E ρ t.heap; rw [ht]; exact hP⟩, hS.F ht⟩) hS.2.2 hd hlk
/-- linkage of a call: the words and what a program decides -/
abbrev LkS (own : String) (idx : Nat) (y : MethodName) (cc : ByteArray) (maxL : Nat) (ret : Option FieldType) (n : Nat) : Prop := (Cond.methodLink own idx y ∈ gw_all ∧ Cond.static y ∈ gw_all ∧ Cond.initialized own ∈ gw_all ∧ Cond.code y cc maxL ret ∈ gw_all) ∧ (y.cls = own ∧ y.cls ≠ "java/lang/invoke/MethodHandle" ∧ y.cls ≠ "java/lang/invoke/VarHandle" ∧ (parseMethodDescriptor y.desc).map (fun d => d.parameters.length) = some n)
abbrev LkV (own : String) (idx : Nat) (C : String) (y : MethodName) (cc : ByteArray) (maxL : Nat) (ret : Option FieldType) (n : Nat) : Prop := (Cond.methodLink own idx y ∈ gw_all ∧ Cond.instanceMethod y ∈ gw_all ∧ Cond.selects C y y ∈ gw_all ∧ Cond.initialized C ∈ gw_all ∧ Cond.code y cc maxL ret ∈ gw_all) ∧ (y.cls = C ∧ y.cls ≠ "java/lang/invoke/MethodHandle" ∧ y.cls ≠ "java/lang/invoke/VarHandle" ∧ (parseMethodDescriptor y.desc).map (fun d => d.parameters.length) = some n)
abbrev LkN (own : String) (idx : Nat) (y : MethodName) (cc : ByteArray) (maxL : Nat) (ret : Option FieldType) (n : Nat) : Prop := ((own, idx, y, RX6) ∈ nws ∧ Cond.static y ∈ gw_all ∧ Cond.initialized y.cls ∈ gw_all ∧ Cond.code y cc maxL ret ∈ gw_all) ∧ (y.cls ≠ "java/lang/invoke/MethodHandle" ∧ y.cls ≠ "java/lang/invoke/VarHandle" ∧ (parseMethodDescriptor y.desc).map (fun d => d.parameters.length) = some n)
theorem gi {y : MethodName} {cc : ByteArray} {maxL : Nat} {ret : Option FieldType} {hd : List Cond} (h : ∀ w ∈ hd, w ∈ gw_all) (hc : Cond.code y cc maxL ret ∈ gw_all) : GoodIn gw_all (hd ++ (Cond.code y cc maxL ret :: gw_all)) := by
  intro w hw
  have hm : w ∈ gw_all := by
    rcases List.mem_append.mp hw with q | q
    · exact h w q
    · rcases List.mem_cons.mp q with rfl | q
      · exact hc
      · exact q
  exact ⟨hm, gwGood hm⟩
theorem pre_ok {av : List Value} (B : MB p s m args c cc nL own E) (hP : WP E ρ H) (hS : va_S (hA E) s.heap H locs) (U : State) (hU : U.heap = H) (hW : s.WarmedH U.vm) : cPre E ρ av av.toArray U := ⟨rfl, by rw [hU]; exact hP, B.2.warm hS hU hW⟩
theorem cS {y : MethodName} {cc' : ByteArray} {maxL' : Nat} {ret' : Option FieldType} {fr' lo' n idx : Nat} {av st : List Value} {Qc : Array Value → State → Outcome → State → Prop} (B : MB p s m args c cc nL own E) (hP : WP E ρ H) (hS : va_S (hA E) s.heap H locs) (hM : Met l y (.code y cc' maxL' ret' :: gw_all) (rmk fr' lo') (cPre E ρ av) Qc 0 0 (hA E)) (K : LkS own idx y cc' maxL' ret' n)
    (hn : av.length = n) (hst : st = av.reverse ++ rest) (hsz : ls.size = nL) (hro : (rest.map fun v => v.category).sum ≤ 8) (hR : fr' + 1 ≤ R.frames ∧ 8 + (maxL' + 11) + lo' ≤ R.locals) (hf : cells ≤ R.cells ∧ slots ≤ R.slots) (hd : decode cc pc = .ok (.invokestatic idx, 3)) :
    va_Run p l e R s m args below meth c H locs cells slots 0 0 (F0 m pc ls st) rest (Qc av.toArray) (hA E) := by
  obtain ⟨⟨k1, k2, k3, k4⟩, k5⟩ := K
  have hG : GoodIn gw_all (wsS own idx y (Cond.code y cc' maxL' ret' :: gw_all)) := gi (hd := [.methodLink own idx y, .static y, .initialized own]) (fun w hw => by
    rcases List.mem_cons.mp hw with rfl | hw
    · exact k1
    · rcases List.mem_cons.mp hw with rfl | hw
      · exact k2
      · rcases List.mem_cons.mp hw with rfl | hw
        · exact k3
        · cases hw) k4
  exact va_runS (As := av) (rest := rest) B.1 hM (cwS n B.1.2.2.2.2 hG rfl rfl rfl k5 hR) ⟨cPre_blind, fun U hU hW => pre_ok B hP hS U hU hW⟩ rfl hn hsz hst (lv_room hro) hd hf
theorem cN {y : MethodName} {cc' : ByteArray} {maxL' : Nat} {ret' : Option FieldType} {fr' lo' n idx : Nat} {av st : List Value} {Qc : Array Value → State → Outcome → State → Prop} (B : MB p s m args c cc nL own E) (hP : WP E ρ H) (hS : va_S (hA E) s.heap H locs) (hM : Met l y (.code y cc' maxL' ret' :: gw_all) (rmk fr' lo') (cPre E ρ av) Qc 0 0 (hA E)) (K : LkN own idx y cc' maxL' ret' n)
    (hn : av.length = n) (hst : st = av.reverse ++ rest) (hsz : ls.size = nL) (hro : (rest.map fun v => v.category).sum ≤ 8) (hR : fr' + 1 ≤ R.frames ∧ 8 + (maxL' + 11) + lo' ≤ R.locals) (hf : cells ≤ R.cells ∧ slots ≤ R.slots) (hd : decode cc pc = .ok (.invokestatic idx, 3)) :
    va_Run p l e R s m args below meth c H locs cells slots 0 0 (F0 m pc ls st) rest (Qc av.toArray) (hA E) := by
  obtain ⟨⟨k1, k2, k3, k4⟩, k5⟩ := K
  have hG : GoodIn gw_all (Cond.code y cc' maxL' ret' :: gw_all) := gi (hd := []) (fun w hw => by cases hw) k4
  exact va_runSN (As := av) (rest := rest) (host := RX6) B.1 hM ⟨va_cnB n B.1.2.2.2.2 hG rfl rfl rfl (B.2.2.1 _ k1) (B.1.2.2.2.2 _ k3) k5 hR, B.1.2.2.2.2 _ k2, trivial⟩ ⟨cPre_blind, fun U hU hW => pre_ok B hP hS U hU hW⟩ rfl hn hsz hst (lv_room hro) hd hf
theorem hrecv {C : String} {T : u_T} {ci N k : Nat} {fs : List Value} (B : MB p s m args c cc nL own E) (hP : WP E ρ H) (hk : k < 1090) (hc : hcc E k (ρ k) = .inr (ci, fs)) (hcl : vwCl[ci]? = some (C, T, N)) : ∃ cell : Cell, H[E.2.1 + k]? = some cell ∧ cell.vm.isStatics = false ∧ s.vm.findClass C = some cell.cls :=
  va_recv (q := (C, T, N)) (q0 := k) (ci := ci) (fs := fs) B.2.1 hP hcl (by rw [wl_at hk]; show some (_, hcc E k (ρ k)) = _; rw [hc])
theorem cVt {y : MethodName} {cc' : ByteArray} {maxL' : Nat} {ret' : Option FieldType} {fr' lo' n idx k : Nat} {C : String} {av st : List Value} {Qc : Array Value → State → Outcome → State → Prop} (B : MB p s m args c cc nL own E) (hP : WP E ρ H) (hS : va_S (hA E) s.heap H locs) (hM : Met l y (.code y cc' maxL' ret' :: gw_all) (rmk fr' lo') (cPre E ρ (.ref (E.2.1 + k) :: av)) Qc 0 0 (hA E)) (K : LkV own idx C y cc' maxL' ret' n)
    (hrec : ∃ cell : Cell, H[E.2.1 + k]? = some cell ∧ cell.vm.isStatics = false ∧ s.vm.findClass C = some cell.cls) (hn : av.length = n) (hst : st = av.reverse ++ .ref (E.2.1 + k) :: rest) (hsz : ls.size = nL) (hro : (rest.map fun v => v.category).sum ≤ 8) (hR : fr' + 1 ≤ R.frames ∧ 8 + (maxL' + 11) + lo' ≤ R.locals) (hf : cells ≤ R.cells ∧ slots ≤ R.slots) (hd : decode cc pc = .ok (.invokevirtual idx, 3)) :
    va_Run p l e R s m args below meth c H locs cells slots 0 0 (F0 m pc ls st) rest (Qc (Value.ref (E.2.1 + k) :: av).toArray) (hA E) := by
  obtain ⟨⟨k1, k2, k3, k4, k6⟩, k5⟩ := K
  have hG : GoodIn gw_all (wsV own idx C y (Cond.code y cc' maxL' ret' :: gw_all)) := gi (hd := [.methodLink own idx y, .instanceMethod y, .selects C y y, .initialized C]) (fun w hw => by
    rcases List.mem_cons.mp hw with rfl | hw
    · exact k1
    · rcases List.mem_cons.mp hw with rfl | hw
      · exact k2
      · rcases List.mem_cons.mp hw with rfl | hw
        · exact k3
        · rcases List.mem_cons.mp hw with rfl | hw
          · exact k4
          · cases hw) k6
  exact va_runV (As := av) (rest := rest) B.1 hM (cwV n B.1.2.2.2.2 hG rfl rfl rfl k5 hR) ⟨cPre_blind, hrec, fun U hU hW => pre_ok B hP hS U hU hW⟩ rfl hn hsz hst (lv_room hro) hd hf
theorem call_i {post : Int32 → (Nat → Nat → Int32) → Prop} {a : Array Value} {st : List Value} (hr : va_Run p l e R s m args below meth c H locs cells slots 0 0 (F0 m pc ls st) rest (cI E post a) (hA E)) (hS : va_S (hA E) s.heap H locs)
    (kk : ∀ (r : Int32) (ρ' : Nat → Nat → Int32) (H' : Heap) (locs' : List Loc), post r ρ' → WP E ρ' H' → va_S (hA E) s.heap H' locs' → W p l e R s m args below meth c H' locs' cells slots Q (F0 m (pc + 3) ls (.int r :: rest))) : W p l e R s m args below meth c H locs cells slots Q (F0 m pc ls st) :=
  va_calli hr hS (fun _ _ h => h) (fun _ h => h) (fun r u t H1 locs1 ht _ hp hb _ _ hS' => kk r u H1 locs1 hp (by have hb : WP E u t.heap := hb; rw [ht] at hb; exact hb) hS')
theorem call_v {post : (Nat → Nat → Int32) → Prop} {a : Array Value} {st : List Value} (hr : va_Run p l e R s m args below meth c H locs cells slots 0 0 (F0 m pc ls st) rest (cV E post a) (hA E)) (hS : va_S (hA E) s.heap H locs)
    (kk : ∀ (ρ' : Nat → Nat → Int32) (H' : Heap) (locs' : List Loc), post ρ' → WP E ρ' H' → va_S (hA E) s.heap H' locs' → W p l e R s m args below meth c H' locs' cells slots Q (F0 m (pc + 3) ls rest)) : W p l e R s m args below meth c H locs cells slots Q (F0 m pc ls st) :=
  va_callv hr hS (fun _ _ h => h) (fun _ h => h) (fun u t H1 locs1 ht _ hp hb _ _ hS' => kk u H1 locs1 hp (by have hb : WP E u t.heap := hb; rw [ht] at hb; exact hb) hS')
theorem call_q {post : Option Nat → (Nat → Nat → Int32) → Prop} {a : Array Value} {st : List Value} (hr : va_Run p l e R s m args below meth c H locs cells slots 0 0 (F0 m pc ls st) rest (cQ E post a) (hA E)) (hS : va_S (hA E) s.heap H locs)
    (kk : ∀ (r : Option Nat) (ρ' : Nat → Nat → Int32) (H' : Heap) (locs' : List Loc), post r ρ' → WP E ρ' H' → va_S (hA E) s.heap H' locs' → W p l e R s m args below meth c H' locs' cells slots Q (F0 m (pc + 3) ls (va_rf r :: rest))) : W p l e R s m args below meth c H locs cells slots Q (F0 m pc ls st) :=
  va_callq hr hS (fun _ _ h => h) (fun _ h => h) (fun r u t H1 locs1 ht _ hp hb _ _ hS' => kk r u H1 locs1 hp (by have hb : WP E u t.heap := hb; rw [ht] at hb; exact hb) hS')
theorem get0 {k idx : Nat} (B : MB p s m args c cc nL own E) (hP : WP E ρ H) (h : hk k = 0) (j : Nat) (hj : j < 6) (hw : Cond.fieldLink own idx RX0 (TX0 j).2.1 (TX0 j).2.2.1 ∈ gw_all) {v : Value} (hv : (fl0 E k (ρ k))[j]? = some v) (hd : decode cc pc = .ok (.getfield idx, 3)) (kk : W p l e R s m args below meth c H locs cells slots Q (F0 m (pc + 3) ls (v :: rest))) : W p l e R s m args below meth c H locs cells slots Q (F0 m pc ls (.ref (E.2.1 + k) :: rest)) := by
  have hlt := hk_lt h (by decide)
  refine va_get (D := E.1) (ci := 0) (C := RX0) (T := TX0) (N := 6) B.1.1 B.1.2.1 B.1.2.2.2.2 in0 B.1.2.2.2.1 B.2.1 hP k (fs := fl0 E k (ρ k)) ?_ rfl j hj (B.1.2.2.2.2 _ hw) (fun x hx => ?_) hv hd kk
  · rw [wl_at hlt]; show some (_, hcc E k (ρ k)) = _; rw [hcc0 _ _ h]
  · have e : ∀ j, j < 6 → (TX0 j).1 = RX0 := by decide +kernel
    rw [e j hj] at hx; exact hx
theorem put0 {k idx : Nat} {v : Int32} (B : MB p s m args c cc nL own E) (hP : WP E ρ H) (hS : va_S (hA E) s.heap H locs) (h : hk k = 0) (j : Nat) (hj : j < 6) (hw : Cond.fieldLink own idx RX0 (TX0 j).2.1 (TX0 j).2.2.1 ∈ gw_all) (hfin : (TX0 j).2.2.2 = false) (hn : narrow (tyX0 j) (.int v) = .int v) (hfit : fits (tyX0 j) (.int v) = true) (hset : (fl0 E k (ρ k)).set j (.int v) = fl0 E k (upd (ρ k) j v)) (hd : decode cc pc = .ok (.putfield idx, 3)) (kk : ∀ (H' : Heap) (locs' : List Loc), WP E (up ρ k j v) H' → va_S (hA E) s.heap H' locs' → W p l e R s m args below meth c H' locs' cells slots Q (F0 m (pc + 3) ls rest)) : W p l e R s m args below meth c H locs cells slots Q (F0 m pc ls (.int v :: .ref (E.2.1 + k) :: rest)) := by
  have hlt := hk_lt h (by decide)
  have e : ∀ j, j < 6 → (TX0 j).1 = RX0 := by decide +kernel
  refine va_put (D := E.1) (ci := 0) (C := RX0) (T := TX0) (N := 6) (ty := tyX0 j) B.1.1 B.1.2.1 B.1.2.2.2.2 in0 tyX0 tyX0_ok nmX0 B.1.2.2.2.1 B.2.1 hP (wl_D E _ _) hS k (fs := fl0 E k (ρ k)) ?_ rfl j hj (B.1.2.2.2.2 _ hw) (fun x hx => by rw [e j hj] at hx; exact hx) hfin (tyX0_ok j hj) hn hfit (by simp [fl0]; exact hj) hd (fun H1 locs1 h1 _ h3 => ?_)
  · rw [wl_at hlt]; show some (_, hcc E k (ρ k)) = _; rw [hcc0 _ _ h]
  · refine kk H1 locs1 ?_ h3
    rw [wl_set hlt, hset, ← hcc0 _ _ h, hcf_up] at h1
    exact h1
theorem get1 {k idx : Nat} (B : MB p s m args c cc nL own E) (hP : WP E ρ H) (h : hk k = 1) (j : Nat) (hj : j < 18) (hw : Cond.fieldLink own idx RX1 (TX1 j).2.1 (TX1 j).2.2.1 ∈ gw_all) {v : Value} (hv : (fl1 E k (ρ k))[j]? = some v) (hd : decode cc pc = .ok (.getfield idx, 3)) (kk : W p l e R s m args below meth c H locs cells slots Q (F0 m (pc + 3) ls (v :: rest))) : W p l e R s m args below meth c H locs cells slots Q (F0 m pc ls (.ref (E.2.1 + k) :: rest)) := by
  have hlt := hk_lt h (by decide)
  refine va_get (D := E.1) (ci := 1) (C := RX1) (T := TX1) (N := 18) B.1.1 B.1.2.1 B.1.2.2.2.2 in1 B.1.2.2.2.1 B.2.1 hP k (fs := fl1 E k (ρ k)) ?_ rfl j hj (B.1.2.2.2.2 _ hw) (fun x hx => ?_) hv hd kk
  · rw [wl_at hlt]; show some (_, hcc E k (ρ k)) = _; rw [hcc1 _ _ h]
  · have e : ∀ j, j < 18 → (TX1 j).1 = RX1 := by decide +kernel
    rw [e j hj] at hx; exact hx
theorem put1 {k idx : Nat} {v : Int32} (B : MB p s m args c cc nL own E) (hP : WP E ρ H) (hS : va_S (hA E) s.heap H locs) (h : hk k = 1) (j : Nat) (hj : j < 18) (hw : Cond.fieldLink own idx RX1 (TX1 j).2.1 (TX1 j).2.2.1 ∈ gw_all) (hfin : (TX1 j).2.2.2 = false) (hn : narrow (tyX1 j) (.int v) = .int v) (hfit : fits (tyX1 j) (.int v) = true) (hset : (fl1 E k (ρ k)).set j (.int v) = fl1 E k (upd (ρ k) j v)) (hd : decode cc pc = .ok (.putfield idx, 3)) (kk : ∀ (H' : Heap) (locs' : List Loc), WP E (up ρ k j v) H' → va_S (hA E) s.heap H' locs' → W p l e R s m args below meth c H' locs' cells slots Q (F0 m (pc + 3) ls rest)) : W p l e R s m args below meth c H locs cells slots Q (F0 m pc ls (.int v :: .ref (E.2.1 + k) :: rest)) := by
  have hlt := hk_lt h (by decide)
  have e : ∀ j, j < 18 → (TX1 j).1 = RX1 := by decide +kernel
  refine va_put (D := E.1) (ci := 1) (C := RX1) (T := TX1) (N := 18) (ty := tyX1 j) B.1.1 B.1.2.1 B.1.2.2.2.2 in1 tyX1 tyX1_ok nmX1 B.1.2.2.2.1 B.2.1 hP (wl_D E _ _) hS k (fs := fl1 E k (ρ k)) ?_ rfl j hj (B.1.2.2.2.2 _ hw) (fun x hx => by rw [e j hj] at hx; exact hx) hfin (tyX1_ok j hj) hn hfit (by simp [fl1]; exact hj) hd (fun H1 locs1 h1 _ h3 => ?_)
  · rw [wl_at hlt]; show some (_, hcc E k (ρ k)) = _; rw [hcc1 _ _ h]
  · refine kk H1 locs1 ?_ h3
    rw [wl_set hlt, hset, ← hcc1 _ _ h, hcf_up] at h1
    exact h1
theorem get2 {k idx : Nat} (B : MB p s m args c cc nL own E) (hP : WP E ρ H) (h : hk k = 2) (j : Nat) (hj : j < 20) (hw : Cond.fieldLink own idx RX2 (TX2 j).2.1 (TX2 j).2.2.1 ∈ gw_all) {v : Value} (hv : (fl2 E k (ρ k))[j]? = some v) (hd : decode cc pc = .ok (.getfield idx, 3)) (kk : W p l e R s m args below meth c H locs cells slots Q (F0 m (pc + 3) ls (v :: rest))) : W p l e R s m args below meth c H locs cells slots Q (F0 m pc ls (.ref (E.2.1 + k) :: rest)) := by
  have hlt := hk_lt h (by decide)
  refine va_get (D := E.1) (ci := 2) (C := RX2) (T := TX2) (N := 20) B.1.1 B.1.2.1 B.1.2.2.2.2 in2 B.1.2.2.2.1 B.2.1 hP k (fs := fl2 E k (ρ k)) ?_ rfl j hj (B.1.2.2.2.2 _ hw) (fun x hx => ?_) hv hd kk
  · rw [wl_at hlt]; show some (_, hcc E k (ρ k)) = _; rw [hcc2 _ _ h]
  · have e : ∀ j, j < 20 → (TX2 j).1 = RX2 := by decide +kernel
    rw [e j hj] at hx; exact hx
theorem put2 {k idx : Nat} {v : Int32} (B : MB p s m args c cc nL own E) (hP : WP E ρ H) (hS : va_S (hA E) s.heap H locs) (h : hk k = 2) (j : Nat) (hj : j < 20) (hw : Cond.fieldLink own idx RX2 (TX2 j).2.1 (TX2 j).2.2.1 ∈ gw_all) (hfin : (TX2 j).2.2.2 = false) (hn : narrow (tyX2 j) (.int v) = .int v) (hfit : fits (tyX2 j) (.int v) = true) (hset : (fl2 E k (ρ k)).set j (.int v) = fl2 E k (upd (ρ k) j v)) (hd : decode cc pc = .ok (.putfield idx, 3)) (kk : ∀ (H' : Heap) (locs' : List Loc), WP E (up ρ k j v) H' → va_S (hA E) s.heap H' locs' → W p l e R s m args below meth c H' locs' cells slots Q (F0 m (pc + 3) ls rest)) : W p l e R s m args below meth c H locs cells slots Q (F0 m pc ls (.int v :: .ref (E.2.1 + k) :: rest)) := by
  have hlt := hk_lt h (by decide)
  have e : ∀ j, j < 20 → (TX2 j).1 = RX2 := by decide +kernel
  refine va_put (D := E.1) (ci := 2) (C := RX2) (T := TX2) (N := 20) (ty := tyX2 j) B.1.1 B.1.2.1 B.1.2.2.2.2 in2 tyX2 tyX2_ok nmX2 B.1.2.2.2.1 B.2.1 hP (wl_D E _ _) hS k (fs := fl2 E k (ρ k)) ?_ rfl j hj (B.1.2.2.2.2 _ hw) (fun x hx => by rw [e j hj] at hx; exact hx) hfin (tyX2_ok j hj) hn hfit (by simp [fl2]; exact hj) hd (fun H1 locs1 h1 _ h3 => ?_)
  · rw [wl_at hlt]; show some (_, hcc E k (ρ k)) = _; rw [hcc2 _ _ h]
  · refine kk H1 locs1 ?_ h3
    rw [wl_set hlt, hset, ← hcc2 _ _ h, hcf_up] at h1
    exact h1
theorem get3 {k idx : Nat} (B : MB p s m args c cc nL own E) (hP : WP E ρ H) (h : hk k = 3) (j : Nat) (hj : j < 3) (hw : Cond.fieldLink own idx RX3 (TX3 j).2.1 (TX3 j).2.2.1 ∈ gw_all) {v : Value} (hv : (fl3 E k (ρ k))[j]? = some v) (hd : decode cc pc = .ok (.getfield idx, 3)) (kk : W p l e R s m args below meth c H locs cells slots Q (F0 m (pc + 3) ls (v :: rest))) : W p l e R s m args below meth c H locs cells slots Q (F0 m pc ls (.ref (E.2.1 + k) :: rest)) := by
  have hlt := hk_lt h (by decide)
  refine va_get (D := E.1) (ci := 3) (C := RX3) (T := TX3) (N := 3) B.1.1 B.1.2.1 B.1.2.2.2.2 in3 B.1.2.2.2.1 B.2.1 hP k (fs := fl3 E k (ρ k)) ?_ rfl j hj (B.1.2.2.2.2 _ hw) (fun x hx => ?_) hv hd kk
  · rw [wl_at hlt]; show some (_, hcc E k (ρ k)) = _; rw [hcc3 _ _ h]
  · have e : ∀ j, j < 3 → (TX3 j).1 = RX3 := by decide +kernel
    rw [e j hj] at hx; exact hx
theorem put3 {k idx : Nat} {v : Int32} (B : MB p s m args c cc nL own E) (hP : WP E ρ H) (hS : va_S (hA E) s.heap H locs) (h : hk k = 3) (j : Nat) (hj : j < 3) (hw : Cond.fieldLink own idx RX3 (TX3 j).2.1 (TX3 j).2.2.1 ∈ gw_all) (hfin : (TX3 j).2.2.2 = false) (hn : narrow (tyX3 j) (.int v) = .int v) (hfit : fits (tyX3 j) (.int v) = true) (hset : (fl3 E k (ρ k)).set j (.int v) = fl3 E k (upd (ρ k) j v)) (hd : decode cc pc = .ok (.putfield idx, 3)) (kk : ∀ (H' : Heap) (locs' : List Loc), WP E (up ρ k j v) H' → va_S (hA E) s.heap H' locs' → W p l e R s m args below meth c H' locs' cells slots Q (F0 m (pc + 3) ls rest)) : W p l e R s m args below meth c H locs cells slots Q (F0 m pc ls (.int v :: .ref (E.2.1 + k) :: rest)) := by
  have hlt := hk_lt h (by decide)
  have e : ∀ j, j < 3 → (TX3 j).1 = RX3 := by decide +kernel
  refine va_put (D := E.1) (ci := 3) (C := RX3) (T := TX3) (N := 3) (ty := tyX3 j) B.1.1 B.1.2.1 B.1.2.2.2.2 in3 tyX3 tyX3_ok nmX3 B.1.2.2.2.1 B.2.1 hP (wl_D E _ _) hS k (fs := fl3 E k (ρ k)) ?_ rfl j hj (B.1.2.2.2.2 _ hw) (fun x hx => by rw [e j hj] at hx; exact hx) hfin (tyX3_ok j hj) hn hfit (by simp [fl3]; exact hj) hd (fun H1 locs1 h1 _ h3 => ?_)
  · rw [wl_at hlt]; show some (_, hcc E k (ρ k)) = _; rw [hcc3 _ _ h]
  · refine kk H1 locs1 ?_ h3
    rw [wl_set hlt, hset, ← hcc3 _ _ h, hcf_up] at h1
    exact h1
theorem get4 {k idx : Nat} (B : MB p s m args c cc nL own E) (hP : WP E ρ H) (h : hk k = 4) (j : Nat) (hj : j < 8) (hw : Cond.fieldLink own idx RX4 (TX4 j).2.1 (TX4 j).2.2.1 ∈ gw_all) {v : Value} (hv : (fl4 E k (ρ k))[j]? = some v) (hd : decode cc pc = .ok (.getfield idx, 3)) (kk : W p l e R s m args below meth c H locs cells slots Q (F0 m (pc + 3) ls (v :: rest))) : W p l e R s m args below meth c H locs cells slots Q (F0 m pc ls (.ref (E.2.1 + k) :: rest)) := by
  have hlt := hk_lt h (by decide)
  refine va_get (D := E.1) (ci := 4) (C := RX4) (T := TX4) (N := 8) B.1.1 B.1.2.1 B.1.2.2.2.2 in4 B.1.2.2.2.1 B.2.1 hP k (fs := fl4 E k (ρ k)) ?_ rfl j hj (B.1.2.2.2.2 _ hw) (fun x hx => ?_) hv hd kk
  · rw [wl_at hlt]; show some (_, hcc E k (ρ k)) = _; rw [hcc4 _ _ h]
  · have e : ∀ j, j < 8 → (TX4 j).1 = RX4 := by decide +kernel
    rw [e j hj] at hx; exact hx
theorem put4 {k idx : Nat} {v : Int32} (B : MB p s m args c cc nL own E) (hP : WP E ρ H) (hS : va_S (hA E) s.heap H locs) (h : hk k = 4) (j : Nat) (hj : j < 8) (hw : Cond.fieldLink own idx RX4 (TX4 j).2.1 (TX4 j).2.2.1 ∈ gw_all) (hfin : (TX4 j).2.2.2 = false) (hn : narrow (tyX4 j) (.int v) = .int v) (hfit : fits (tyX4 j) (.int v) = true) (hset : (fl4 E k (ρ k)).set j (.int v) = fl4 E k (upd (ρ k) j v)) (hd : decode cc pc = .ok (.putfield idx, 3)) (kk : ∀ (H' : Heap) (locs' : List Loc), WP E (up ρ k j v) H' → va_S (hA E) s.heap H' locs' → W p l e R s m args below meth c H' locs' cells slots Q (F0 m (pc + 3) ls rest)) : W p l e R s m args below meth c H locs cells slots Q (F0 m pc ls (.int v :: .ref (E.2.1 + k) :: rest)) := by
  have hlt := hk_lt h (by decide)
  have e : ∀ j, j < 8 → (TX4 j).1 = RX4 := by decide +kernel
  refine va_put (D := E.1) (ci := 4) (C := RX4) (T := TX4) (N := 8) (ty := tyX4 j) B.1.1 B.1.2.1 B.1.2.2.2.2 in4 tyX4 tyX4_ok nmX4 B.1.2.2.2.1 B.2.1 hP (wl_D E _ _) hS k (fs := fl4 E k (ρ k)) ?_ rfl j hj (B.1.2.2.2.2 _ hw) (fun x hx => by rw [e j hj] at hx; exact hx) hfin (tyX4_ok j hj) hn hfit (by simp [fl4]; exact hj) hd (fun H1 locs1 h1 _ h3 => ?_)
  · rw [wl_at hlt]; show some (_, hcc E k (ρ k)) = _; rw [hcc4 _ _ h]
  · refine kk H1 locs1 ?_ h3
    rw [wl_set hlt, hset, ← hcc4 _ _ h, hcf_up] at h1
    exact h1
theorem get5 {k idx : Nat} (B : MB p s m args c cc nL own E) (hP : WP E ρ H) (h : hk k = 5) (j : Nat) (hj : j < 10) (hw : Cond.fieldLink own idx RX5 (TX5 j).2.1 (TX5 j).2.2.1 ∈ gw_all) {v : Value} (hv : (fl5 E k (ρ k))[j]? = some v) (hd : decode cc pc = .ok (.getfield idx, 3)) (kk : W p l e R s m args below meth c H locs cells slots Q (F0 m (pc + 3) ls (v :: rest))) : W p l e R s m args below meth c H locs cells slots Q (F0 m pc ls (.ref (E.2.1 + k) :: rest)) := by
  have hlt := hk_lt h (by decide)
  refine va_get (D := E.1) (ci := 5) (C := RX5) (T := TX5) (N := 10) B.1.1 B.1.2.1 B.1.2.2.2.2 in5 B.1.2.2.2.1 B.2.1 hP k (fs := fl5 E k (ρ k)) ?_ rfl j hj (B.1.2.2.2.2 _ hw) (fun x hx => ?_) hv hd kk
  · rw [wl_at hlt]; show some (_, hcc E k (ρ k)) = _; rw [hcc5 _ _ h]
  · have e : ∀ j, j < 10 → (TX5 j).1 = RX5 := by decide +kernel
    rw [e j hj] at hx; exact hx
theorem put5 {k idx : Nat} {v : Int32} (B : MB p s m args c cc nL own E) (hP : WP E ρ H) (hS : va_S (hA E) s.heap H locs) (h : hk k = 5) (j : Nat) (hj : j < 10) (hw : Cond.fieldLink own idx RX5 (TX5 j).2.1 (TX5 j).2.2.1 ∈ gw_all) (hfin : (TX5 j).2.2.2 = false) (hn : narrow (tyX5 j) (.int v) = .int v) (hfit : fits (tyX5 j) (.int v) = true) (hset : (fl5 E k (ρ k)).set j (.int v) = fl5 E k (upd (ρ k) j v)) (hd : decode cc pc = .ok (.putfield idx, 3)) (kk : ∀ (H' : Heap) (locs' : List Loc), WP E (up ρ k j v) H' → va_S (hA E) s.heap H' locs' → W p l e R s m args below meth c H' locs' cells slots Q (F0 m (pc + 3) ls rest)) : W p l e R s m args below meth c H locs cells slots Q (F0 m pc ls (.int v :: .ref (E.2.1 + k) :: rest)) := by
  have hlt := hk_lt h (by decide)
  have e : ∀ j, j < 10 → (TX5 j).1 = RX5 := by decide +kernel
  refine va_put (D := E.1) (ci := 5) (C := RX5) (T := TX5) (N := 10) (ty := tyX5 j) B.1.1 B.1.2.1 B.1.2.2.2.2 in5 tyX5 tyX5_ok nmX5 B.1.2.2.2.1 B.2.1 hP (wl_D E _ _) hS k (fs := fl5 E k (ρ k)) ?_ rfl j hj (B.1.2.2.2.2 _ hw) (fun x hx => by rw [e j hj] at hx; exact hx) hfin (tyX5_ok j hj) hn hfit (by simp [fl5]; exact hj) hd (fun H1 locs1 h1 _ h3 => ?_)
  · rw [wl_at hlt]; show some (_, hcc E k (ρ k)) = _; rw [hcc5 _ _ h]
  · refine kk H1 locs1 ?_ h3
    rw [wl_set hlt, hset, ← hcc5 _ _ h, hcf_up] at h1
    exact h1
theorem get6 {k idx : Nat} (B : MB p s m args c cc nL own E) (hP : WP E ρ H) (h : hk k = 6) (j : Nat) (hj : j < 12) (hw : Cond.fieldLink own idx RX6 (TX6 j).2.1 (TX6 j).2.2.1 ∈ gw_all) {v : Value} (hv : (fl6 E k (ρ k))[j]? = some v) (hd : decode cc pc = .ok (.getfield idx, 3)) (kk : W p l e R s m args below meth c H locs cells slots Q (F0 m (pc + 3) ls (v :: rest))) : W p l e R s m args below meth c H locs cells slots Q (F0 m pc ls (.ref (E.2.1 + k) :: rest)) := by
  have hlt := hk_lt h (by decide)
  refine va_get (D := E.1) (ci := 6) (C := RX6) (T := TX6) (N := 12) B.1.1 B.1.2.1 B.1.2.2.2.2 in6 B.1.2.2.2.1 B.2.1 hP k (fs := fl6 E k (ρ k)) ?_ rfl j hj (B.1.2.2.2.2 _ hw) (fun x hx => ?_) hv hd kk
  · rw [wl_at hlt]; show some (_, hcc E k (ρ k)) = _; rw [hcc6 _ _ h]
  · have e : ∀ j, j < 12 → (TX6 j).1 = RX6 := by decide +kernel
    rw [e j hj] at hx; exact hx
theorem put6 {k idx : Nat} {v : Int32} (B : MB p s m args c cc nL own E) (hP : WP E ρ H) (hS : va_S (hA E) s.heap H locs) (h : hk k = 6) (j : Nat) (hj : j < 12) (hw : Cond.fieldLink own idx RX6 (TX6 j).2.1 (TX6 j).2.2.1 ∈ gw_all) (hfin : (TX6 j).2.2.2 = false) (hn : narrow (tyX6 j) (.int v) = .int v) (hfit : fits (tyX6 j) (.int v) = true) (hset : (fl6 E k (ρ k)).set j (.int v) = fl6 E k (upd (ρ k) j v)) (hd : decode cc pc = .ok (.putfield idx, 3)) (kk : ∀ (H' : Heap) (locs' : List Loc), WP E (up ρ k j v) H' → va_S (hA E) s.heap H' locs' → W p l e R s m args below meth c H' locs' cells slots Q (F0 m (pc + 3) ls rest)) : W p l e R s m args below meth c H locs cells slots Q (F0 m pc ls (.int v :: .ref (E.2.1 + k) :: rest)) := by
  have hlt := hk_lt h (by decide)
  have e : ∀ j, j < 12 → (TX6 j).1 = RX6 := by decide +kernel
  refine va_put (D := E.1) (ci := 6) (C := RX6) (T := TX6) (N := 12) (ty := tyX6 j) B.1.1 B.1.2.1 B.1.2.2.2.2 in6 tyX6 tyX6_ok nmX6 B.1.2.2.2.1 B.2.1 hP (wl_D E _ _) hS k (fs := fl6 E k (ρ k)) ?_ rfl j hj (B.1.2.2.2.2 _ hw) (fun x hx => by rw [e j hj] at hx; exact hx) hfin (tyX6_ok j hj) hn hfit (by simp [fl6]; exact hj) hd (fun H1 locs1 h1 _ h3 => ?_)
  · rw [wl_at hlt]; show some (_, hcc E k (ρ k)) = _; rw [hcc6 _ _ h]
  · refine kk H1 locs1 ?_ h3
    rw [wl_set hlt, hset, ← hcc6 _ _ h, hcf_up] at h1
    exact h1
theorem get7 {k idx : Nat} (B : MB p s m args c cc nL own E) (hP : WP E ρ H) (h : hk k = 7) (j : Nat) (hj : j < 18) (hw : Cond.fieldLink own idx RX7 (TX7 j).2.1 (TX7 j).2.2.1 ∈ gw_all) {v : Value} (hv : (fl7 E k (ρ k))[j]? = some v) (hd : decode cc pc = .ok (.getfield idx, 3)) (kk : W p l e R s m args below meth c H locs cells slots Q (F0 m (pc + 3) ls (v :: rest))) : W p l e R s m args below meth c H locs cells slots Q (F0 m pc ls (.ref (E.2.1 + k) :: rest)) := by
  have hlt := hk_lt h (by decide)
  refine va_get (D := E.1) (ci := 7) (C := RX7) (T := TX7) (N := 18) B.1.1 B.1.2.1 B.1.2.2.2.2 in7 B.1.2.2.2.1 B.2.1 hP k (fs := fl7 E k (ρ k)) ?_ rfl j hj (B.1.2.2.2.2 _ hw) (fun x hx => ?_) hv hd kk
  · rw [wl_at hlt]; show some (_, hcc E k (ρ k)) = _; rw [hcc7 _ _ h]
  · have e : ∀ j, j < 18 → (TX7 j).1 = RX7 := by decide +kernel
    rw [e j hj] at hx; exact hx
theorem put7 {k idx : Nat} {v : Int32} (B : MB p s m args c cc nL own E) (hP : WP E ρ H) (hS : va_S (hA E) s.heap H locs) (h : hk k = 7) (j : Nat) (hj : j < 18) (hw : Cond.fieldLink own idx RX7 (TX7 j).2.1 (TX7 j).2.2.1 ∈ gw_all) (hfin : (TX7 j).2.2.2 = false) (hn : narrow (tyX7 j) (.int v) = .int v) (hfit : fits (tyX7 j) (.int v) = true) (hset : (fl7 E k (ρ k)).set j (.int v) = fl7 E k (upd (ρ k) j v)) (hd : decode cc pc = .ok (.putfield idx, 3)) (kk : ∀ (H' : Heap) (locs' : List Loc), WP E (up ρ k j v) H' → va_S (hA E) s.heap H' locs' → W p l e R s m args below meth c H' locs' cells slots Q (F0 m (pc + 3) ls rest)) : W p l e R s m args below meth c H locs cells slots Q (F0 m pc ls (.int v :: .ref (E.2.1 + k) :: rest)) := by
  have hlt := hk_lt h (by decide)
  have e : ∀ j, j < 18 → (TX7 j).1 = RX7 := by decide +kernel
  refine va_put (D := E.1) (ci := 7) (C := RX7) (T := TX7) (N := 18) (ty := tyX7 j) B.1.1 B.1.2.1 B.1.2.2.2.2 in7 tyX7 tyX7_ok nmX7 B.1.2.2.2.1 B.2.1 hP (wl_D E _ _) hS k (fs := fl7 E k (ρ k)) ?_ rfl j hj (B.1.2.2.2.2 _ hw) (fun x hx => by rw [e j hj] at hx; exact hx) hfin (tyX7_ok j hj) hn hfit (by simp [fl7]; exact hj) hd (fun H1 locs1 h1 _ h3 => ?_)
  · rw [wl_at hlt]; show some (_, hcc E k (ρ k)) = _; rw [hcc7 _ _ h]
  · refine kk H1 locs1 ?_ h3
    rw [wl_set hlt, hset, ← hcc7 _ _ h, hcf_up] at h1
    exact h1
/-- an int array -/
theorem ald {k n : Nat} {i : Int32} (B : MB p s m args c cc nL own E) (hP : WP E ρ H) (h : hk k = 8) (hl : hlen k = n) (hin : vp_in i n) (hd : decode cc pc = .ok (.iaload, 1)) (kk : W p l e R s m args below meth c H locs cells slots Q (F0 m (pc + 1) ls (.int (ρ k i.toNatClampNeg) :: rest))) : W p l e R s m args below meth c H locs cells slots Q (F0 m pc ls (.int i :: .ref (E.2.1 + k) :: rest)) :=
  va_iald (D := E.1) B.1.1 B.1.2.1 B.2.1 hP k 0 (by rw [wl_at (hk_lt h (by decide))]; show some (_, hcc E k (ρ k)) = _; rw [hcc8 _ _ h]) rfl (by rw [hl]; exact hin) hd kk
theorem zld {k n : Nat} {i : Int32} (B : MB p s m args c cc nL own E) (hP : WP E ρ H) (h : hk k = 9) (hl : hlen k = n) (hin : vp_in i n) (hd : decode cc pc = .ok (.baload, 1)) (kk : W p l e R s m args below meth c H locs cells slots Q (F0 m (pc + 1) ls (.int (ρ k i.toNatClampNeg) :: rest))) : W p l e R s m args below meth c H locs cells slots Q (F0 m pc ls (.int i :: .ref (E.2.1 + k) :: rest)) :=
  va_zald (D := E.1) B.1.1 B.1.2.1 B.2.1 hP k 1 (by rw [wl_at (hk_lt h (by decide))]; show some (_, hcc E k (ρ k)) = _; rw [hcc9 _ _ h]) rfl (by rw [hl]; exact hin) hd kk
theorem ast {k n : Nat} {i x : Int32} (B : MB p s m args c cc nL own E) (hP : WP E ρ H) (hS : va_S (hA E) s.heap H locs) (h : hk k = 8) (hl : hlen k = n) (hin : vp_in i n) (hd : decode cc pc = .ok (.iastore, 1)) (kk : ∀ (H' : Heap) (locs' : List Loc), WP E (up ρ k i.toNatClampNeg x) H' → va_S (hA E) s.heap H' locs' → W p l e R s m args below meth c H' locs' cells slots Q (F0 m (pc + 1) ls rest)) : W p l e R s m args below meth c H locs cells slots Q (F0 m pc ls (.int x :: .int i :: .ref (E.2.1 + k) :: rest)) := by
  have hlt := hk_lt h (by decide)
  refine va_iast (D := E.1) (cA := E.2.2.1 0) (n := hlen k) (f := ρ k) B.1.1 B.1.2.1 B.2.1 hP (wl_D E _ _) hS k 0 ?_ rfl (by rw [hl]; exact hin) hd (fun H1 locs1 h1 _ h3 => ?_)
  · rw [wl_at hlt]; show some (_, hcc E k (ρ k)) = _; rw [hcc8 _ _ h]
  · refine kk H1 locs1 ?_ h3
    rw [wl_set hlt, ← hcc8 _ _ h, hcf_up] at h1
    exact h1
theorem zst {k n : Nat} {i x : Int32} (B : MB p s m args c cc nL own E) (hP : WP E ρ H) (hS : va_S (hA E) s.heap H locs) (h : hk k = 9) (hl : hlen k = n) (hin : vp_in i n) (hx : vp_nar .boolean x = x) (hd : decode cc pc = .ok (.bastore, 1)) (kk : ∀ (H' : Heap) (locs' : List Loc), WP E (up ρ k i.toNatClampNeg x) H' → va_S (hA E) s.heap H' locs' → W p l e R s m args below meth c H' locs' cells slots Q (F0 m (pc + 1) ls rest)) : W p l e R s m args below meth c H locs cells slots Q (F0 m pc ls (.int x :: .int i :: .ref (E.2.1 + k) :: rest)) := by
  have hlt := hk_lt h (by decide)
  refine va_zast (D := E.1) (cA := E.2.2.1 1) (n := hlen k) (f := ρ k) B.1.1 B.1.2.1 B.2.1 hP (wl_D E _ _) hS k 1 ?_ rfl (by rw [hl]; exact hin) hd (fun H1 locs1 h1 _ h3 => ?_)
  · rw [wl_at hlt]; show some (_, hcc E k (ρ k)) = _; rw [hcc9 _ _ h]
  · refine kk H1 locs1 ?_ h3
    rw [hx, wl_set hlt, ← hcc9 _ _ h, hcf_up] at h1
    exact h1
theorem alen8 {k n : Nat} {v : Int32} (B : MB p s m args c cc nL own E) (hP : WP E ρ H) (h : hk k = 8) (hl : hlen k = n) (hv : Int32.ofNat n = v) (hd : decode cc pc = .ok (.arraylength, 1)) (kk : W p l e R s m args below meth c H locs cells slots Q (F0 m (pc + 1) ls (.int v :: rest))) : W p l e R s m args below meth c H locs cells slots Q (F0 m pc ls (.ref (E.2.1 + k) :: rest)) :=
  va_alen (D := E.1) (x := (hlen k, .inl (ρ k))) B.1.1 B.1.2.1 B.2.1 hP k 0 (by rw [wl_at (hk_lt h (by decide))]; show some (_, hcc E k (ρ k)) = _; rw [hcc8 _ _ h]) (ty := .int) rfl (by show Int32.ofNat (hlen k) = v; rw [hl]; exact hv) hd kk
/-- nets[n], images[i], past[i], links[i] -/
theorem aldN {k : Nat} {i : Int32} (B : MB p s m args c cc nL own E) (hP : WP E ρ H) (h : hk k = 11) (hin : vp_in i 2) (hl : hlen k = 2) (hd : decode cc pc = .ok (.aaload, 1)) (kk : W p l e R s m args below meth c H locs cells slots Q (F0 m (pc + 1) ls (.ref (E.2.1 + (k + 1 + 42 * i.toNatClampNeg)) :: rest))) : W p l e R s m args below meth c H locs cells slots Q (F0 m pc ls (.int i :: .ref (E.2.1 + k) :: rest)) :=
  va_aldq (D := E.1) (C := RX2) (f := fun i => some (E.2.1 + (k + 1 + 42 * i))) B.1.1 B.1.2.1 B.2.1 hP k 3 (by rw [wl_at (hk_lt h (by decide))]; show some (_, hcc E k (ρ k)) = _; rw [hcc11 _ _ h]) rfl (by rw [hl]; exact hin) hd kk
theorem aldW {k n : Nat} {i : Int32} (B : MB p s m args c cc nL own E) (hP : WP E ρ H) (h : hk k = 12) (hl : hlen k = n) (hin : vp_in i n) (hd : decode cc pc = .ok (.aaload, 1)) (kk : W p l e R s m args below meth c H locs cells slots Q (F0 m (pc + 1) ls (.ref (E.2.1 + (hw k + 89 * i.toNatClampNeg)) :: rest))) : W p l e R s m args below meth c H locs cells slots Q (F0 m pc ls (.int i :: .ref (E.2.1 + k) :: rest)) :=
  va_aldq (D := E.1) (C := RX5) (f := fun i => some (E.2.1 + (hw k + 89 * i))) B.1.1 B.1.2.1 B.2.1 hP k 4 (by rw [wl_at (hk_lt h (by decide))]; show some (_, hcc E k (ρ k)) = _; rw [hcc12 _ _ h]) rfl (by rw [hl]; exact hin) hd kk
theorem aldL {k : Nat} {i : Int32} (B : MB p s m args c cc nL own E) (hP : WP E ρ H) (h : hk k = 10) (hl : hlen k = 4) (hin : vp_in i 4) (hd : decode cc pc = .ok (.aaload, 1)) (kk : W p l e R s m args below meth c H locs cells slots Q (F0 m (pc + 1) ls (.ref (E.2.1 + (ρ k i.toNatClampNeg).toNatClampNeg) :: rest))) : W p l e R s m args below meth c H locs cells slots Q (F0 m pc ls (.int i :: .ref (E.2.1 + k) :: rest)) :=
  va_aldq (D := E.1) (C := RX1) (f := fun i => some (E.2.1 + (ρ k i).toNatClampNeg)) B.1.1 B.1.2.1 B.2.1 hP k 2 (by rw [wl_at (hk_lt h (by decide))]; show some (_, hcc E k (ρ k)) = _; rw [hcc10 _ _ h]) rfl (by rw [hl]; exact hin) hd kk
/-- System.arraycopy of ints, whole rows -/
theorem acopy {k0 k1 n idx : Nat} {n32 : Int32} (B : MB p s m args c cc nL own E) (hP : WP E ρ H) (hS : va_S (hA E) s.heap H locs) (h0 : hk k0 = 8) (h1 : hk k1 = 8) (l0 : hlen k0 = n) (l1 : hlen k1 = n) (hn : n32 = nI n) (hn31 : n < 2 ^ 31) (hsz : ls.size = nL) (hw : Cond.methodLink own idx arraycopyName ∈ gw_all) (hwn : Cond.native arraycopyName ∈ gw_all) (hws : Cond.static arraycopyName ∈ gw_all) (hwi : Cond.initialized RJ10 ∈ gw_all) (hfr : 1 ≤ R.frames) (hlo : (rest.map fun v => v.category).sum + (nativeFrameWords "java/lang/System" "arraycopy" 5 + 11) ≤ R.locals) (hd : decode cc pc = .ok (.invokestatic idx, 3))
    (kk : ∀ (H' : Heap) (locs' : List Loc), WP E (upc ρ k1 (va_cpy (ρ k0) (ρ k1) 0 0 n)) H' → va_S (hA E) s.heap H' locs' → W p l e R s m args below meth c H' locs' cells slots Q (F0 m (pc + 3) ls rest)) : W p l e R s m args below meth c H locs cells slots Q (F0 m pc ls (.int n32 :: .int 0 :: .ref (E.2.1 + k1) :: .int 0 :: .ref (E.2.1 + k0) :: rest)) := by
  have hlt0 := hk_lt h0 (by decide)
  have hlt1 := hk_lt h1 (by decide)
  subst hn
  have z0 : (0 : Int32).toNatClampNeg = 0 := rfl
  refine va_copyi (D := E.1) (c0 := E.2.2.1 0) (c1 := E.2.2.1 0) (n0 := hlen k0) (n1 := hlen k1) (f := ρ k0) (g := ρ k1) (ty := .int) B.1.1 B.1.2.1 (by rw [hsz]; exact B.1.2.2.1) B.1.2.2.2.1 (B.1.2.2.2.2 _ hw) (B.1.2.2.2.2 _ hwn) (B.1.2.2.2.2 _ hws) (B.1.2.2.2.2 _ hwi) B.2.1 hP (wl_D E _ _) hS k0 k1 0 0 ?_ ?_ rfl rfl rfl (by decide) (by decide) (nI_pos hn31) ?_ ?_ (fun _ _ => rfl) hfr hlo hd (fun H1 locs1 q1 _ q3 => ?_)
  · rw [wl_at hlt0]; show some (_, hcc E k0 (ρ k0)) = _; rw [hcc8 _ _ h0]
  · rw [wl_at hlt1]; show some (_, hcc E k1 (ρ k1)) = _; rw [hcc8 _ _ h1]
  · rw [z0, nI_clamp hn31, l0]; omega
  · rw [z0, nI_clamp hn31, l1]; omega
  · refine kk H1 locs1 ?_ q3
    rw [wl_set hlt1, z0, nI_clamp hn31, ← hcc8 _ _ h1, hcf_up] at q1
    exact q1
end XR
end
section
theorem up_get_at {ρ : Nat → Nat → Int32} {k j : Nat} {v : Int32} : up ρ k j v k j = v := by simp [up, upd]
theorem up_get_ne {ρ : Nat → Nat → Int32} {k j k' j' : Nat} {v x : Int32} (h : k' ≠ k ∨ j' ≠ j) (hx : ρ k' j' = x) : up ρ k j v k' j' = x := by
  by_cases e : k' = k
  · subst e
    have hj : j' ≠ j := h.resolve_left (fun q => q rfl)
    simp [up, upd, hj]
    exact hx
  · simp [up, e]
    exact hx
theorem sw_split {x : Int32} {lo hi : Int} (_ : lo ≤ hi) : (x.toInt < lo ∨ hi < x.toInt) ∨ (lo ≤ x.toInt ∧ x.toInt ≤ hi) := by omega
theorem sw_step {x : Int32} {n n' hi : Int} (hn : n + 1 = n') (h : n ≤ x.toInt ∧ x.toInt ≤ hi) : x.toInt = n ∨ (n' ≤ x.toInt ∧ x.toInt ≤ hi) := by omega
theorem sw_last {x : Int32} {n : Int} (h : n ≤ x.toInt ∧ x.toInt ≤ n) : x.toInt = n := by omega
theorem nar_b {v : Int32} (h : v = 0 ∨ v = 1) : narrow .boolean (.int v) = .int v := by rcases h with rfl | rfl <;> rfl
theorem fit_b {v : Int32} (h : v = 0 ∨ v = 1) : fits .boolean (.int v) = true := by rcases h with rfl | rfl <;> rfl
theorem narb {v : Int32} (h : v = 0 ∨ v = 1) : vp_nar .boolean v = v := by rcases h with rfl | rfl <;> rfl
theorem ix_of {x L : Int32} {n : Nat} (hL : L.toInt = n) (h0 : ¬ x < 0) (h1 : ¬ L ≤ x) : ∃ j : Nat, j < n ∧ x = nI j := by
  obtain ⟨j, hj, e⟩ := nI_of h0
  refine ⟨j, ?_, e⟩
  have h2 := Int32.lt_iff_toInt_lt.mp (Int32.not_le.mp h1)
  rw [e, nI_toInt hj, hL] at h2
  omega
/-- an int between two bounds -/
def iR (v : Int32) (a b : Int) : Prop := a ≤ v.toInt ∧ v.toInt ≤ b
theorem iR_ix {v : Int32} {n : Nat} {b : Int} (h : iR v 0 b) (hb : b + 1 = n) (hn : n < 2 ^ 31) : ∃ j : Nat, j < n ∧ v = nI j := by
  obtain ⟨j, hj, e⟩ := nI_of (x := v) (fun q => by have := Int32.lt_iff_toInt_lt.mp q; have h0 : (0 : Int32).toInt = 0 := rfl; rw [h0] at this; have := h.1; omega)
  refine ⟨j, ?_, e⟩
  have h2 := h.2
  rw [e, nI_toInt hj] at h2
  omega
/-- an even int, by the machine's remainder -/
def ev (v : Int32) : Prop := v - v / 2 * 2 = 0
def tm (w v : Int32) : Prop := (w.toInt = 0 ∧ iR v 0 1000000) ∨ (w.toInt = 1 ∧ iR v 0 32 ∧ ev v) ∨ (w.toInt = 2 ∧ iR v 1 4)
theorem iR_in {v lo hi : Int32} {a b : Int} (ha : lo.toInt = a) (hb : hi.toInt = b) (h1 : ¬ v < lo) (h2 : ¬ hi < v) : iR v a b := by
  have h1 := Int32.le_iff_toInt_le.mp (Int32.not_lt.mp h1)
  have h2 := Int32.le_iff_toInt_le.mp (Int32.not_lt.mp h2)
  unfold iR
  omega
theorem iR_lo {v lo : Int32} {a b : Int} (ha : lo.toInt = a) (h1 : v < lo) : ¬ iR v a b := by
  have h1 := Int32.lt_iff_toInt_lt.mp h1
  unfold iR
  omega
theorem iR_hi {v hi : Int32} {a b : Int} (hb : hi.toInt = b) (h1 : hi < v) : ¬ iR v a b := by
  have h1 := Int32.lt_iff_toInt_lt.mp h1
  unfold iR
  omega
/-- a long between two bounds -/
def lR (v : Int64) (a b : Int) : Prop := a ≤ v.toInt ∧ v.toInt ≤ b
theorem lR_in {v lo hi : Int64} {a b : Int} (ha : lo.toInt = a) (hb : hi.toInt = b) (h1 : ¬ lg_cmp v lo < 0) (h2 : ¬ 0 < lg_cmp v hi) : lR v a b := by
  rw [lg_cmp_lt] at h1
  rw [lg_cmp_gt] at h2
  have h1 := Int64.le_iff_toInt_le.mp (Int64.not_lt.mp h1)
  have h2 := Int64.le_iff_toInt_le.mp (Int64.not_lt.mp h2)
  unfold lR
  omega
theorem lR_lo {v lo : Int64} {a b : Int} (ha : lo.toInt = a) (h1 : lg_cmp v lo < 0) : ¬ lR v a b := by
  rw [lg_cmp_lt] at h1
  have h1 := Int64.lt_iff_toInt_lt.mp h1
  unfold lR
  omega
theorem lR_hi {v hi : Int64} {a b : Int} (hb : hi.toInt = b) (h1 : 0 < lg_cmp v hi) : ¬ lR v a b := by
  rw [lg_cmp_gt] at h1
  have h1 := Int64.lt_iff_toInt_lt.mp h1
  unfold lR
  omega
theorem lR_i (v : Int32) (a b : Int) : lR v.toInt64 a b ↔ iR v a b := by unfold lR iR; rw [Int32.toInt_toInt64]
section XS
variable {p : Program} {l : Launch} {e : Env} {R : Room} {s : State} {m : MethodId} {args : Array Value} {below : List Frame} {meth : Method} {c : Code} {H : Heap} {locs : List Loc} {cells slots : Nat} {Q : State → Prop} {cc : ByteArray} {nL pc : Nat} {ls : Array Slot} {rest : List Value} {E : hE} {ρ : Nat → Nat → Int32} {own : String}
theorem aldn {k n j : Nat} {i : Int32} (B : MB p s m args c cc nL own E) (hP : WP E ρ H) (h : hk k = 8) (hl : hlen k = n) (hi : i = nI j) (hj : j < n) (h31 : n < 2 ^ 31) (hd : decode cc pc = .ok (.iaload, 1)) (kk : W p l e R s m args below meth c H locs cells slots Q (F0 m (pc + 1) ls (.int (ρ k j) :: rest))) : W p l e R s m args below meth c H locs cells slots Q (F0 m pc ls (.int i :: .ref (E.2.1 + k) :: rest)) := by
  subst hi
  refine ald B hP h hl (vp_in_nI hj h31) hd ?_
  rw [nI_clamp (by omega)]
  exact kk
theorem aldf {k n j : Nat} {i v : Int32} (B : MB p s m args c cc nL own E) (hP : WP E ρ H) (h : hk k = 8) (hl : hlen k = n) (hi : i = nI j) (hj : j < n) (h31 : n < 2 ^ 31) (hf : ρ k j = v) (hd : decode cc pc = .ok (.iaload, 1)) (kk : W p l e R s m args below meth c H locs cells slots Q (F0 m (pc + 1) ls (.int v :: rest))) : W p l e R s m args below meth c H locs cells slots Q (F0 m pc ls (.int i :: .ref (E.2.1 + k) :: rest)) := by
  refine aldn B hP h hl hi hj h31 hd ?_
  rw [hf]
  exact kk
theorem zldn {k n j : Nat} {i : Int32} (B : MB p s m args c cc nL own E) (hP : WP E ρ H) (h : hk k = 9) (hl : hlen k = n) (hi : i = nI j) (hj : j < n) (h31 : n < 2 ^ 31) (hd : decode cc pc = .ok (.baload, 1)) (kk : W p l e R s m args below meth c H locs cells slots Q (F0 m (pc + 1) ls (.int (ρ k j) :: rest))) : W p l e R s m args below meth c H locs cells slots Q (F0 m pc ls (.int i :: .ref (E.2.1 + k) :: rest)) := by
  subst hi
  refine zld B hP h hl (vp_in_nI hj h31) hd ?_
  rw [nI_clamp (by omega)]
  exact kk
theorem zldf {k n j : Nat} {i v : Int32} (B : MB p s m args c cc nL own E) (hP : WP E ρ H) (h : hk k = 9) (hl : hlen k = n) (hi : i = nI j) (hj : j < n) (h31 : n < 2 ^ 31) (hf : ρ k j = v) (hd : decode cc pc = .ok (.baload, 1)) (kk : W p l e R s m args below meth c H locs cells slots Q (F0 m (pc + 1) ls (.int v :: rest))) : W p l e R s m args below meth c H locs cells slots Q (F0 m pc ls (.int i :: .ref (E.2.1 + k) :: rest)) := by
  refine zldn B hP h hl hi hj h31 hd ?_
  rw [hf]
  exact kk
theorem astn {k n j : Nat} {i x : Int32} (B : MB p s m args c cc nL own E) (hP : WP E ρ H) (hS : va_S (hA E) s.heap H locs) (h : hk k = 8) (hl : hlen k = n) (hi : i = nI j) (hj : j < n) (h31 : n < 2 ^ 31) (hd : decode cc pc = .ok (.iastore, 1)) (kk : ∀ (H' : Heap) (locs' : List Loc), WP E (up ρ k j x) H' → va_S (hA E) s.heap H' locs' → W p l e R s m args below meth c H' locs' cells slots Q (F0 m (pc + 1) ls rest)) : W p l e R s m args below meth c H locs cells slots Q (F0 m pc ls (.int x :: .int i :: .ref (E.2.1 + k) :: rest)) := by
  subst hi
  refine ast B hP hS h hl (vp_in_nI hj h31) hd (fun H1 l1 h1 h2 => ?_)
  rw [nI_clamp (by omega)] at h1
  exact kk H1 l1 h1 h2
theorem zstn {k n j : Nat} {i x : Int32} (B : MB p s m args c cc nL own E) (hP : WP E ρ H) (hS : va_S (hA E) s.heap H locs) (h : hk k = 9) (hl : hlen k = n) (hi : i = nI j) (hj : j < n) (h31 : n < 2 ^ 31) (hx : vp_nar .boolean x = x) (hd : decode cc pc = .ok (.bastore, 1)) (kk : ∀ (H' : Heap) (locs' : List Loc), WP E (up ρ k j x) H' → va_S (hA E) s.heap H' locs' → W p l e R s m args below meth c H' locs' cells slots Q (F0 m (pc + 1) ls rest)) : W p l e R s m args below meth c H locs cells slots Q (F0 m pc ls (.int x :: .int i :: .ref (E.2.1 + k) :: rest)) := by
  subst hi
  refine zst B hP hS h hl (vp_in_nI hj h31) hx hd (fun H1 l1 h1 h2 => ?_)
  rw [nI_clamp (by omega)] at h1
  exact kk H1 l1 h1 h2
theorem aldNn {k j : Nat} {i : Int32} (B : MB p s m args c cc nL own E) (hP : WP E ρ H) (h : hk k = 11) (hl : hlen k = 2) (hi : i = nI j) (hj : j < 2) (hd : decode cc pc = .ok (.aaload, 1)) (kk : W p l e R s m args below meth c H locs cells slots Q (F0 m (pc + 1) ls (.ref (E.2.1 + (k + 1 + 42 * j)) :: rest))) : W p l e R s m args below meth c H locs cells slots Q (F0 m pc ls (.int i :: .ref (E.2.1 + k) :: rest)) := by
  subst hi
  refine aldN B hP h (vp_in_nI hj (by omega)) hl hd ?_
  rw [nI_clamp (by omega)]
  exact kk
theorem aldWn {k n j : Nat} {i : Int32} (B : MB p s m args c cc nL own E) (hP : WP E ρ H) (h : hk k = 12) (hl : hlen k = n) (hi : i = nI j) (hj : j < n) (h31 : n < 2 ^ 31) (hd : decode cc pc = .ok (.aaload, 1)) (kk : W p l e R s m args below meth c H locs cells slots Q (F0 m (pc + 1) ls (.ref (E.2.1 + (hw k + 89 * j)) :: rest))) : W p l e R s m args below meth c H locs cells slots Q (F0 m pc ls (.int i :: .ref (E.2.1 + k) :: rest)) := by
  subst hi
  refine aldW B hP h hl (vp_in_nI hj h31) hd ?_
  rw [nI_clamp (by omega)]
  exact kk
end XS
theorem cpy_self {f g : Nat → Int32} {n : Nat} (h : ∀ j, j < n → g j = f j) : ∀ j, va_cpy f g 0 0 n j = g j := by
  intro j
  unfold va_cpy
  by_cases q : 0 ≤ j ∧ j < 0 + n
  · rw [if_pos q, Nat.sub_zero, Nat.zero_add]
    exact (h j (by omega)).symm
  · rw [if_neg q]
/-- a world in which there is no net -/
def FrN (ρ : Nat → Nat → Int32) (x : Nat) : Prop := ρ x 5 = -1 ∧ ρ x 8 = 0 ∧ ρ x 14 = 0 ∧ ρ x 15 = -1 ∧ ρ x 17 = -1 ∧ ρ x 18 = -1 ∧ ρ x 19 = 0 ∧ ρ (x + 1) 1 = 0
def FrW (ρ : Nat → Nat → Int32) (k : Nat) : Prop := FrN ρ (k + 5) ∧ FrN ρ (k + 47)
theorem FrN.keep {ρ ρ' : Nat → Nat → Int32} {x : Nat} (h : FrN ρ x) (h0 : ρ' x = ρ x) (h1 : ρ' (x + 1) = ρ (x + 1)) : FrN ρ' x := by
  unfold FrN at *
  rw [h0, h1]
  exact h
theorem FrW.keep {ρ ρ' : Nat → Nat → Int32} {k : Nat} (h : FrW ρ k) (hq : ∀ k', k' ≠ k → ρ' k' = ρ k') : FrW ρ' k :=
  ⟨h.1.keep (hq _ (by omega)) (hq _ (by omega)), h.2.keep (hq _ (by omega)) (hq _ (by omega))⟩
theorem FrN_r0 {x : Nat} (h : hk x = 2) : FrN r0 x := by
  have h1 := (lay2 h).1
  unfold FrN
  simp [r0, h, h1]
theorem FrW_r0 {k : Nat} (h : hk k = 5) : FrW r0 k := ⟨FrN_r0 (lay5 h).2.2.2.2.2.2.2.2.1, FrN_r0 (lay5 h).2.2.2.2.2.2.2.2.2⟩
theorem r0_arr {k j : Nat} (h : hk k = 8) (h2 : k ≠ 1078) : r0 k j = 0 := by simp [r0, h, h2]
theorem r0_kind {k k' : Nat} (h : hk k = hk k') (h10 : hk k ≠ 10) (h1 : k ≠ 1078) (h2 : k' ≠ 1078) : r0 k = r0 k' := by
  funext j
  unfold r0
  rw [← h, if_neg h1, if_neg h2, if_neg h10, if_neg h10]
end
section

theorem tm_out {w v : Int32} (h : w.toInt < 0 ∨ 2 < w.toInt) : ¬ tm w v := by unfold tm; omega
theorem tm_0 {w v : Int32} (h : w.toInt = 0) (q : iR v 0 1000000) : tm w v := Or.inl ⟨h, q⟩
theorem tm_n0 {w v : Int32} (h : w.toInt = 0) (q : ¬ iR v 0 1000000) : ¬ tm w v := by
  rintro (z | z | z)
  · exact q z.2
  · omega
  · omega
theorem tm_1 {w v : Int32} (h : w.toInt = 1) (q : iR v 0 32 ∧ ev v) : tm w v := Or.inr (Or.inl ⟨h, q.1, q.2⟩)
theorem tm_n1 {w v : Int32} (h : w.toInt = 1) (q : ¬ (iR v 0 32 ∧ ev v)) : ¬ tm w v := by
  rintro (z | z | z)
  · omega
  · exact q z.2
  · omega
theorem tm_2 {w v : Int32} (h : w.toInt = 2) (q : iR v 1 4) : tm w v := Or.inr (Or.inr ⟨h, q⟩)
theorem tm_n2 {w v : Int32} (h : w.toInt = 2) (q : ¬ iR v 1 4) : ¬ tm w v := by
  rintro (z | z | z)
  · omega
  · omega
  · exact q z.2
/-- a world's own numbers taken from another -/
def cpw (ρ : Nat → Nat → Int32) (k1 k2 : Nat) : Nat → Nat → Int32 := up (up (up (up (up ρ k1 4 (ρ k2 4)) k1 5 (ρ k2 5)) k1 6 (ρ k2 6)) k1 7 (ρ k2 7)) k1 8 (ρ k2 8)
theorem cpw_ne {ρ : Nat → Nat → Int32} {k1 k2 k : Nat} (h : k ≠ k1) : cpw ρ k1 k2 k = ρ k := by
  unfold cpw
  rw [up_ne _ _ _ h, up_ne _ _ _ h, up_ne _ _ _ h, up_ne _ _ _ h, up_ne _ _ _ h]
theorem cpw_eq {ρ a b c d f : Nat → Nat → Int32} {k1 k2 : Nat} (e1 : a = up ρ k1 4 (ρ k2 4)) (e2 : b = up a k1 5 (ρ k2 5)) (e3 : c = up b k1 6 (ρ k2 6)) (e4 : d = up c k1 7 (ρ k2 7)) (e5 : f = up d k1 8 (ρ k2 8)) : f = cpw ρ k1 k2 := by
  rw [e5, e4, e3, e2, e1]
  rfl
theorem dX6_isWithin_0 : decode cX6_isWithin 0 = .ok (.iload_n 0, 1) := by decide +kernel
theorem dX6_isWithin_1 : decode cX6_isWithin 1 = .ok (.iload_n 1, 1) := by decide +kernel
theorem dX6_isWithin_2 : decode cX6_isWithin 2 = .ok (.if_icmp .lt 12, 3) := by decide +kernel
theorem dX6_isWithin_5 : decode cX6_isWithin 5 = .ok (.iload_n 0, 1) := by decide +kernel
theorem dX6_isWithin_6 : decode cX6_isWithin 6 = .ok (.iload_n 2, 1) := by decide +kernel
theorem dX6_isWithin_7 : decode cX6_isWithin 7 = .ok (.if_icmp .gt 7, 3) := by decide +kernel
theorem dX6_isWithin_10 : decode cX6_isWithin 10 = .ok (.iconst 1, 1) := by decide +kernel
theorem dX6_isWithin_11 : decode cX6_isWithin 11 = .ok (.goto 4, 3) := by decide +kernel
theorem dX6_isWithin_14 : decode cX6_isWithin 14 = .ok (.iconst 0, 1) := by decide +kernel
theorem dX6_isWithin_15 : decode cX6_isWithin 15 = .ok (.ireturn, 1) := by decide +kernel
theorem dX6_isEvenWithin_0 : decode cX6_isEvenWithin 0 = .ok (.iload_n 0, 1) := by decide +kernel
theorem dX6_isEvenWithin_1 : decode cX6_isEvenWithin 1 = .ok (.iload_n 1, 1) := by decide +kernel
theorem dX6_isEvenWithin_2 : decode cX6_isEvenWithin 2 = .ok (.iload_n 2, 1) := by decide +kernel
theorem dX6_isEvenWithin_3 : decode cX6_isEvenWithin 3 = .ok (.invokestatic 54, 3) := by decide +kernel
theorem dX6_isEvenWithin_6 : decode cX6_isEvenWithin 6 = .ok (.ifCond .eq 13, 3) := by decide +kernel
theorem dX6_isEvenWithin_9 : decode cX6_isEvenWithin 9 = .ok (.iload_n 0, 1) := by decide +kernel
theorem dX6_isEvenWithin_10 : decode cX6_isEvenWithin 10 = .ok (.iconst 2, 1) := by decide +kernel
theorem dX6_isEvenWithin_11 : decode cX6_isEvenWithin 11 = .ok (.irem, 1) := by decide +kernel
theorem dX6_isEvenWithin_12 : decode cX6_isEvenWithin 12 = .ok (.ifCond .ne 7, 3) := by decide +kernel
theorem dX6_isEvenWithin_15 : decode cX6_isEvenWithin 15 = .ok (.iconst 1, 1) := by decide +kernel
theorem dX6_isEvenWithin_16 : decode cX6_isEvenWithin 16 = .ok (.goto 4, 3) := by decide +kernel
theorem dX6_isEvenWithin_19 : decode cX6_isEvenWithin 19 = .ok (.iconst 0, 1) := by decide +kernel
theorem dX6_isEvenWithin_20 : decode cX6_isEvenWithin 20 = .ok (.ireturn, 1) := by decide +kernel
theorem dX6_isTerm_0 : decode cX6_isTerm 0 = .ok (.iload_n 0, 1) := by decide +kernel
theorem dX6_isTerm_1 : decode cX6_isTerm 1 = .ok (.tableswitch 51 0 2 #[27, 36, 44], 27) := by decide +kernel
theorem dX6_isTerm_28 : decode cX6_isTerm 28 = .ok (.iload_n 1, 1) := by decide +kernel
theorem dX6_isTerm_29 : decode cX6_isTerm 29 = .ok (.iconst 0, 1) := by decide +kernel
theorem dX6_isTerm_30 : decode cX6_isTerm 30 = .ok (.ldc_w 401, 3) := by decide +kernel
theorem dX6_isTerm_33 : decode cX6_isTerm 33 = .ok (.invokestatic 54, 3) := by decide +kernel
theorem dX6_isTerm_36 : decode cX6_isTerm 36 = .ok (.ireturn, 1) := by decide +kernel
theorem dX6_isTerm_37 : decode cX6_isTerm 37 = .ok (.iload_n 1, 1) := by decide +kernel
theorem dX6_isTerm_38 : decode cX6_isTerm 38 = .ok (.iconst 0, 1) := by decide +kernel
theorem dX6_isTerm_39 : decode cX6_isTerm 39 = .ok (.bipush 32, 2) := by decide +kernel
theorem dX6_isTerm_41 : decode cX6_isTerm 41 = .ok (.invokestatic 156, 3) := by decide +kernel
theorem dX6_isTerm_44 : decode cX6_isTerm 44 = .ok (.ireturn, 1) := by decide +kernel
theorem dX6_isTerm_45 : decode cX6_isTerm 45 = .ok (.iload_n 1, 1) := by decide +kernel
theorem dX6_isTerm_46 : decode cX6_isTerm 46 = .ok (.iconst 1, 1) := by decide +kernel
theorem dX6_isTerm_47 : decode cX6_isTerm 47 = .ok (.iconst 4, 1) := by decide +kernel
theorem dX6_isTerm_48 : decode cX6_isTerm 48 = .ok (.invokestatic 54, 3) := by decide +kernel
theorem dX6_isTerm_51 : decode cX6_isTerm 51 = .ok (.ireturn, 1) := by decide +kernel
theorem dX6_isTerm_52 : decode cX6_isTerm 52 = .ok (.iconst 0, 1) := by decide +kernel
theorem dX6_isTerm_53 : decode cX6_isTerm 53 = .ok (.ireturn, 1) := by decide +kernel
theorem dX6_refuse_0 : decode cX6_refuse 0 = .ok (.aload_n 0, 1) := by decide +kernel
theorem dX6_refuse_1 : decode cX6_refuse 1 = .ok (.iload_n 1, 1) := by decide +kernel
theorem dX6_refuse_2 : decode cX6_refuse 2 = .ok (.putfield 44, 3) := by decide +kernel
theorem dX6_refuse_5 : decode cX6_refuse 5 = .ok (.iload_n 1, 1) := by decide +kernel
theorem dX6_refuse_6 : decode cX6_refuse 6 = .ok (.ineg, 1) := by decide +kernel
theorem dX6_refuse_7 : decode cX6_refuse 7 = .ok (.iconst 1, 1) := by decide +kernel
theorem dX6_refuse_8 : decode cX6_refuse 8 = .ok (.isub, 1) := by decide +kernel
theorem dX6_refuse_9 : decode cX6_refuse 9 = .ok (.istore_n 2, 1) := by decide +kernel
theorem dX6_refuse_10 : decode cX6_refuse 10 = .ok (.iload_n 2, 1) := by decide +kernel
theorem dX6_refuse_11 : decode cX6_refuse 11 = .ok (.ifCond .lt 22, 3) := by decide +kernel
theorem dX6_refuse_14 : decode cX6_refuse 14 = .ok (.iload_n 2, 1) := by decide +kernel
theorem dX6_refuse_15 : decode cX6_refuse 15 = .ok (.aload_n 0, 1) := by decide +kernel
theorem dX6_refuse_16 : decode cX6_refuse 16 = .ok (.getfield 41, 3) := by decide +kernel
theorem dX6_refuse_19 : decode cX6_refuse 19 = .ok (.arraylength, 1) := by decide +kernel
theorem dX6_refuse_20 : decode cX6_refuse 20 = .ok (.if_icmp .ge 13, 3) := by decide +kernel
theorem dX6_refuse_23 : decode cX6_refuse 23 = .ok (.aload_n 0, 1) := by decide +kernel
theorem dX6_refuse_24 : decode cX6_refuse 24 = .ok (.getfield 41, 3) := by decide +kernel
theorem dX6_refuse_27 : decode cX6_refuse 27 = .ok (.iload_n 2, 1) := by decide +kernel
theorem dX6_refuse_28 : decode cX6_refuse 28 = .ok (.dup2, 1) := by decide +kernel
theorem dX6_refuse_29 : decode cX6_refuse 29 = .ok (.iaload, 1) := by decide +kernel
theorem dX6_refuse_30 : decode cX6_refuse 30 = .ok (.iconst 1, 1) := by decide +kernel
theorem dX6_refuse_31 : decode cX6_refuse 31 = .ok (.iadd, 1) := by decide +kernel
theorem dX6_refuse_32 : decode cX6_refuse 32 = .ok (.iastore, 1) := by decide +kernel
theorem dX6_refuse_33 : decode cX6_refuse 33 = .ok (.iload_n 1, 1) := by decide +kernel
theorem dX6_refuse_34 : decode cX6_refuse 34 = .ok (.ireturn, 1) := by decide +kernel
theorem dX6_accept_0 : decode cX6_accept 0 = .ok (.aload_n 0, 1) := by decide +kernel
theorem dX6_accept_1 : decode cX6_accept 1 = .ok (.iconst 0, 1) := by decide +kernel
theorem dX6_accept_2 : decode cX6_accept 2 = .ok (.putfield 44, 3) := by decide +kernel
theorem dX6_accept_5 : decode cX6_accept 5 = .ok (.iload_n 1, 1) := by decide +kernel
theorem dX6_accept_6 : decode cX6_accept 6 = .ok (.ireturn, 1) := by decide +kernel
theorem dX3_copyFrom_0 : decode cX3_copyFrom 0 = .ok (.aload_n 0, 1) := by decide +kernel
theorem dX3_copyFrom_1 : decode cX3_copyFrom 1 = .ok (.aload_n 1, 1) := by decide +kernel
theorem dX3_copyFrom_2 : decode cX3_copyFrom 2 = .ok (.getfield 10, 3) := by decide +kernel
theorem dX3_copyFrom_5 : decode cX3_copyFrom 5 = .ok (.putfield 10, 3) := by decide +kernel
theorem dX3_copyFrom_8 : decode cX3_copyFrom 8 = .ok (.aload_n 0, 1) := by decide +kernel
theorem dX3_copyFrom_9 : decode cX3_copyFrom 9 = .ok (.aload_n 1, 1) := by decide +kernel
theorem dX3_copyFrom_10 : decode cX3_copyFrom 10 = .ok (.getfield 16, 3) := by decide +kernel
theorem dX3_copyFrom_13 : decode cX3_copyFrom 13 = .ok (.putfield 16, 3) := by decide +kernel
theorem dX3_copyFrom_16 : decode cX3_copyFrom 16 = .ok (.aload_n 0, 1) := by decide +kernel
theorem dX3_copyFrom_17 : decode cX3_copyFrom 17 = .ok (.aload_n 1, 1) := by decide +kernel
theorem dX3_copyFrom_18 : decode cX3_copyFrom 18 = .ok (.getfield 19, 3) := by decide +kernel
theorem dX3_copyFrom_21 : decode cX3_copyFrom 21 = .ok (.putfield 19, 3) := by decide +kernel
theorem dX3_copyFrom_24 : decode cX3_copyFrom 24 = .ok (.return_, 1) := by decide +kernel
theorem dX2_copyFrom_0 : decode cX2_copyFrom 0 = .ok (.aload_n 0, 1) := by decide +kernel
theorem dX2_copyFrom_1 : decode cX2_copyFrom 1 = .ok (.getfield 12, 3) := by decide +kernel
theorem dX2_copyFrom_4 : decode cX2_copyFrom 4 = .ok (.aload_n 1, 1) := by decide +kernel
theorem dX2_copyFrom_5 : decode cX2_copyFrom 5 = .ok (.getfield 12, 3) := by decide +kernel
theorem dX2_copyFrom_8 : decode cX2_copyFrom 8 = .ok (.invokevirtual 83, 3) := by decide +kernel
theorem dX2_copyFrom_11 : decode cX2_copyFrom 11 = .ok (.aload_n 1, 1) := by decide +kernel
theorem dX2_copyFrom_12 : decode cX2_copyFrom 12 = .ok (.getfield 18, 3) := by decide +kernel
theorem dX2_copyFrom_15 : decode cX2_copyFrom 15 = .ok (.iconst 0, 1) := by decide +kernel
theorem dX2_copyFrom_16 : decode cX2_copyFrom 16 = .ok (.aload_n 0, 1) := by decide +kernel
theorem dX2_copyFrom_17 : decode cX2_copyFrom 17 = .ok (.getfield 18, 3) := by decide +kernel
theorem dX2_copyFrom_20 : decode cX2_copyFrom 20 = .ok (.iconst 0, 1) := by decide +kernel
theorem dX2_copyFrom_21 : decode cX2_copyFrom 21 = .ok (.iconst 4, 1) := by decide +kernel
theorem dX2_copyFrom_22 : decode cX2_copyFrom 22 = .ok (.invokestatic 87, 3) := by decide +kernel
theorem dX2_copyFrom_25 : decode cX2_copyFrom 25 = .ok (.aload_n 1, 1) := by decide +kernel
theorem dX2_copyFrom_26 : decode cX2_copyFrom 26 = .ok (.getfield 22, 3) := by decide +kernel
theorem dX2_copyFrom_29 : decode cX2_copyFrom 29 = .ok (.iconst 0, 1) := by decide +kernel
theorem dX2_copyFrom_30 : decode cX2_copyFrom 30 = .ok (.aload_n 0, 1) := by decide +kernel
theorem dX2_copyFrom_31 : decode cX2_copyFrom 31 = .ok (.getfield 22, 3) := by decide +kernel
theorem dX2_copyFrom_34 : decode cX2_copyFrom 34 = .ok (.iconst 0, 1) := by decide +kernel
theorem dX2_copyFrom_35 : decode cX2_copyFrom 35 = .ok (.bipush 23, 2) := by decide +kernel
theorem dX2_copyFrom_37 : decode cX2_copyFrom 37 = .ok (.invokestatic 87, 3) := by decide +kernel
theorem dX2_copyFrom_40 : decode cX2_copyFrom 40 = .ok (.aload_n 1, 1) := by decide +kernel
theorem dX2_copyFrom_41 : decode cX2_copyFrom 41 = .ok (.getfield 25, 3) := by decide +kernel
theorem dX2_copyFrom_44 : decode cX2_copyFrom 44 = .ok (.iconst 0, 1) := by decide +kernel
theorem dX2_copyFrom_45 : decode cX2_copyFrom 45 = .ok (.aload_n 0, 1) := by decide +kernel
theorem dX2_copyFrom_46 : decode cX2_copyFrom 46 = .ok (.getfield 25, 3) := by decide +kernel
theorem dX2_copyFrom_49 : decode cX2_copyFrom 49 = .ok (.iconst 0, 1) := by decide +kernel
theorem dX2_copyFrom_50 : decode cX2_copyFrom 50 = .ok (.bipush 23, 2) := by decide +kernel
theorem dX2_copyFrom_52 : decode cX2_copyFrom 52 = .ok (.invokestatic 87, 3) := by decide +kernel
theorem dX2_copyFrom_55 : decode cX2_copyFrom 55 = .ok (.iconst 0, 1) := by decide +kernel
theorem dX2_copyFrom_56 : decode cX2_copyFrom 56 = .ok (.istore_n 2, 1) := by decide +kernel
theorem dX2_copyFrom_57 : decode cX2_copyFrom 57 = .ok (.iload_n 2, 1) := by decide +kernel
theorem dX2_copyFrom_58 : decode cX2_copyFrom 58 = .ok (.aload_n 1, 1) := by decide +kernel
theorem dX2_copyFrom_59 : decode cX2_copyFrom 59 = .ok (.getfield 45, 3) := by decide +kernel
theorem dX2_copyFrom_62 : decode cX2_copyFrom 62 = .ok (.if_icmp .ge 29, 3) := by decide +kernel
theorem dX2_copyFrom_65 : decode cX2_copyFrom 65 = .ok (.iload_n 2, 1) := by decide +kernel
theorem dX2_copyFrom_66 : decode cX2_copyFrom 66 = .ok (.iconst 4, 1) := by decide +kernel
theorem dX2_copyFrom_67 : decode cX2_copyFrom 67 = .ok (.if_icmp .ge 24, 3) := by decide +kernel
theorem dX2_copyFrom_70 : decode cX2_copyFrom 70 = .ok (.aload_n 0, 1) := by decide +kernel
theorem dX2_copyFrom_71 : decode cX2_copyFrom 71 = .ok (.getfield 30, 3) := by decide +kernel
theorem dX2_copyFrom_74 : decode cX2_copyFrom 74 = .ok (.iload_n 2, 1) := by decide +kernel
theorem dX2_copyFrom_75 : decode cX2_copyFrom 75 = .ok (.aaload, 1) := by decide +kernel
theorem dX2_copyFrom_76 : decode cX2_copyFrom 76 = .ok (.aload_n 1, 1) := by decide +kernel
theorem dX2_copyFrom_77 : decode cX2_copyFrom 77 = .ok (.getfield 30, 3) := by decide +kernel
theorem dX2_copyFrom_80 : decode cX2_copyFrom 80 = .ok (.iload_n 2, 1) := by decide +kernel
theorem dX2_copyFrom_81 : decode cX2_copyFrom 81 = .ok (.aaload, 1) := by decide +kernel
theorem dX2_copyFrom_82 : decode cX2_copyFrom 82 = .ok (.invokevirtual 93, 3) := by decide +kernel
theorem dX2_copyFrom_85 : decode cX2_copyFrom 85 = .ok (.iinc 2 1, 3) := by decide +kernel
theorem dX2_copyFrom_88 : decode cX2_copyFrom 88 = .ok (.goto (-31), 3) := by decide +kernel
theorem dX2_copyFrom_91 : decode cX2_copyFrom 91 = .ok (.aload_n 0, 1) := by decide +kernel
theorem dX2_copyFrom_92 : decode cX2_copyFrom 92 = .ok (.aload_n 1, 1) := by decide +kernel
theorem dX2_copyFrom_93 : decode cX2_copyFrom 93 = .ok (.getfield 34, 3) := by decide +kernel
theorem dX2_copyFrom_96 : decode cX2_copyFrom 96 = .ok (.putfield 34, 3) := by decide +kernel
theorem dX2_copyFrom_99 : decode cX2_copyFrom 99 = .ok (.aload_n 0, 1) := by decide +kernel
theorem dX2_copyFrom_100 : decode cX2_copyFrom 100 = .ok (.aload_n 1, 1) := by decide +kernel
theorem dX2_copyFrom_101 : decode cX2_copyFrom 101 = .ok (.getfield 38, 3) := by decide +kernel
theorem dX2_copyFrom_104 : decode cX2_copyFrom 104 = .ok (.putfield 38, 3) := by decide +kernel
theorem dX2_copyFrom_107 : decode cX2_copyFrom 107 = .ok (.aload_n 0, 1) := by decide +kernel
theorem dX2_copyFrom_108 : decode cX2_copyFrom 108 = .ok (.aload_n 1, 1) := by decide +kernel
theorem dX2_copyFrom_109 : decode cX2_copyFrom 109 = .ok (.getfield 42, 3) := by decide +kernel
theorem dX2_copyFrom_112 : decode cX2_copyFrom 112 = .ok (.putfield 42, 3) := by decide +kernel
theorem dX2_copyFrom_115 : decode cX2_copyFrom 115 = .ok (.aload_n 0, 1) := by decide +kernel
theorem dX2_copyFrom_116 : decode cX2_copyFrom 116 = .ok (.aload_n 1, 1) := by decide +kernel
theorem dX2_copyFrom_117 : decode cX2_copyFrom 117 = .ok (.getfield 45, 3) := by decide +kernel
theorem dX2_copyFrom_120 : decode cX2_copyFrom 120 = .ok (.putfield 45, 3) := by decide +kernel
theorem dX2_copyFrom_123 : decode cX2_copyFrom 123 = .ok (.aload_n 0, 1) := by decide +kernel
theorem dX2_copyFrom_124 : decode cX2_copyFrom 124 = .ok (.aload_n 1, 1) := by decide +kernel
theorem dX2_copyFrom_125 : decode cX2_copyFrom 125 = .ok (.getfield 48, 3) := by decide +kernel
theorem dX2_copyFrom_128 : decode cX2_copyFrom 128 = .ok (.putfield 48, 3) := by decide +kernel
theorem dX2_copyFrom_131 : decode cX2_copyFrom 131 = .ok (.aload_n 0, 1) := by decide +kernel
theorem dX2_copyFrom_132 : decode cX2_copyFrom 132 = .ok (.aload_n 1, 1) := by decide +kernel
theorem dX2_copyFrom_133 : decode cX2_copyFrom 133 = .ok (.getfield 51, 3) := by decide +kernel
theorem dX2_copyFrom_136 : decode cX2_copyFrom 136 = .ok (.putfield 51, 3) := by decide +kernel
theorem dX2_copyFrom_139 : decode cX2_copyFrom 139 = .ok (.aload_n 0, 1) := by decide +kernel
theorem dX2_copyFrom_140 : decode cX2_copyFrom 140 = .ok (.aload_n 1, 1) := by decide +kernel
theorem dX2_copyFrom_141 : decode cX2_copyFrom 141 = .ok (.getfield 54, 3) := by decide +kernel
theorem dX2_copyFrom_144 : decode cX2_copyFrom 144 = .ok (.putfield 54, 3) := by decide +kernel
theorem dX2_copyFrom_147 : decode cX2_copyFrom 147 = .ok (.aload_n 0, 1) := by decide +kernel
theorem dX2_copyFrom_148 : decode cX2_copyFrom 148 = .ok (.aload_n 1, 1) := by decide +kernel
theorem dX2_copyFrom_149 : decode cX2_copyFrom 149 = .ok (.getfield 57, 3) := by decide +kernel
theorem dX2_copyFrom_152 : decode cX2_copyFrom 152 = .ok (.putfield 57, 3) := by decide +kernel
theorem dX2_copyFrom_155 : decode cX2_copyFrom 155 = .ok (.aload_n 0, 1) := by decide +kernel
theorem dX2_copyFrom_156 : decode cX2_copyFrom 156 = .ok (.aload_n 1, 1) := by decide +kernel
theorem dX2_copyFrom_157 : decode cX2_copyFrom 157 = .ok (.getfield 60, 3) := by decide +kernel
theorem dX2_copyFrom_160 : decode cX2_copyFrom 160 = .ok (.putfield 60, 3) := by decide +kernel
theorem dX2_copyFrom_163 : decode cX2_copyFrom 163 = .ok (.return_, 1) := by decide +kernel
theorem dX5_copyFrom_0 : decode cX5_copyFrom 0 = .ok (.aload_n 1, 1) := by decide +kernel
theorem dX5_copyFrom_1 : decode cX5_copyFrom 1 = .ok (.getfield 9, 3) := by decide +kernel
theorem dX5_copyFrom_4 : decode cX5_copyFrom 4 = .ok (.iconst 0, 1) := by decide +kernel
theorem dX5_copyFrom_5 : decode cX5_copyFrom 5 = .ok (.aload_n 0, 1) := by decide +kernel
theorem dX5_copyFrom_6 : decode cX5_copyFrom 6 = .ok (.getfield 9, 3) := by decide +kernel
theorem dX5_copyFrom_9 : decode cX5_copyFrom 9 = .ok (.iconst 0, 1) := by decide +kernel
theorem dX5_copyFrom_10 : decode cX5_copyFrom 10 = .ok (.bipush 6, 2) := by decide +kernel
theorem dX5_copyFrom_12 : decode cX5_copyFrom 12 = .ok (.invokestatic 47, 3) := by decide +kernel
theorem dX5_copyFrom_15 : decode cX5_copyFrom 15 = .ok (.aload_n 1, 1) := by decide +kernel
theorem dX5_copyFrom_16 : decode cX5_copyFrom 16 = .ok (.getfield 15, 3) := by decide +kernel
theorem dX5_copyFrom_19 : decode cX5_copyFrom 19 = .ok (.iconst 0, 1) := by decide +kernel
theorem dX5_copyFrom_20 : decode cX5_copyFrom 20 = .ok (.aload_n 0, 1) := by decide +kernel
theorem dX5_copyFrom_21 : decode cX5_copyFrom 21 = .ok (.getfield 15, 3) := by decide +kernel
theorem dX5_copyFrom_24 : decode cX5_copyFrom 24 = .ok (.iconst 0, 1) := by decide +kernel
theorem dX5_copyFrom_25 : decode cX5_copyFrom 25 = .ok (.bipush 23, 2) := by decide +kernel
theorem dX5_copyFrom_27 : decode cX5_copyFrom 27 = .ok (.invokestatic 47, 3) := by decide +kernel
theorem dX5_copyFrom_30 : decode cX5_copyFrom 30 = .ok (.aload_n 1, 1) := by decide +kernel
theorem dX5_copyFrom_31 : decode cX5_copyFrom 31 = .ok (.getfield 18, 3) := by decide +kernel
theorem dX5_copyFrom_34 : decode cX5_copyFrom 34 = .ok (.iconst 0, 1) := by decide +kernel
theorem dX5_copyFrom_35 : decode cX5_copyFrom 35 = .ok (.aload_n 0, 1) := by decide +kernel
theorem dX5_copyFrom_36 : decode cX5_copyFrom 36 = .ok (.getfield 18, 3) := by decide +kernel
theorem dX5_copyFrom_39 : decode cX5_copyFrom 39 = .ok (.iconst 0, 1) := by decide +kernel
theorem dX5_copyFrom_40 : decode cX5_copyFrom 40 = .ok (.bipush 9, 2) := by decide +kernel
theorem dX5_copyFrom_42 : decode cX5_copyFrom 42 = .ok (.invokestatic 47, 3) := by decide +kernel
theorem dX5_copyFrom_45 : decode cX5_copyFrom 45 = .ok (.iconst 0, 1) := by decide +kernel
theorem dX5_copyFrom_46 : decode cX5_copyFrom 46 = .ok (.istore_n 2, 1) := by decide +kernel
theorem dX5_copyFrom_47 : decode cX5_copyFrom 47 = .ok (.iload_n 2, 1) := by decide +kernel
theorem dX5_copyFrom_48 : decode cX5_copyFrom 48 = .ok (.iconst 2, 1) := by decide +kernel
theorem dX5_copyFrom_49 : decode cX5_copyFrom 49 = .ok (.if_icmp .ge 24, 3) := by decide +kernel
theorem dX5_copyFrom_52 : decode cX5_copyFrom 52 = .ok (.aload_n 0, 1) := by decide +kernel
theorem dX5_copyFrom_53 : decode cX5_copyFrom 53 = .ok (.getfield 23, 3) := by decide +kernel
theorem dX5_copyFrom_56 : decode cX5_copyFrom 56 = .ok (.iload_n 2, 1) := by decide +kernel
theorem dX5_copyFrom_57 : decode cX5_copyFrom 57 = .ok (.aaload, 1) := by decide +kernel
theorem dX5_copyFrom_58 : decode cX5_copyFrom 58 = .ok (.aload_n 1, 1) := by decide +kernel
theorem dX5_copyFrom_59 : decode cX5_copyFrom 59 = .ok (.getfield 23, 3) := by decide +kernel
theorem dX5_copyFrom_62 : decode cX5_copyFrom 62 = .ok (.iload_n 2, 1) := by decide +kernel
theorem dX5_copyFrom_63 : decode cX5_copyFrom 63 = .ok (.aaload, 1) := by decide +kernel
theorem dX5_copyFrom_64 : decode cX5_copyFrom 64 = .ok (.invokevirtual 53, 3) := by decide +kernel
theorem dX5_copyFrom_67 : decode cX5_copyFrom 67 = .ok (.iinc 2 1, 3) := by decide +kernel
theorem dX5_copyFrom_70 : decode cX5_copyFrom 70 = .ok (.goto (-23), 3) := by decide +kernel
theorem dX5_copyFrom_73 : decode cX5_copyFrom 73 = .ok (.aload_n 0, 1) := by decide +kernel
theorem dX5_copyFrom_74 : decode cX5_copyFrom 74 = .ok (.aload_n 1, 1) := by decide +kernel
theorem dX5_copyFrom_75 : decode cX5_copyFrom 75 = .ok (.getfield 27, 3) := by decide +kernel
theorem dX5_copyFrom_78 : decode cX5_copyFrom 78 = .ok (.putfield 27, 3) := by decide +kernel
theorem dX5_copyFrom_81 : decode cX5_copyFrom 81 = .ok (.aload_n 0, 1) := by decide +kernel
theorem dX5_copyFrom_82 : decode cX5_copyFrom 82 = .ok (.aload_n 1, 1) := by decide +kernel
theorem dX5_copyFrom_83 : decode cX5_copyFrom 83 = .ok (.getfield 31, 3) := by decide +kernel
theorem dX5_copyFrom_86 : decode cX5_copyFrom 86 = .ok (.putfield 31, 3) := by decide +kernel
theorem dX5_copyFrom_89 : decode cX5_copyFrom 89 = .ok (.aload_n 0, 1) := by decide +kernel
theorem dX5_copyFrom_90 : decode cX5_copyFrom 90 = .ok (.aload_n 1, 1) := by decide +kernel
theorem dX5_copyFrom_91 : decode cX5_copyFrom 91 = .ok (.getfield 34, 3) := by decide +kernel
theorem dX5_copyFrom_94 : decode cX5_copyFrom 94 = .ok (.putfield 34, 3) := by decide +kernel
theorem dX5_copyFrom_97 : decode cX5_copyFrom 97 = .ok (.aload_n 0, 1) := by decide +kernel
theorem dX5_copyFrom_98 : decode cX5_copyFrom 98 = .ok (.aload_n 1, 1) := by decide +kernel
theorem dX5_copyFrom_99 : decode cX5_copyFrom 99 = .ok (.getfield 37, 3) := by decide +kernel
theorem dX5_copyFrom_102 : decode cX5_copyFrom 102 = .ok (.putfield 37, 3) := by decide +kernel
theorem dX5_copyFrom_105 : decode cX5_copyFrom 105 = .ok (.aload_n 0, 1) := by decide +kernel
theorem dX5_copyFrom_106 : decode cX5_copyFrom 106 = .ok (.aload_n 1, 1) := by decide +kernel
theorem dX5_copyFrom_107 : decode cX5_copyFrom 107 = .ok (.getfield 40, 3) := by decide +kernel
theorem dX5_copyFrom_110 : decode cX5_copyFrom 110 = .ok (.putfield 40, 3) := by decide +kernel
theorem dX5_copyFrom_113 : decode cX5_copyFrom 113 = .ok (.return_, 1) := by decide +kernel
set_option maxHeartbeats 4000000 in
set_option maxRecDepth 100000 in
theorem c_isWithin (l : Launch) (E : hE) (ρ : Nat → Nat → Int32) (v lo hi : Int32) (a b : Int) (ha : lo.toInt = a) (hb2 : hi.toInt = b) : Met l yX6_isWithin (.code yX6_isWithin cX6_isWithin 3 (some .boolean) :: gw_all) (rmk 0 0) (cPre E ρ [.int v, .int lo, .int hi]) (cI E (fun r ρ1 => ρ = ρ1 ∧ ((r = 1 ∧ iR v a b) ∨ (r = 0 ∧ ¬ iR v a b)))) 0 0 (hA E) := by
  refine ent (own := RX6) (by decide) rfl (Nat.le_of_ble_eq_true rfl) ?_
  intro p e s m below meth c ls B hr hlk hl hP hS
  have hx := B.1.1
  have hb := B.1.2.1
  have hown := B.1.2.2.2.1
  have hts := B.1.2.2.2.2
  have hl : lv_has ls 3 [(0, .int v), (1, .int lo), (2, .int hi)] := hl
  refine lv_iload_n hx hb dX6_isWithin_0 rfl (lv_at hl 0 rfl) ?_
  refine lv_iload_n hx hb dX6_isWithin_1 rfl (lv_at hl 1 rfl) ?_
  refine lv_icmp_lt (tgt := 14) hx hb dX6_isWithin_2 (by decide) (fun c1 => ?_) (fun c1 => ?_)
  · skip
    refine lv_iconst (v := 0) hx hb dX6_isWithin_14 (by decide) ?_
    exact ret_z B hr hlk hP hS dX6_isWithin_15 (Or.inl rfl) (⟨rfl, Or.inr ⟨rfl, iR_lo ha c1⟩⟩)
  · skip
    refine lv_iload_n hx hb dX6_isWithin_5 rfl (lv_at hl 0 rfl) ?_
    refine lv_iload_n hx hb dX6_isWithin_6 rfl (lv_at hl 2 rfl) ?_
    refine lv_icmp_gt (tgt := 14) hx hb dX6_isWithin_7 (by decide) (fun c2 => ?_) (fun c2 => ?_)
    · skip
      refine lv_iconst (v := 0) hx hb dX6_isWithin_14 (by decide) ?_
      exact ret_z B hr hlk hP hS dX6_isWithin_15 (Or.inl rfl) (⟨rfl, Or.inr ⟨rfl, iR_hi hb2 c2⟩⟩)
    · skip
      refine lv_iconst (v := 1) hx hb dX6_isWithin_10 (by decide) ?_
      refine lv_goto (tgt := 15) hx hb dX6_isWithin_11 (by decide) ?_
      exact ret_z B hr hlk hP hS dX6_isWithin_15 (Or.inr rfl) (⟨rfl, Or.inl ⟨rfl, iR_in ha hb2 c1 c2⟩⟩)

theorem lk_RX6_54 : LkS RX6 54 yX6_isWithin cX6_isWithin 3 (some .boolean) 3 := ⟨⟨mw_455, mw_456, mw_52, mw_457⟩, by decide +kernel⟩
set_option maxHeartbeats 4000000 in
set_option maxRecDepth 100000 in
theorem c_isEvenWithin (l : Launch) (E : hE) (ρ : Nat → Nat → Int32) (v lo hi : Int32) (a b : Int) (ha : lo.toInt = a) (hb2 : hi.toInt = b) : Met l yX6_isEvenWithin (.code yX6_isEvenWithin cX6_isEvenWithin 3 (some .boolean) :: gw_all) (rmk 1 40) (cPre E ρ [.int v, .int lo, .int hi]) (cI E (fun r ρ1 => ρ = ρ1 ∧ ((r = 1 ∧ iR v a b ∧ ev v) ∨ (r = 0 ∧ ¬ (iR v a b ∧ ev v))))) 0 0 (hA E) := by
  refine ent (own := RX6) (by decide) rfl (Nat.le_of_ble_eq_true rfl) ?_
  intro p e s m below meth c ls B hr hlk hl hP hS
  have hx := B.1.1
  have hb := B.1.2.1
  have hown := B.1.2.2.2.1
  have hts := B.1.2.2.2.2
  have hl : lv_has ls 3 [(0, .int v), (1, .int lo), (2, .int hi)] := hl
  refine lv_iload_n hx hb dX6_isEvenWithin_0 rfl (lv_at hl 0 rfl) ?_
  refine lv_iload_n hx hb dX6_isEvenWithin_1 rfl (lv_at hl 1 rfl) ?_
  refine lv_iload_n hx hb dX6_isEvenWithin_2 rfl (lv_at hl 2 rfl) ?_
  refine call_i (cS (av := [.int v, .int lo, .int hi]) (rest := []) B hP hS (c_isWithin l E ρ v lo hi a b ha hb2) lk_RX6_54 rfl rfl hl.1 (Nat.le_of_ble_eq_true rfl) ⟨Nat.le_of_ble_eq_true rfl, Nat.le_of_ble_eq_true rfl⟩ ⟨Nat.le_of_ble_eq_true rfl, Nat.le_of_ble_eq_true rfl⟩ dX6_isEvenWithin_3) hS (fun r1 ρ2 H locs q3 hP hS => ?_)
  obtain ⟨rfl, q3⟩ := q3
  rcases q3 with ⟨rfl, q3⟩ | ⟨rfl, q3⟩
  · skip
    refine lv_if_eq (tgt := 19) hx hb dX6_isEvenWithin_6 (by decide) (fun c4 => absurd c4 (by decide)) (fun _ => ?_)
    refine lv_iload_n hx hb dX6_isEvenWithin_9 rfl (lv_at hl 0 rfl) ?_
    refine lv_iconst (v := 2) hx hb dX6_isEvenWithin_10 (by decide) ?_
    refine lv_irem hx hb dX6_isEvenWithin_11 (by decide) ?_
    refine lv_if_ne (tgt := 19) hx hb dX6_isEvenWithin_12 (by decide) (fun c5 => ?_) (fun c5 => ?_)
    · skip
      refine lv_iconst (v := 0) hx hb dX6_isEvenWithin_19 (by decide) ?_
      exact ret_z B hr hlk hP hS dX6_isEvenWithin_20 (Or.inl rfl) (⟨rfl, Or.inr ⟨rfl, fun z => c5 z.2⟩⟩)
    · skip
      refine lv_iconst (v := 1) hx hb dX6_isEvenWithin_15 (by decide) ?_
      refine lv_goto (tgt := 20) hx hb dX6_isEvenWithin_16 (by decide) ?_
      exact ret_z B hr hlk hP hS dX6_isEvenWithin_20 (Or.inr rfl) (⟨rfl, Or.inl ⟨rfl, q3, c5⟩⟩)
  · skip
    refine lv_if_eq (tgt := 19) hx hb dX6_isEvenWithin_6 (by decide) (fun _ => ?_) (fun c6 => absurd c6 (by decide))
    refine lv_iconst (v := 0) hx hb dX6_isEvenWithin_19 (by decide) ?_
    exact ret_z B hr hlk hP hS dX6_isEvenWithin_20 (Or.inl rfl) (⟨rfl, Or.inr ⟨rfl, fun z => q3 z.1⟩⟩)

theorem lk_RX6_156 : LkS RX6 156 yX6_isEvenWithin cX6_isEvenWithin 3 (some .boolean) 3 := ⟨⟨mw_565, mw_566, mw_52, mw_567⟩, by decide +kernel⟩
set_option maxHeartbeats 4000000 in
set_option maxRecDepth 100000 in
theorem c_isTerm (l : Launch) (E : hE) (ρ : Nat → Nat → Int32) (w v : Int32) : Met l yX6_isTerm (.code yX6_isTerm cX6_isTerm 2 (some .boolean) :: gw_all) (rmk 2 80) (cPre E ρ [.int w, .int v]) (cI E (fun r ρ1 => ρ = ρ1 ∧ ((r = 1 ∧ tm w v) ∨ (r = 0 ∧ ¬ tm w v)))) 0 0 (hA E) := by
  refine ent (own := RX6) (by decide) rfl (Nat.le_of_ble_eq_true rfl) ?_
  intro p e s m below meth c ls B hr hlk hl hP hS
  have hx := B.1.1
  have hb := B.1.2.1
  have hown := B.1.2.2.2.1
  have hts := B.1.2.2.2.2
  have hl : lv_has ls 2 [(0, .int w), (1, .int v)] := hl
  refine lv_iload_n hx hb dX6_isTerm_0 rfl (lv_at hl 0 rfl) ?_
  rcases sw_split (x := w) (lo := 0) (hi := 2) (by decide) with c1 | c1
  · skip
    refine lv_tableOut (tgt := 52) hx hb dX6_isTerm_1 c1 (by decide) ?_
    refine lv_iconst (v := 0) hx hb dX6_isTerm_52 (by decide) ?_
    exact ret_z B hr hlk hP hS dX6_isTerm_53 (Or.inl rfl) (⟨rfl, Or.inr ⟨rfl, tm_out c1⟩⟩)
  · skip
    rcases sw_step (x := w) (n := 0) (n' := 1) (by decide) c1 with c1 | c1
    · skip
      refine lv_tableIn (off := 27) (tgt := 28) hx hb dX6_isTerm_1 (by rw [c1]; decide) (by rw [c1]; decide) (by rw [c1]; decide) (by decide) ?_
      refine lv_iload_n hx hb dX6_isTerm_28 rfl (lv_at hl 1 rfl) ?_
      refine lv_iconst (v := 0) hx hb dX6_isTerm_29 (by decide) ?_
      refine lv_ldcw (v := 1000000) hx hb hown (hts _ mw_564) dX6_isTerm_30 ?_
      refine call_i (cS (av := [.int v, .int 0, .int 1000000]) (rest := []) B hP hS (c_isWithin l E ρ v 0 1000000 0 1000000 (by decide) (by decide)) lk_RX6_54 rfl rfl hl.1 (Nat.le_of_ble_eq_true rfl) ⟨Nat.le_of_ble_eq_true rfl, Nat.le_of_ble_eq_true rfl⟩ ⟨Nat.le_of_ble_eq_true rfl, Nat.le_of_ble_eq_true rfl⟩ dX6_isTerm_33) hS (fun r2 ρ3 H locs q4 hP hS => ?_)
      obtain ⟨rfl, q4⟩ := q4
      rcases q4 with ⟨rfl, q4⟩ | ⟨rfl, q4⟩
      · skip
        exact ret_z B hr hlk hP hS dX6_isTerm_36 (Or.inr rfl) (⟨rfl, Or.inl ⟨rfl, tm_0 c1 q4⟩⟩)
      · skip
        exact ret_z B hr hlk hP hS dX6_isTerm_36 (Or.inl rfl) (⟨rfl, Or.inr ⟨rfl, tm_n0 c1 q4⟩⟩)
    · skip
      rcases sw_step (x := w) (n := 1) (n' := 2) (by decide) c1 with c1 | c1
      · skip
        refine lv_tableIn (off := 36) (tgt := 37) hx hb dX6_isTerm_1 (by rw [c1]; decide) (by rw [c1]; decide) (by rw [c1]; decide) (by decide) ?_
        refine lv_iload_n hx hb dX6_isTerm_37 rfl (lv_at hl 1 rfl) ?_
        refine lv_iconst (v := 0) hx hb dX6_isTerm_38 (by decide) ?_
        refine lv_bipush (v := 32) hx hb dX6_isTerm_39 (by decide) ?_
        refine call_i (cS (av := [.int v, .int 0, .int 32]) (rest := []) B hP hS (c_isEvenWithin l E ρ v 0 32 0 32 (by decide) (by decide)) lk_RX6_156 rfl rfl hl.1 (Nat.le_of_ble_eq_true rfl) ⟨Nat.le_of_ble_eq_true rfl, Nat.le_of_ble_eq_true rfl⟩ ⟨Nat.le_of_ble_eq_true rfl, Nat.le_of_ble_eq_true rfl⟩ dX6_isTerm_41) hS (fun r5 ρ6 H locs q7 hP hS => ?_)
        obtain ⟨rfl, q7⟩ := q7
        rcases q7 with ⟨rfl, q7⟩ | ⟨rfl, q7⟩
        · skip
          exact ret_z B hr hlk hP hS dX6_isTerm_44 (Or.inr rfl) (⟨rfl, Or.inl ⟨rfl, tm_1 c1 q7⟩⟩)
        · skip
          exact ret_z B hr hlk hP hS dX6_isTerm_44 (Or.inl rfl) (⟨rfl, Or.inr ⟨rfl, tm_n1 c1 q7⟩⟩)
      · skip
        have c1 := sw_last (n := 2) c1
        refine lv_tableIn (off := 44) (tgt := 45) hx hb dX6_isTerm_1 (by rw [c1]; decide) (by rw [c1]; decide) (by rw [c1]; decide) (by decide) ?_
        refine lv_iload_n hx hb dX6_isTerm_45 rfl (lv_at hl 1 rfl) ?_
        refine lv_iconst (v := 1) hx hb dX6_isTerm_46 (by decide) ?_
        refine lv_iconst (v := 4) hx hb dX6_isTerm_47 (by decide) ?_
        refine call_i (cS (av := [.int v, .int 1, .int 4]) (rest := []) B hP hS (c_isWithin l E ρ v 1 4 1 4 (by decide) (by decide)) lk_RX6_54 rfl rfl hl.1 (Nat.le_of_ble_eq_true rfl) ⟨Nat.le_of_ble_eq_true rfl, Nat.le_of_ble_eq_true rfl⟩ ⟨Nat.le_of_ble_eq_true rfl, Nat.le_of_ble_eq_true rfl⟩ dX6_isTerm_48) hS (fun r8 ρ9 H locs q10 hP hS => ?_)
        obtain ⟨rfl, q10⟩ := q10
        rcases q10 with ⟨rfl, q10⟩ | ⟨rfl, q10⟩
        · skip
          exact ret_z B hr hlk hP hS dX6_isTerm_51 (Or.inr rfl) (⟨rfl, Or.inl ⟨rfl, tm_2 c1 q10⟩⟩)
        · skip
          exact ret_z B hr hlk hP hS dX6_isTerm_51 (Or.inl rfl) (⟨rfl, Or.inr ⟨rfl, tm_n2 c1 q10⟩⟩)

set_option maxHeartbeats 4000000 in
set_option maxRecDepth 100000 in
theorem c_refuse (l : Launch) (E : hE) (ρ : Nat → Nat → Int32) (w : Int32) : Met l yX6_refuse (.code yX6_refuse cX6_refuse 3 (some .int) :: gw_all) (rmk 0 0) (cPre E ρ [.ref (E.2.1 + 0), .int w]) (cI E (fun r ρ1 => w = r)) 0 0 (hA E) := by
  refine ent (own := RX6) (by decide) rfl (Nat.le_of_ble_eq_true rfl) ?_
  intro p e s m below meth c ls B hr hlk hl hP hS
  have hx := B.1.1
  have hb := B.1.2.1
  have hown := B.1.2.2.2.1
  have hts := B.1.2.2.2.2
  have hl : lv_has ls 3 [(0, .ref (E.2.1 + 0)), (1, .int w)] := hl
  refine lv_aload_n hx hb dX6_refuse_0 rfl (lv_at hl 0 rfl) ?_
  refine lv_iload_n hx hb dX6_refuse_1 rfl (lv_at hl 1 rfl) ?_
  refine put6 B hP hS (by decide +kernel) 9 (by decide) mw_421 rfl rfl rfl (fs6_9 E 0 _ _) dX6_refuse_2 (fun H locs hP hS => ?_)
  obtain ⟨ρ1, e2⟩ : ∃ z, z = up ρ 0 9 w := ⟨_, rfl⟩
  rw [← e2] at hP
  refine lv_iload_n hx hb dX6_refuse_5 rfl (lv_at hl 1 rfl) ?_
  refine lv_ineg hx hb dX6_refuse_6 ?_
  refine lv_iconst (v := 1) hx hb dX6_refuse_7 (by decide) ?_
  refine lv_isub hx hb dX6_refuse_8 ?_
  refine lv_istore_n (lv' := [(2, .int ((-w) - 1)), (0, .ref (E.2.1 + 0)), (1, .int w)]) hx hb dX6_refuse_9 rfl hl (by decide) rfl (fun ls hl => ?_)
  refine lv_iload_n hx hb dX6_refuse_10 rfl (lv_at hl 0 rfl) ?_
  refine lv_if_lt (tgt := 33) hx hb dX6_refuse_11 (by decide) (fun c3 => ?_) (fun c3 => ?_)
  · skip
    refine lv_iload_n hx hb dX6_refuse_33 rfl (lv_at hl 2 rfl) ?_
    exact ret_i B hr hlk hP hS dX6_refuse_34 (rfl)
  · skip
    refine lv_iload_n hx hb dX6_refuse_14 rfl (lv_at hl 0 rfl) ?_
    refine lv_aload_n hx hb dX6_refuse_15 rfl (lv_at hl 1 rfl) ?_
    refine get6 B hP (by decide +kernel) 8 (by decide) mw_420 rfl dX6_refuse_16 ?_
    refine alen8 (n := 5) B hP (by decide +kernel) (by decide +kernel) (v := 5) (by decide) dX6_refuse_19 ?_
    refine lv_icmp_ge (tgt := 33) hx hb dX6_refuse_20 (by decide) (fun c4 => ?_) (fun c4 => ?_)
    · skip
      refine lv_iload_n hx hb dX6_refuse_33 rfl (lv_at hl 2 rfl) ?_
      exact ret_i B hr hlk hP hS dX6_refuse_34 (rfl)
    · skip
      refine lv_aload_n hx hb dX6_refuse_23 rfl (lv_at hl 1 rfl) ?_
      refine get6 B hP (by decide +kernel) 8 (by decide) mw_420 rfl dX6_refuse_24 ?_
      refine lv_iload_n hx hb dX6_refuse_27 rfl (lv_at hl 0 rfl) ?_
      refine lv_dup2_11 hx hb dX6_refuse_28 rfl rfl ?_
      obtain ⟨j5, hj5, ej5⟩ := ix_of (L := 5) (n := 5) rfl c3 c4
      refine aldn (n := 5) B hP (by decide +kernel) (by decide +kernel) ej5 hj5 (by decide) dX6_refuse_29 ?_
      refine lv_iconst (v := 1) hx hb dX6_refuse_30 (by decide) ?_
      refine lv_iadd hx hb dX6_refuse_31 ?_
      refine astn (n := 5) B hP hS (by decide +kernel) (by decide +kernel) ej5 hj5 (by decide) dX6_refuse_32 (fun H locs hP hS => ?_)
      obtain ⟨ρ7, e8⟩ : ∃ z, z = up ρ1 183 j5 ((ρ1 183 j5) + 1) := ⟨_, rfl⟩
      rw [← e8] at hP
      refine lv_iload_n hx hb dX6_refuse_33 rfl (lv_at hl 2 rfl) ?_
      exact ret_i B hr hlk hP hS dX6_refuse_34 (rfl)

set_option maxHeartbeats 4000000 in
set_option maxRecDepth 100000 in
theorem c_accept (l : Launch) (E : hE) (ρ : Nat → Nat → Int32) (w : Int32) : Met l yX6_accept (.code yX6_accept cX6_accept 2 (some .int) :: gw_all) (rmk 0 0) (cPre E ρ [.ref (E.2.1 + 0), .int w]) (cI E (fun r ρ1 => w = r)) 0 0 (hA E) := by
  refine ent (own := RX6) (by decide) rfl (Nat.le_of_ble_eq_true rfl) ?_
  intro p e s m below meth c ls B hr hlk hl hP hS
  have hx := B.1.1
  have hb := B.1.2.1
  have hown := B.1.2.2.2.1
  have hts := B.1.2.2.2.2
  have hl : lv_has ls 2 [(0, .ref (E.2.1 + 0)), (1, .int w)] := hl
  refine lv_aload_n hx hb dX6_accept_0 rfl (lv_at hl 0 rfl) ?_
  refine lv_iconst (v := 0) hx hb dX6_accept_1 (by decide) ?_
  refine put6 B hP hS (by decide +kernel) 9 (by decide) mw_421 rfl rfl rfl (fs6_9 E 0 _ _) dX6_accept_2 (fun H locs hP hS => ?_)
  obtain ⟨ρ1, e2⟩ : ∃ z, z = up ρ 0 9 0 := ⟨_, rfl⟩
  rw [← e2] at hP
  refine lv_iload_n hx hb dX6_accept_5 rfl (lv_at hl 1 rfl) ?_
  exact ret_i B hr hlk hP hS dX6_accept_6 (rfl)

set_option maxHeartbeats 4000000 in
set_option maxRecDepth 100000 in
theorem c_Plan_copyFrom (l : Launch) (E : hE) (ρ : Nat → Nat → Int32) (k1 k2 : Nat) (h1 : hk k1 = 3) (h2 : hk k2 = 3) (ha : ∀ j, ρ k1 j = ρ k2 j) : Met l yX3_copyFrom (.code yX3_copyFrom cX3_copyFrom 2 none :: gw_all) (rmk 0 0) (cPre E ρ [.ref (E.2.1 + k1), .ref (E.2.1 + k2)]) (cV E (fun ρ1 => ρ = ρ1)) 0 0 (hA E) := by
  refine ent (own := RX3) (by decide) rfl (Nat.le_of_ble_eq_true rfl) ?_
  intro p e s m below meth c ls B hr hlk hl hP hS
  have hx := B.1.1
  have hb := B.1.2.1
  have hown := B.1.2.2.2.1
  have hts := B.1.2.2.2.2
  have hl : lv_has ls 2 [(0, .ref (E.2.1 + k1)), (1, .ref (E.2.1 + k2))] := hl
  refine lv_aload_n hx hb dX3_copyFrom_0 rfl (lv_at hl 0 rfl) ?_
  refine lv_aload_n hx hb dX3_copyFrom_1 rfl (lv_at hl 1 rfl) ?_
  refine get3 B hP h2 0 (by decide) mw_91 rfl dX3_copyFrom_2 ?_
  refine put3 B hP hS h1 0 (by decide) mw_91 rfl rfl rfl (fs3_0 E k1 _ _) dX3_copyFrom_5 (fun H locs hP hS => ?_)
  rw [up_self ρ (ha 0)] at hP
  refine lv_aload_n hx hb dX3_copyFrom_8 rfl (lv_at hl 0 rfl) ?_
  refine lv_aload_n hx hb dX3_copyFrom_9 rfl (lv_at hl 1 rfl) ?_
  refine get3 B hP h2 1 (by decide) mw_96 rfl dX3_copyFrom_10 ?_
  refine put3 B hP hS h1 1 (by decide) mw_96 rfl rfl rfl (fs3_1 E k1 _ _) dX3_copyFrom_13 (fun H locs hP hS => ?_)
  rw [up_self ρ (ha 1)] at hP
  refine lv_aload_n hx hb dX3_copyFrom_16 rfl (lv_at hl 0 rfl) ?_
  refine lv_aload_n hx hb dX3_copyFrom_17 rfl (lv_at hl 1 rfl) ?_
  refine get3 B hP h2 2 (by decide) mw_99 rfl dX3_copyFrom_18 ?_
  refine put3 B hP hS h1 2 (by decide) mw_99 rfl rfl rfl (fs3_2 E k1 _ _) dX3_copyFrom_21 (fun H locs hP hS => ?_)
  rw [up_self ρ (ha 2)] at hP
  exact ret_v B hr hlk hP hS dX3_copyFrom_24 (rfl)

theorem lk_RX2_83 : LkV RX2 83 RX3 yX3_copyFrom cX3_copyFrom 2 none 1 := ⟨⟨mw_477, mw_478, mw_479, mw_55, mw_480⟩, by decide +kernel⟩
set_option maxHeartbeats 4000000 in
set_option maxRecDepth 100000 in
theorem c_Net_copyFrom (l : Launch) (E : hE) (ρ : Nat → Nat → Int32) (k1 k2 : Nat) (h1 : hk k1 = 2) (h2 : hk k2 = 2) (ha : ∀ r, r < 5 → ∀ j, ρ (k1 + r) j = ρ (k2 + r) j) (hz : ρ k2 8 = 0) : Met l yX2_copyFrom (.code yX2_copyFrom cX2_copyFrom 3 none :: gw_all) (rmk 1 40) (cPre E ρ [.ref (E.2.1 + k1), .ref (E.2.1 + k2)]) (cV E (fun ρ1 => ρ = ρ1)) 0 0 (hA E) := by
  refine ent (own := RX2) (by decide) rfl (Nat.le_of_ble_eq_true rfl) ?_
  intro p e s m below meth c ls B hr hlk hl hP hS
  have hx := B.1.1
  have hb := B.1.2.1
  have hown := B.1.2.2.2.1
  have hts := B.1.2.2.2.2
  have hl : lv_has ls 3 [(0, .ref (E.2.1 + k1)), (1, .ref (E.2.1 + k2))] := hl
  refine lv_aload_n hx hb dX2_copyFrom_0 rfl (lv_at hl 0 rfl) ?_
  refine get2 B hP h1 0 (by decide) mw_282 rfl dX2_copyFrom_1 ?_
  refine lv_aload_n hx hb dX2_copyFrom_4 rfl (lv_at hl 1 rfl) ?_
  refine get2 B hP h2 0 (by decide) mw_282 rfl dX2_copyFrom_5 ?_
  refine call_v (cVt (k := (k1 + 1)) (av := [.ref (E.2.1 + (k2 + 1))]) (rest := []) B hP hS (c_Plan_copyFrom l E ρ (k1 + 1) (k2 + 1) (lay2 h1).1 (lay2 h2).1 (ha 1 (by decide))) lk_RX2_83 (hrecv (ci := 3) B hP (hk_lt (c := 3) (lay2 h1).1 (by decide)) (hcc3 _ _ (lay2 h1).1) rfl) rfl rfl hl.1 (Nat.le_of_ble_eq_true rfl) ⟨Nat.le_of_ble_eq_true rfl, Nat.le_of_ble_eq_true rfl⟩ ⟨Nat.le_of_ble_eq_true rfl, Nat.le_of_ble_eq_true rfl⟩ dX2_copyFrom_8) hS (fun ρ2 H locs q3 hP hS => ?_)
  obtain rfl := q3
  refine lv_aload_n hx hb dX2_copyFrom_11 rfl (lv_at hl 1 rfl) ?_
  refine get2 B hP h2 1 (by decide) mw_285 rfl dX2_copyFrom_12 ?_
  refine lv_iconst (v := 0) hx hb dX2_copyFrom_15 (by decide) ?_
  refine lv_aload_n hx hb dX2_copyFrom_16 rfl (lv_at hl 0 rfl) ?_
  refine get2 B hP h1 1 (by decide) mw_285 rfl dX2_copyFrom_17 ?_
  refine lv_iconst (v := 0) hx hb dX2_copyFrom_20 (by decide) ?_
  refine lv_iconst (v := 4) hx hb dX2_copyFrom_21 (by decide) ?_
  refine acopy (n := 4) B hP hS (lay2 h2).2.1 (lay2 h1).2.1 (lay2 h2).2.2.1 (lay2 h1).2.2.1 rfl (by decide) hl.1 mw_481 mw_472 mw_471 mw_60 (Nat.le_of_ble_eq_true rfl) (Nat.le_of_ble_eq_true rfl) dX2_copyFrom_22 (fun H locs hP hS => ?_)
  rw [upc_self ρ (cpy_self (fun j _ => ha 2 (by decide) j))] at hP
  refine lv_aload_n hx hb dX2_copyFrom_25 rfl (lv_at hl 1 rfl) ?_
  refine get2 B hP h2 2 (by decide) mw_287 rfl dX2_copyFrom_26 ?_
  refine lv_iconst (v := 0) hx hb dX2_copyFrom_29 (by decide) ?_
  refine lv_aload_n hx hb dX2_copyFrom_30 rfl (lv_at hl 0 rfl) ?_
  refine get2 B hP h1 2 (by decide) mw_287 rfl dX2_copyFrom_31 ?_
  refine lv_iconst (v := 0) hx hb dX2_copyFrom_34 (by decide) ?_
  refine lv_bipush (v := 23) hx hb dX2_copyFrom_35 (by decide) ?_
  refine acopy (n := 23) B hP hS (lay2 h2).2.2.2.1 (lay2 h1).2.2.2.1 (lay2 h2).2.2.2.2.1 (lay2 h1).2.2.2.2.1 rfl (by decide) hl.1 mw_481 mw_472 mw_471 mw_60 (Nat.le_of_ble_eq_true rfl) (Nat.le_of_ble_eq_true rfl) dX2_copyFrom_37 (fun H locs hP hS => ?_)
  rw [upc_self ρ (cpy_self (fun j _ => ha 3 (by decide) j))] at hP
  refine lv_aload_n hx hb dX2_copyFrom_40 rfl (lv_at hl 1 rfl) ?_
  refine get2 B hP h2 3 (by decide) mw_289 rfl dX2_copyFrom_41 ?_
  refine lv_iconst (v := 0) hx hb dX2_copyFrom_44 (by decide) ?_
  refine lv_aload_n hx hb dX2_copyFrom_45 rfl (lv_at hl 0 rfl) ?_
  refine get2 B hP h1 3 (by decide) mw_289 rfl dX2_copyFrom_46 ?_
  refine lv_iconst (v := 0) hx hb dX2_copyFrom_49 (by decide) ?_
  refine lv_bipush (v := 23) hx hb dX2_copyFrom_50 (by decide) ?_
  refine acopy (n := 23) B hP hS (lay2 h2).2.2.2.2.2.1 (lay2 h1).2.2.2.2.2.1 (lay2 h2).2.2.2.2.2.2.1 (lay2 h1).2.2.2.2.2.2.1 rfl (by decide) hl.1 mw_481 mw_472 mw_471 mw_60 (Nat.le_of_ble_eq_true rfl) (Nat.le_of_ble_eq_true rfl) dX2_copyFrom_52 (fun H locs hP hS => ?_)
  rw [upc_self ρ (cpy_self (fun j _ => ha 4 (by decide) j))] at hP
  refine lv_iconst (v := 0) hx hb dX2_copyFrom_55 (by decide) ?_
  refine lv_istore_n (lv' := [(2, .int 0), (0, .ref (E.2.1 + k1)), (1, .ref (E.2.1 + k2))]) hx hb dX2_copyFrom_56 rfl hl (by decide) rfl (fun ls hl => ?_)
  refine lv_iload_n hx hb dX2_copyFrom_57 rfl (lv_at hl 0 rfl) ?_
  refine lv_aload_n hx hb dX2_copyFrom_58 rfl (lv_at hl 2 rfl) ?_
  refine get2 B hP h2 8 (by decide) mw_303 (v := .int 0) (show some (Value.int (ρ k2 8)) = some (Value.int 0) from congrArg (fun z => some (Value.int z)) hz) dX2_copyFrom_59 ?_
  refine lv_icmp_ge (tgt := 91) hx hb dX2_copyFrom_62 (by decide) (fun _ => ?_) (fun c4 => absurd c4 (by decide))
  refine lv_aload_n hx hb dX2_copyFrom_91 rfl (lv_at hl 1 rfl) ?_
  refine lv_aload_n hx hb dX2_copyFrom_92 rfl (lv_at hl 2 rfl) ?_
  refine get2 B hP h2 5 (by decide) mw_294 rfl dX2_copyFrom_93 ?_
  refine put2 B hP hS h1 5 (by decide) mw_294 rfl rfl rfl (fs2_5 E k1 _ _) dX2_copyFrom_96 (fun H locs hP hS => ?_)
  rw [up_self ρ (show ρ k1 5 = ρ k2 5 from ha 0 (by decide) 5)] at hP
  refine lv_aload_n hx hb dX2_copyFrom_99 rfl (lv_at hl 1 rfl) ?_
  refine lv_aload_n hx hb dX2_copyFrom_100 rfl (lv_at hl 2 rfl) ?_
  refine get2 B hP h2 6 (by decide) mw_297 rfl dX2_copyFrom_101 ?_
  refine put2 B hP hS h1 6 (by decide) mw_297 rfl rfl rfl (fs2_6 E k1 _ _) dX2_copyFrom_104 (fun H locs hP hS => ?_)
  rw [up_self ρ (show ρ k1 6 = ρ k2 6 from ha 0 (by decide) 6)] at hP
  refine lv_aload_n hx hb dX2_copyFrom_107 rfl (lv_at hl 1 rfl) ?_
  refine lv_aload_n hx hb dX2_copyFrom_108 rfl (lv_at hl 2 rfl) ?_
  refine get2 B hP h2 7 (by decide) mw_300 rfl dX2_copyFrom_109 ?_
  refine put2 B hP hS h1 7 (by decide) mw_300 rfl rfl rfl (fs2_7 E k1 _ _) dX2_copyFrom_112 (fun H locs hP hS => ?_)
  rw [up_self ρ (show ρ k1 7 = ρ k2 7 from ha 0 (by decide) 7)] at hP
  refine lv_aload_n hx hb dX2_copyFrom_115 rfl (lv_at hl 1 rfl) ?_
  refine lv_aload_n hx hb dX2_copyFrom_116 rfl (lv_at hl 2 rfl) ?_
  refine get2 B hP h2 8 (by decide) mw_303 (v := .int 0) (show some (Value.int (ρ k2 8)) = some (Value.int 0) from congrArg (fun z => some (Value.int z)) hz) dX2_copyFrom_117 ?_
  refine put2 B hP hS h1 8 (by decide) mw_303 rfl rfl rfl (fs2_8 E k1 _ _) dX2_copyFrom_120 (fun H locs hP hS => ?_)
  rw [up_self ρ (show ρ k1 8 = 0 from (ha 0 (by decide) 8).trans hz)] at hP
  refine lv_aload_n hx hb dX2_copyFrom_123 rfl (lv_at hl 1 rfl) ?_
  refine lv_aload_n hx hb dX2_copyFrom_124 rfl (lv_at hl 2 rfl) ?_
  refine get2 B hP h2 9 (by decide) mw_306 rfl dX2_copyFrom_125 ?_
  refine put2 B hP hS h1 9 (by decide) mw_306 rfl rfl rfl (fs2_9 E k1 _ _) dX2_copyFrom_128 (fun H locs hP hS => ?_)
  rw [up_self ρ (show ρ k1 9 = ρ k2 9 from ha 0 (by decide) 9)] at hP
  refine lv_aload_n hx hb dX2_copyFrom_131 rfl (lv_at hl 1 rfl) ?_
  refine lv_aload_n hx hb dX2_copyFrom_132 rfl (lv_at hl 2 rfl) ?_
  refine get2 B hP h2 10 (by decide) mw_308 rfl dX2_copyFrom_133 ?_
  refine put2 B hP hS h1 10 (by decide) mw_308 rfl rfl rfl (fs2_10 E k1 _ _) dX2_copyFrom_136 (fun H locs hP hS => ?_)
  rw [up_self ρ (show ρ k1 10 = ρ k2 10 from ha 0 (by decide) 10)] at hP
  refine lv_aload_n hx hb dX2_copyFrom_139 rfl (lv_at hl 1 rfl) ?_
  refine lv_aload_n hx hb dX2_copyFrom_140 rfl (lv_at hl 2 rfl) ?_
  refine get2 B hP h2 11 (by decide) mw_309 rfl dX2_copyFrom_141 ?_
  refine put2 B hP hS h1 11 (by decide) mw_309 rfl rfl rfl (fs2_11 E k1 _ _) dX2_copyFrom_144 (fun H locs hP hS => ?_)
  rw [up_self ρ (show ρ k1 11 = ρ k2 11 from ha 0 (by decide) 11)] at hP
  refine lv_aload_n hx hb dX2_copyFrom_147 rfl (lv_at hl 1 rfl) ?_
  refine lv_aload_n hx hb dX2_copyFrom_148 rfl (lv_at hl 2 rfl) ?_
  refine get2 B hP h2 12 (by decide) mw_312 rfl dX2_copyFrom_149 ?_
  refine put2 B hP hS h1 12 (by decide) mw_312 rfl rfl rfl (fs2_12 E k1 _ _) dX2_copyFrom_152 (fun H locs hP hS => ?_)
  rw [up_self ρ (show ρ k1 12 = ρ k2 12 from ha 0 (by decide) 12)] at hP
  refine lv_aload_n hx hb dX2_copyFrom_155 rfl (lv_at hl 1 rfl) ?_
  refine lv_aload_n hx hb dX2_copyFrom_156 rfl (lv_at hl 2 rfl) ?_
  refine get2 B hP h2 13 (by decide) mw_314 rfl dX2_copyFrom_157 ?_
  refine put2 B hP hS h1 13 (by decide) mw_314 rfl rfl rfl (fs2_13 E k1 _ _) dX2_copyFrom_160 (fun H locs hP hS => ?_)
  rw [up_self ρ (show ρ k1 13 = ρ k2 13 from ha 0 (by decide) 13)] at hP
  exact ret_v B hr hlk hP hS dX2_copyFrom_163 (rfl)

theorem lk_RX5_53 : LkV RX5 53 RX2 yX2_copyFrom cX2_copyFrom 3 none 1 := ⟨⟨mw_473, mw_474, mw_475, mw_54, mw_476⟩, by decide +kernel⟩
set_option maxHeartbeats 4000000 in
set_option maxRecDepth 100000 in
theorem c_World_copyFrom (l : Launch) (E : hE) (ρ : Nat → Nat → Int32) (k1 k2 : Nat) (h1 : hk k1 = 5) (h2 : hk k2 = 5) (hne : k2 ≠ k1) (ha : ∀ r, 0 < r → r < 52 → r ≠ 10 → ∀ j, ρ (k1 + r) j = ρ (k2 + r) j) (hz : ρ (k2 + 5) 8 = 0 ∧ ρ (k2 + 47) 8 = 0) : Met l yX5_copyFrom (.code yX5_copyFrom cX5_copyFrom 3 none :: gw_all) (rmk 2 80) (cPre E ρ [.ref (E.2.1 + k1), .ref (E.2.1 + k2)]) (cV E (fun ρ1 => ρ1 = cpw ρ k1 k2)) 0 0 (hA E) := by
  refine ent (own := RX5) (by decide) rfl (Nat.le_of_ble_eq_true rfl) ?_
  intro p e s m below meth c ls B hr hlk hl hP hS
  have hx := B.1.1
  have hb := B.1.2.1
  have hown := B.1.2.2.2.1
  have hts := B.1.2.2.2.2
  have hl : lv_has ls 3 [(0, .ref (E.2.1 + k1)), (1, .ref (E.2.1 + k2))] := hl
  refine lv_aload_n hx hb dX5_copyFrom_0 rfl (lv_at hl 1 rfl) ?_
  refine get5 B hP h2 0 (by decide) mw_371 rfl dX5_copyFrom_1 ?_
  refine lv_iconst (v := 0) hx hb dX5_copyFrom_4 (by decide) ?_
  refine lv_aload_n hx hb dX5_copyFrom_5 rfl (lv_at hl 0 rfl) ?_
  refine get5 B hP h1 0 (by decide) mw_371 rfl dX5_copyFrom_6 ?_
  refine lv_iconst (v := 0) hx hb dX5_copyFrom_9 (by decide) ?_
  refine lv_bipush (v := 6) hx hb dX5_copyFrom_10 (by decide) ?_
  refine acopy (n := 6) B hP hS (lay5 h2).1 (lay5 h1).1 (lay5 h2).2.1 (lay5 h1).2.1 rfl (by decide) hl.1 mw_470 mw_472 mw_471 mw_60 (Nat.le_of_ble_eq_true rfl) (Nat.le_of_ble_eq_true rfl) dX5_copyFrom_12 (fun H locs hP hS => ?_)
  rw [upc_self ρ (cpy_self (fun j _ => ha 1 (by decide) (by decide) (by decide) j))] at hP
  refine lv_aload_n hx hb dX5_copyFrom_15 rfl (lv_at hl 1 rfl) ?_
  refine get5 B hP h2 1 (by decide) mw_373 rfl dX5_copyFrom_16 ?_
  refine lv_iconst (v := 0) hx hb dX5_copyFrom_19 (by decide) ?_
  refine lv_aload_n hx hb dX5_copyFrom_20 rfl (lv_at hl 0 rfl) ?_
  refine get5 B hP h1 1 (by decide) mw_373 rfl dX5_copyFrom_21 ?_
  refine lv_iconst (v := 0) hx hb dX5_copyFrom_24 (by decide) ?_
  refine lv_bipush (v := 23) hx hb dX5_copyFrom_25 (by decide) ?_
  refine acopy (n := 23) B hP hS (lay5 h2).2.2.1 (lay5 h1).2.2.1 (lay5 h2).2.2.2.1 (lay5 h1).2.2.2.1 rfl (by decide) hl.1 mw_470 mw_472 mw_471 mw_60 (Nat.le_of_ble_eq_true rfl) (Nat.le_of_ble_eq_true rfl) dX5_copyFrom_27 (fun H locs hP hS => ?_)
  rw [upc_self ρ (cpy_self (fun j _ => ha 2 (by decide) (by decide) (by decide) j))] at hP
  refine lv_aload_n hx hb dX5_copyFrom_30 rfl (lv_at hl 1 rfl) ?_
  refine get5 B hP h2 2 (by decide) mw_375 rfl dX5_copyFrom_31 ?_
  refine lv_iconst (v := 0) hx hb dX5_copyFrom_34 (by decide) ?_
  refine lv_aload_n hx hb dX5_copyFrom_35 rfl (lv_at hl 0 rfl) ?_
  refine get5 B hP h1 2 (by decide) mw_375 rfl dX5_copyFrom_36 ?_
  refine lv_iconst (v := 0) hx hb dX5_copyFrom_39 (by decide) ?_
  refine lv_bipush (v := 9) hx hb dX5_copyFrom_40 (by decide) ?_
  refine acopy (n := 9) B hP hS (lay5 h2).2.2.2.2.1 (lay5 h1).2.2.2.2.1 (lay5 h2).2.2.2.2.2.1 (lay5 h1).2.2.2.2.2.1 rfl (by decide) hl.1 mw_470 mw_472 mw_471 mw_60 (Nat.le_of_ble_eq_true rfl) (Nat.le_of_ble_eq_true rfl) dX5_copyFrom_42 (fun H locs hP hS => ?_)
  rw [upc_self ρ (cpy_self (fun j _ => ha 3 (by decide) (by decide) (by decide) j))] at hP
  refine lv_iconst (v := 0) hx hb dX5_copyFrom_45 (by decide) ?_
  refine lv_istore_n (lv' := [(2, .int 0), (0, .ref (E.2.1 + k1)), (1, .ref (E.2.1 + k2))]) hx hb dX5_copyFrom_46 rfl hl (by decide) rfl (fun ls hl => ?_)
  refine lv_iload_n hx hb dX5_copyFrom_47 rfl (lv_at hl 0 rfl) ?_
  refine lv_iconst (v := 2) hx hb dX5_copyFrom_48 (by decide) ?_
  refine lv_icmp_ge (tgt := 73) hx hb dX5_copyFrom_49 (by decide) (fun c1 => absurd c1 (by decide)) (fun _ => ?_)
  refine lv_aload_n hx hb dX5_copyFrom_52 rfl (lv_at hl 1 rfl) ?_
  refine get5 B hP h1 3 (by decide) mw_377 rfl dX5_copyFrom_53 ?_
  refine lv_iload_n hx hb dX5_copyFrom_56 rfl (lv_at hl 0 rfl) ?_
  refine aldNn B hP (lay5 h1).2.2.2.2.2.2.1 (lay5 h1).2.2.2.2.2.2.2.1 rfl (by decide) dX5_copyFrom_57 ?_
  refine lv_aload_n hx hb dX5_copyFrom_58 rfl (lv_at hl 2 rfl) ?_
  refine get5 B hP h2 3 (by decide) mw_377 rfl dX5_copyFrom_59 ?_
  refine lv_iload_n hx hb dX5_copyFrom_62 rfl (lv_at hl 0 rfl) ?_
  refine aldNn B hP (lay5 h2).2.2.2.2.2.2.1 (lay5 h2).2.2.2.2.2.2.2.1 rfl (by decide) dX5_copyFrom_63 ?_
  refine call_v (cVt (k := (k1 + 5)) (av := [.ref (E.2.1 + (k2 + 5))]) (rest := []) B hP hS (c_Net_copyFrom l E ρ (k1 + 5) (k2 + 5) (lay5 h1).2.2.2.2.2.2.2.2.1 (lay5 h2).2.2.2.2.2.2.2.2.1 (fun r hr j => by have := ha (5 + r) (by omega) (by omega) (by omega) j; rw [← Nat.add_assoc, ← Nat.add_assoc] at this; exact this) hz.1) lk_RX5_53 (hrecv (ci := 2) B hP (hk_lt (c := 2) (lay5 h1).2.2.2.2.2.2.2.2.1 (by decide)) (hcc2 _ _ (lay5 h1).2.2.2.2.2.2.2.2.1) rfl) rfl rfl hl.1 (Nat.le_of_ble_eq_true rfl) ⟨Nat.le_of_ble_eq_true rfl, Nat.le_of_ble_eq_true rfl⟩ ⟨Nat.le_of_ble_eq_true rfl, Nat.le_of_ble_eq_true rfl⟩ dX5_copyFrom_64) hS (fun ρ3 H locs q4 hP hS => ?_)
  obtain rfl := q4
  refine lv_iinc (v := 1) (lv' := [(2, .int 1), (0, .ref (E.2.1 + k1)), (1, .ref (E.2.1 + k2))]) hx hb dX5_copyFrom_67 hl (k := 0) rfl (by decide) (by decide) rfl (fun ls hl => ?_)
  refine lv_goto (tgt := 47) hx hb dX5_copyFrom_70 (by decide) ?_
  refine lv_iload_n hx hb dX5_copyFrom_47 rfl (lv_at hl 0 rfl) ?_
  refine lv_iconst (v := 2) hx hb dX5_copyFrom_48 (by decide) ?_
  refine lv_icmp_ge (tgt := 73) hx hb dX5_copyFrom_49 (by decide) (fun c5 => absurd c5 (by decide)) (fun _ => ?_)
  refine lv_aload_n hx hb dX5_copyFrom_52 rfl (lv_at hl 1 rfl) ?_
  refine get5 B hP h1 3 (by decide) mw_377 rfl dX5_copyFrom_53 ?_
  refine lv_iload_n hx hb dX5_copyFrom_56 rfl (lv_at hl 0 rfl) ?_
  refine aldNn B hP (lay5 h1).2.2.2.2.2.2.1 (lay5 h1).2.2.2.2.2.2.2.1 rfl (by decide) dX5_copyFrom_57 ?_
  refine lv_aload_n hx hb dX5_copyFrom_58 rfl (lv_at hl 2 rfl) ?_
  refine get5 B hP h2 3 (by decide) mw_377 rfl dX5_copyFrom_59 ?_
  refine lv_iload_n hx hb dX5_copyFrom_62 rfl (lv_at hl 0 rfl) ?_
  refine aldNn B hP (lay5 h2).2.2.2.2.2.2.1 (lay5 h2).2.2.2.2.2.2.2.1 rfl (by decide) dX5_copyFrom_63 ?_
  refine call_v (cVt (k := (k1 + 47)) (av := [.ref (E.2.1 + (k2 + 47))]) (rest := []) B hP hS (c_Net_copyFrom l E ρ (k1 + 47) (k2 + 47) (lay5 h1).2.2.2.2.2.2.2.2.2 (lay5 h2).2.2.2.2.2.2.2.2.2 (fun r hr j => by have := ha (47 + r) (by omega) (by omega) (by omega) j; rw [← Nat.add_assoc, ← Nat.add_assoc] at this; exact this) hz.2) lk_RX5_53 (hrecv (ci := 2) B hP (hk_lt (c := 2) (lay5 h1).2.2.2.2.2.2.2.2.2 (by decide)) (hcc2 _ _ (lay5 h1).2.2.2.2.2.2.2.2.2) rfl) rfl rfl hl.1 (Nat.le_of_ble_eq_true rfl) ⟨Nat.le_of_ble_eq_true rfl, Nat.le_of_ble_eq_true rfl⟩ ⟨Nat.le_of_ble_eq_true rfl, Nat.le_of_ble_eq_true rfl⟩ dX5_copyFrom_64) hS (fun ρ7 H locs q8 hP hS => ?_)
  obtain rfl := q8
  refine lv_iinc (v := 2) (lv' := [(2, .int 2), (0, .ref (E.2.1 + k1)), (1, .ref (E.2.1 + k2))]) hx hb dX5_copyFrom_67 hl (k := 0) rfl (by decide) (by decide) rfl (fun ls hl => ?_)
  refine lv_goto (tgt := 47) hx hb dX5_copyFrom_70 (by decide) ?_
  refine lv_iload_n hx hb dX5_copyFrom_47 rfl (lv_at hl 0 rfl) ?_
  refine lv_iconst (v := 2) hx hb dX5_copyFrom_48 (by decide) ?_
  refine lv_icmp_ge (tgt := 73) hx hb dX5_copyFrom_49 (by decide) (fun _ => ?_) (fun c9 => absurd c9 (by decide))
  refine lv_aload_n hx hb dX5_copyFrom_73 rfl (lv_at hl 1 rfl) ?_
  refine lv_aload_n hx hb dX5_copyFrom_74 rfl (lv_at hl 2 rfl) ?_
  refine get5 B hP h2 4 (by decide) mw_379 (v := .int (ρ k2 4)) (show some (Value.int (ρ k2 4)) = some (Value.int (ρ k2 4)) from congrArg (fun z => some (Value.int z)) (show ρ k2 4 = ρ k2 4 from rfl)) dX5_copyFrom_75 ?_
  refine put5 B hP hS h1 4 (by decide) mw_379 rfl rfl rfl (fs5_4 E k1 _ _) dX5_copyFrom_78 (fun H locs hP hS => ?_)
  obtain ⟨ρ10, e11⟩ : ∃ z, z = up ρ k1 4 (ρ k2 4) := ⟨_, rfl⟩
  rw [← e11] at hP
  refine lv_aload_n hx hb dX5_copyFrom_81 rfl (lv_at hl 1 rfl) ?_
  refine lv_aload_n hx hb dX5_copyFrom_82 rfl (lv_at hl 2 rfl) ?_
  refine get5 B hP h2 5 (by decide) mw_381 (v := .int (ρ k2 5)) (show some (Value.int (ρ10 k2 5)) = some (Value.int (ρ k2 5)) from congrArg (fun z => some (Value.int z)) (by rw [e11]; exact up_get_ne (Or.inl (by omega)) (show ρ k2 5 = ρ k2 5 from rfl))) dX5_copyFrom_83 ?_
  refine put5 B hP hS h1 5 (by decide) mw_381 rfl rfl rfl (fs5_5 E k1 _ _) dX5_copyFrom_86 (fun H locs hP hS => ?_)
  obtain ⟨ρ12, e13⟩ : ∃ z, z = up ρ10 k1 5 (ρ k2 5) := ⟨_, rfl⟩
  rw [← e13] at hP
  refine lv_aload_n hx hb dX5_copyFrom_89 rfl (lv_at hl 1 rfl) ?_
  refine lv_aload_n hx hb dX5_copyFrom_90 rfl (lv_at hl 2 rfl) ?_
  refine get5 B hP h2 6 (by decide) mw_383 (v := .int (ρ k2 6)) (show some (Value.int (ρ12 k2 6)) = some (Value.int (ρ k2 6)) from congrArg (fun z => some (Value.int z)) (by rw [e13]; exact up_get_ne (Or.inl (by omega)) (by rw [e11]; exact up_get_ne (Or.inl (by omega)) (show ρ k2 6 = ρ k2 6 from rfl)))) dX5_copyFrom_91 ?_
  refine put5 B hP hS h1 6 (by decide) mw_383 rfl rfl rfl (fs5_6 E k1 _ _) dX5_copyFrom_94 (fun H locs hP hS => ?_)
  obtain ⟨ρ14, e15⟩ : ∃ z, z = up ρ12 k1 6 (ρ k2 6) := ⟨_, rfl⟩
  rw [← e15] at hP
  refine lv_aload_n hx hb dX5_copyFrom_97 rfl (lv_at hl 1 rfl) ?_
  refine lv_aload_n hx hb dX5_copyFrom_98 rfl (lv_at hl 2 rfl) ?_
  refine get5 B hP h2 7 (by decide) mw_385 (v := .int (ρ k2 7)) (show some (Value.int (ρ14 k2 7)) = some (Value.int (ρ k2 7)) from congrArg (fun z => some (Value.int z)) (by rw [e15]; exact up_get_ne (Or.inl (by omega)) (by rw [e13]; exact up_get_ne (Or.inl (by omega)) (by rw [e11]; exact up_get_ne (Or.inl (by omega)) (show ρ k2 7 = ρ k2 7 from rfl))))) dX5_copyFrom_99 ?_
  refine put5 B hP hS h1 7 (by decide) mw_385 rfl rfl rfl (fs5_7 E k1 _ _) dX5_copyFrom_102 (fun H locs hP hS => ?_)
  obtain ⟨ρ16, e17⟩ : ∃ z, z = up ρ14 k1 7 (ρ k2 7) := ⟨_, rfl⟩
  rw [← e17] at hP
  refine lv_aload_n hx hb dX5_copyFrom_105 rfl (lv_at hl 1 rfl) ?_
  refine lv_aload_n hx hb dX5_copyFrom_106 rfl (lv_at hl 2 rfl) ?_
  refine get5 B hP h2 8 (by decide) mw_387 (v := .int (ρ k2 8)) (show some (Value.int (ρ16 k2 8)) = some (Value.int (ρ k2 8)) from congrArg (fun z => some (Value.int z)) (by rw [e17]; exact up_get_ne (Or.inl (by omega)) (by rw [e15]; exact up_get_ne (Or.inl (by omega)) (by rw [e13]; exact up_get_ne (Or.inl (by omega)) (by rw [e11]; exact up_get_ne (Or.inl (by omega)) (show ρ k2 8 = ρ k2 8 from rfl)))))) dX5_copyFrom_107 ?_
  refine put5 B hP hS h1 8 (by decide) mw_387 rfl rfl rfl (fs5_8 E k1 _ _) dX5_copyFrom_110 (fun H locs hP hS => ?_)
  obtain ⟨ρ18, e19⟩ : ∃ z, z = up ρ16 k1 8 (ρ k2 8) := ⟨_, rfl⟩
  rw [← e19] at hP
  exact ret_v B hr hlk hP hS dX5_copyFrom_113 ((cpw_eq e11 e13 e15 e17 e19))
end
section

theorem ht_ok {n : Int32} (h : iR n 1 200) : ¬ (99998 : Int32) < 0 + 2 * n := by
  intro z
  have z := Int32.lt_iff_toInt_lt.mp z
  have e : (0 + 2 * n).toInt = 2 * n.toInt := by
    rw [Int32.zero_add, Int32.toInt_mul]
    have e2 : (2 : Int32).toInt = 2 := rfl
    rw [e2, Int.bmod_eq_of_le (by have := h.1; omega) (by have := h.2; omega)]
  have e3 : (99998 : Int32).toInt = 99998 := rfl
  rw [e, e3] at z
  have := h.2
  omega
theorem iR_nat {n : Int32} {a b : Int} (h : iR n a b) (ha : 0 ≤ a) (hb : b < 2 ^ 31) : ∃ N : Nat, ((a ≤ N ∧ N ≤ b) ∧ N < 2 ^ 31) ∧ n = nI N := by
  obtain ⟨j, hj, e⟩ := nI_of (x := n) (fun q => by have := Int32.lt_iff_toInt_lt.mp q; have h0 : (0 : Int32).toInt = 0 := rfl; rw [h0] at this; have := h.1; omega)
  have h1 := h.1
  have h2 := h.2
  rw [e, nI_toInt hj] at h1 h2
  exact ⟨j, ⟨⟨h1, h2⟩, hj⟩, e⟩
theorem dX5_netAt_0 : decode cX5_netAt 0 = .ok (.iload_n 1, 1) := by decide +kernel
theorem dX5_netAt_1 : decode cX5_netAt 1 = .ok (.ifCond .lt 21, 3) := by decide +kernel
theorem dX5_netAt_4 : decode cX5_netAt 4 = .ok (.iload_n 1, 1) := by decide +kernel
theorem dX5_netAt_5 : decode cX5_netAt 5 = .ok (.iconst 2, 1) := by decide +kernel
theorem dX5_netAt_6 : decode cX5_netAt 6 = .ok (.if_icmp .ge 16, 3) := by decide +kernel
theorem dX5_netAt_9 : decode cX5_netAt 9 = .ok (.aload_n 0, 1) := by decide +kernel
theorem dX5_netAt_10 : decode cX5_netAt 10 = .ok (.getfield 23, 3) := by decide +kernel
theorem dX5_netAt_13 : decode cX5_netAt 13 = .ok (.iload_n 1, 1) := by decide +kernel
theorem dX5_netAt_14 : decode cX5_netAt 14 = .ok (.aaload, 1) := by decide +kernel
theorem dX5_netAt_15 : decode cX5_netAt 15 = .ok (.getfield 57, 3) := by decide +kernel
theorem dX5_netAt_18 : decode cX5_netAt 18 = .ok (.iconst (-1), 1) := by decide +kernel
theorem dX5_netAt_19 : decode cX5_netAt 19 = .ok (.if_icmp .ne 7, 3) := by decide +kernel
theorem dX5_netAt_22 : decode cX5_netAt 22 = .ok (.aconst_null, 1) := by decide +kernel
theorem dX5_netAt_23 : decode cX5_netAt 23 = .ok (.goto 9, 3) := by decide +kernel
theorem dX5_netAt_26 : decode cX5_netAt 26 = .ok (.aload_n 0, 1) := by decide +kernel
theorem dX5_netAt_27 : decode cX5_netAt 27 = .ok (.getfield 23, 3) := by decide +kernel
theorem dX5_netAt_30 : decode cX5_netAt 30 = .ok (.iload_n 1, 1) := by decide +kernel
theorem dX5_netAt_31 : decode cX5_netAt 31 = .ok (.aaload, 1) := by decide +kernel
theorem dX5_netAt_32 : decode cX5_netAt 32 = .ok (.areturn, 1) := by decide +kernel
theorem dX5_linkAt_0 : decode cX5_linkAt 0 = .ok (.aload_n 0, 1) := by decide +kernel
theorem dX5_linkAt_1 : decode cX5_linkAt 1 = .ok (.iload_n 1, 1) := by decide +kernel
theorem dX5_linkAt_2 : decode cX5_linkAt 2 = .ok (.invokevirtual 60, 3) := by decide +kernel
theorem dX5_linkAt_5 : decode cX5_linkAt 5 = .ok (.astore_n 3, 1) := by decide +kernel
theorem dX5_linkAt_6 : decode cX5_linkAt 6 = .ok (.aload_n 3, 1) := by decide +kernel
theorem dX5_linkAt_7 : decode cX5_linkAt 7 = .ok (.ifnonnull 7, 3) := by decide +kernel
theorem dX5_linkAt_10 : decode cX5_linkAt 10 = .ok (.aconst_null, 1) := by decide +kernel
theorem dX5_linkAt_11 : decode cX5_linkAt 11 = .ok (.goto 8, 3) := by decide +kernel
theorem dX5_linkAt_14 : decode cX5_linkAt 14 = .ok (.aload_n 3, 1) := by decide +kernel
theorem dX5_linkAt_15 : decode cX5_linkAt 15 = .ok (.iload_n 2, 1) := by decide +kernel
theorem dX5_linkAt_16 : decode cX5_linkAt 16 = .ok (.invokevirtual 64, 3) := by decide +kernel
theorem dX5_linkAt_19 : decode cX5_linkAt 19 = .ok (.areturn, 1) := by decide +kernel
theorem dX5_hasRadio_0 : decode cX5_hasRadio 0 = .ok (.iload_n 1, 1) := by decide +kernel
theorem dX5_hasRadio_1 : decode cX5_hasRadio 1 = .ok (.ifCond .lt 15, 3) := by decide +kernel
theorem dX5_hasRadio_4 : decode cX5_hasRadio 4 = .ok (.iload_n 1, 1) := by decide +kernel
theorem dX5_hasRadio_5 : decode cX5_hasRadio 5 = .ok (.aload_n 0, 1) := by decide +kernel
theorem dX5_hasRadio_6 : decode cX5_hasRadio 6 = .ok (.getfield 27, 3) := by decide +kernel
theorem dX5_hasRadio_9 : decode cX5_hasRadio 9 = .ok (.if_icmp .ge 7, 3) := by decide +kernel
theorem dX5_hasRadio_12 : decode cX5_hasRadio 12 = .ok (.iconst 1, 1) := by decide +kernel
theorem dX5_hasRadio_13 : decode cX5_hasRadio 13 = .ok (.goto 4, 3) := by decide +kernel
theorem dX5_hasRadio_16 : decode cX5_hasRadio 16 = .ok (.iconst 0, 1) := by decide +kernel
theorem dX5_hasRadio_17 : decode cX5_hasRadio 17 = .ok (.ireturn, 1) := by decide +kernel
theorem dX5_hasBothNets_0 : decode cX5_hasBothNets 0 = .ok (.aload_n 0, 1) := by decide +kernel
theorem dX5_hasBothNets_1 : decode cX5_hasBothNets 1 = .ok (.iconst 0, 1) := by decide +kernel
theorem dX5_hasBothNets_2 : decode cX5_hasBothNets 2 = .ok (.invokevirtual 60, 3) := by decide +kernel
theorem dX5_hasBothNets_5 : decode cX5_hasBothNets 5 = .ok (.ifnull 15, 3) := by decide +kernel
theorem dX5_hasBothNets_8 : decode cX5_hasBothNets 8 = .ok (.aload_n 0, 1) := by decide +kernel
theorem dX5_hasBothNets_9 : decode cX5_hasBothNets 9 = .ok (.iconst 1, 1) := by decide +kernel
theorem dX5_hasBothNets_10 : decode cX5_hasBothNets 10 = .ok (.invokevirtual 60, 3) := by decide +kernel
theorem dX5_hasBothNets_13 : decode cX5_hasBothNets 13 = .ok (.ifnull 7, 3) := by decide +kernel
theorem dX5_hasBothNets_16 : decode cX5_hasBothNets 16 = .ok (.iconst 1, 1) := by decide +kernel
theorem dX5_hasBothNets_17 : decode cX5_hasBothNets 17 = .ok (.goto 4, 3) := by decide +kernel
theorem dX5_hasBothNets_20 : decode cX5_hasBothNets 20 = .ok (.iconst 0, 1) := by decide +kernel
theorem dX5_hasBothNets_21 : decode cX5_hasBothNets 21 = .ok (.ireturn, 1) := by decide +kernel
theorem dX6_planOf_0 : decode cX6_planOf 0 = .ok (.aload_n 0, 1) := by decide +kernel
theorem dX6_planOf_1 : decode cX6_planOf 1 = .ok (.getfield 12, 3) := by decide +kernel
theorem dX6_planOf_4 : decode cX6_planOf 4 = .ok (.iload_n 1, 1) := by decide +kernel
theorem dX6_planOf_5 : decode cX6_planOf 5 = .ok (.invokevirtual 95, 3) := by decide +kernel
theorem dX6_planOf_8 : decode cX6_planOf 8 = .ok (.astore_n 3, 1) := by decide +kernel
theorem dX6_planOf_9 : decode cX6_planOf 9 = .ok (.aload_n 3, 1) := by decide +kernel
theorem dX6_planOf_10 : decode cX6_planOf 10 = .ok (.ifnonnull 5, 3) := by decide +kernel
theorem dX6_planOf_13 : decode cX6_planOf 13 = .ok (.aconst_null, 1) := by decide +kernel
theorem dX6_planOf_14 : decode cX6_planOf 14 = .ok (.areturn, 1) := by decide +kernel
theorem dX6_planOf_15 : decode cX6_planOf 15 = .ok (.iload_n 2, 1) := by decide +kernel
theorem dX6_planOf_16 : decode cX6_planOf 16 = .ok (.iconst (-1), 1) := by decide +kernel
theorem dX6_planOf_17 : decode cX6_planOf 17 = .ok (.if_icmp .ne 8, 3) := by decide +kernel
theorem dX6_planOf_20 : decode cX6_planOf 20 = .ok (.aload_n 3, 1) := by decide +kernel
theorem dX6_planOf_21 : decode cX6_planOf 21 = .ok (.getfield 190, 3) := by decide +kernel
theorem dX6_planOf_24 : decode cX6_planOf 24 = .ok (.areturn, 1) := by decide +kernel
theorem dX6_planOf_25 : decode cX6_planOf 25 = .ok (.aload_n 3, 1) := by decide +kernel
theorem dX6_planOf_26 : decode cX6_planOf 26 = .ok (.iload_n 2, 1) := by decide +kernel
theorem dX6_planOf_27 : decode cX6_planOf 27 = .ok (.invokevirtual 109, 3) := by decide +kernel
theorem dX6_planOf_30 : decode cX6_planOf 30 = .ok (.astore 4, 2) := by decide +kernel
theorem dX6_planOf_32 : decode cX6_planOf 32 = .ok (.aload 4, 2) := by decide +kernel
theorem dX6_planOf_34 : decode cX6_planOf 34 = .ok (.ifnonnull 7, 3) := by decide +kernel
theorem dX6_planOf_37 : decode cX6_planOf 37 = .ok (.aconst_null, 1) := by decide +kernel
theorem dX6_planOf_38 : decode cX6_planOf 38 = .ok (.goto 8, 3) := by decide +kernel
theorem dX6_planOf_41 : decode cX6_planOf 41 = .ok (.aload 4, 2) := by decide +kernel
theorem dX6_planOf_43 : decode cX6_planOf 43 = .ok (.getfield 237, 3) := by decide +kernel
theorem dX6_planOf_46 : decode cX6_planOf 46 = .ok (.areturn, 1) := by decide +kernel
theorem dX6_hasTimeFor_0 : decode cX6_hasTimeFor 0 = .ok (.aload_n 0, 1) := by decide +kernel
theorem dX6_hasTimeFor_1 : decode cX6_hasTimeFor 1 = .ok (.getfield 12, 3) := by decide +kernel
theorem dX6_hasTimeFor_4 : decode cX6_hasTimeFor 4 = .ok (.getfield 102, 3) := by decide +kernel
theorem dX6_hasTimeFor_7 : decode cX6_hasTimeFor 7 = .ok (.iconst 2, 1) := by decide +kernel
theorem dX6_hasTimeFor_8 : decode cX6_hasTimeFor 8 = .ok (.iload_n 1, 1) := by decide +kernel
theorem dX6_hasTimeFor_9 : decode cX6_hasTimeFor 9 = .ok (.imul, 1) := by decide +kernel
theorem dX6_hasTimeFor_10 : decode cX6_hasTimeFor 10 = .ok (.iadd, 1) := by decide +kernel
theorem dX6_hasTimeFor_11 : decode cX6_hasTimeFor 11 = .ok (.ldc_w 338, 3) := by decide +kernel
theorem dX6_hasTimeFor_14 : decode cX6_hasTimeFor 14 = .ok (.if_icmp .gt 7, 3) := by decide +kernel
theorem dX6_hasTimeFor_17 : decode cX6_hasTimeFor 17 = .ok (.iconst 1, 1) := by decide +kernel
theorem dX6_hasTimeFor_18 : decode cX6_hasTimeFor 18 = .ok (.goto 4, 3) := by decide +kernel
theorem dX6_hasTimeFor_21 : decode cX6_hasTimeFor 21 = .ok (.iconst 0, 1) := by decide +kernel
theorem dX6_hasTimeFor_22 : decode cX6_hasTimeFor 22 = .ok (.ireturn, 1) := by decide +kernel
theorem dX3_changesAt_0 : decode cX3_changesAt 0 = .ok (.aload_n 0, 1) := by decide +kernel
theorem dX3_changesAt_1 : decode cX3_changesAt 1 = .ok (.getfield 16, 3) := by decide +kernel
theorem dX3_changesAt_4 : decode cX3_changesAt 4 = .ok (.ifCond .eq 11, 3) := by decide +kernel
theorem dX3_changesAt_7 : decode cX3_changesAt 7 = .ok (.aload_n 0, 1) := by decide +kernel
theorem dX3_changesAt_8 : decode cX3_changesAt 8 = .ok (.getfield 19, 3) := by decide +kernel
theorem dX3_changesAt_11 : decode cX3_changesAt 11 = .ok (.iload_n 1, 1) := by decide +kernel
theorem dX3_changesAt_12 : decode cX3_changesAt 12 = .ok (.if_icmp .le 5, 3) := by decide +kernel
theorem dX3_changesAt_15 : decode cX3_changesAt 15 = .ok (.iconst 0, 1) := by decide +kernel
theorem dX3_changesAt_16 : decode cX3_changesAt 16 = .ok (.ireturn, 1) := by decide +kernel
theorem dX3_changesAt_17 : decode cX3_changesAt 17 = .ok (.aload_n 0, 1) := by decide +kernel
theorem dX3_changesAt_18 : decode cX3_changesAt 18 = .ok (.aload_n 0, 1) := by decide +kernel
theorem dX3_changesAt_19 : decode cX3_changesAt 19 = .ok (.getfield 16, 3) := by decide +kernel
theorem dX3_changesAt_22 : decode cX3_changesAt 22 = .ok (.invokevirtual 22, 3) := by decide +kernel
theorem dX3_changesAt_25 : decode cX3_changesAt 25 = .ok (.iconst 1, 1) := by decide +kernel
theorem dX3_changesAt_26 : decode cX3_changesAt 26 = .ok (.ireturn, 1) := by decide +kernel
theorem dX5_changeMaps_0 : decode cX5_changeMaps 0 = .ok (.aload_n 1, 1) := by decide +kernel
theorem dX5_changeMaps_1 : decode cX5_changeMaps 1 = .ok (.getfield 104, 3) := by decide +kernel
theorem dX5_changeMaps_4 : decode cX5_changeMaps 4 = .ok (.getfield 108, 3) := by decide +kernel
theorem dX5_changeMaps_7 : decode cX5_changeMaps 7 = .ok (.istore_n 2, 1) := by decide +kernel
theorem dX5_changeMaps_8 : decode cX5_changeMaps 8 = .ok (.aload_n 1, 1) := by decide +kernel
theorem dX5_changeMaps_9 : decode cX5_changeMaps 9 = .ok (.getfield 104, 3) := by decide +kernel
theorem dX5_changeMaps_12 : decode cX5_changeMaps 12 = .ok (.aload_n 0, 1) := by decide +kernel
theorem dX5_changeMaps_13 : decode cX5_changeMaps 13 = .ok (.getfield 31, 3) := by decide +kernel
theorem dX5_changeMaps_16 : decode cX5_changeMaps 16 = .ok (.invokevirtual 180, 3) := by decide +kernel
theorem dX5_changeMaps_19 : decode cX5_changeMaps 19 = .ok (.ifCond .eq 19, 3) := by decide +kernel
theorem dX5_changeMaps_22 : decode cX5_changeMaps 22 = .ok (.aload_n 1, 1) := by decide +kernel
theorem dX5_changeMaps_23 : decode cX5_changeMaps 23 = .ok (.iload_n 2, 1) := by decide +kernel
theorem dX5_changeMaps_24 : decode cX5_changeMaps 24 = .ok (.putfield 183, 3) := by decide +kernel
theorem dX5_changeMaps_27 : decode cX5_changeMaps 27 = .ok (.aload_n 0, 1) := by decide +kernel
theorem dX5_changeMaps_28 : decode cX5_changeMaps 28 = .ok (.getfield 18, 3) := by decide +kernel
theorem dX5_changeMaps_31 : decode cX5_changeMaps 31 = .ok (.bipush 8, 2) := by decide +kernel
theorem dX5_changeMaps_33 : decode cX5_changeMaps 33 = .ok (.dup2, 1) := by decide +kernel
theorem dX5_changeMaps_34 : decode cX5_changeMaps 34 = .ok (.iaload, 1) := by decide +kernel
theorem dX5_changeMaps_35 : decode cX5_changeMaps 35 = .ok (.iconst 1, 1) := by decide +kernel
theorem dX5_changeMaps_36 : decode cX5_changeMaps 36 = .ok (.iadd, 1) := by decide +kernel
theorem dX5_changeMaps_37 : decode cX5_changeMaps 37 = .ok (.iastore, 1) := by decide +kernel
theorem dX5_changeMaps_38 : decode cX5_changeMaps 38 = .ok (.iconst 0, 1) := by decide +kernel
theorem dX5_changeMaps_39 : decode cX5_changeMaps 39 = .ok (.istore_n 3, 1) := by decide +kernel
theorem dX5_changeMaps_40 : decode cX5_changeMaps 40 = .ok (.iload_n 3, 1) := by decide +kernel
theorem dX5_changeMaps_41 : decode cX5_changeMaps 41 = .ok (.aload_n 1, 1) := by decide +kernel
theorem dX5_changeMaps_42 : decode cX5_changeMaps 42 = .ok (.getfield 121, 3) := by decide +kernel
theorem dX5_changeMaps_45 : decode cX5_changeMaps 45 = .ok (.if_icmp .ge 31, 3) := by decide +kernel
theorem dX5_changeMaps_48 : decode cX5_changeMaps 48 = .ok (.iload_n 3, 1) := by decide +kernel
theorem dX5_changeMaps_49 : decode cX5_changeMaps 49 = .ok (.iconst 4, 1) := by decide +kernel
theorem dX5_changeMaps_50 : decode cX5_changeMaps 50 = .ok (.if_icmp .ge 26, 3) := by decide +kernel
theorem dX5_changeMaps_53 : decode cX5_changeMaps 53 = .ok (.aload_n 1, 1) := by decide +kernel
theorem dX5_changeMaps_54 : decode cX5_changeMaps 54 = .ok (.getfield 124, 3) := by decide +kernel
theorem dX5_changeMaps_57 : decode cX5_changeMaps 57 = .ok (.iload_n 3, 1) := by decide +kernel
theorem dX5_changeMaps_58 : decode cX5_changeMaps 58 = .ok (.aaload, 1) := by decide +kernel
theorem dX5_changeMaps_59 : decode cX5_changeMaps 59 = .ok (.getfield 117, 3) := by decide +kernel
theorem dX5_changeMaps_62 : decode cX5_changeMaps 62 = .ok (.aload_n 0, 1) := by decide +kernel
theorem dX5_changeMaps_63 : decode cX5_changeMaps 63 = .ok (.getfield 31, 3) := by decide +kernel
theorem dX5_changeMaps_66 : decode cX5_changeMaps 66 = .ok (.invokevirtual 180, 3) := by decide +kernel
theorem dX5_changeMaps_69 : decode cX5_changeMaps 69 = .ok (.pop, 1) := by decide +kernel
theorem dX5_changeMaps_70 : decode cX5_changeMaps 70 = .ok (.iinc 3 1, 3) := by decide +kernel
theorem dX5_changeMaps_73 : decode cX5_changeMaps 73 = .ok (.goto (-33), 3) := by decide +kernel
theorem dX5_changeMaps_76 : decode cX5_changeMaps 76 = .ok (.return_, 1) := by decide +kernel
theorem dX2_linkAt_0 : decode cX2_linkAt 0 = .ok (.iload_n 1, 1) := by decide +kernel
theorem dX2_linkAt_1 : decode cX2_linkAt 1 = .ok (.ifCond .lt 16, 3) := by decide +kernel
theorem dX2_linkAt_4 : decode cX2_linkAt 4 = .ok (.iload_n 1, 1) := by decide +kernel
theorem dX2_linkAt_5 : decode cX2_linkAt 5 = .ok (.aload_n 0, 1) := by decide +kernel
theorem dX2_linkAt_6 : decode cX2_linkAt 6 = .ok (.getfield 45, 3) := by decide +kernel
theorem dX2_linkAt_9 : decode cX2_linkAt 9 = .ok (.if_icmp .ge 8, 3) := by decide +kernel
theorem dX2_linkAt_12 : decode cX2_linkAt 12 = .ok (.iload_n 1, 1) := by decide +kernel
theorem dX2_linkAt_13 : decode cX2_linkAt 13 = .ok (.iconst 4, 1) := by decide +kernel
theorem dX2_linkAt_14 : decode cX2_linkAt 14 = .ok (.if_icmp .lt 7, 3) := by decide +kernel
theorem dX2_linkAt_17 : decode cX2_linkAt 17 = .ok (.aconst_null, 1) := by decide +kernel
theorem dX2_linkAt_18 : decode cX2_linkAt 18 = .ok (.goto 9, 3) := by decide +kernel
theorem dX2_linkAt_21 : decode cX2_linkAt 21 = .ok (.aload_n 0, 1) := by decide +kernel
theorem dX2_linkAt_22 : decode cX2_linkAt 22 = .ok (.getfield 30, 3) := by decide +kernel
theorem dX2_linkAt_25 : decode cX2_linkAt 25 = .ok (.iload_n 1, 1) := by decide +kernel
theorem dX2_linkAt_26 : decode cX2_linkAt 26 = .ok (.aaload, 1) := by decide +kernel
theorem dX2_linkAt_27 : decode cX2_linkAt 27 = .ok (.areturn, 1) := by decide +kernel
theorem dX5_beginTurnOfLinks_0 : decode cX5_beginTurnOfLinks 0 = .ok (.iconst 0, 1) := by decide +kernel
theorem dX5_beginTurnOfLinks_1 : decode cX5_beginTurnOfLinks 1 = .ok (.istore_n 2, 1) := by decide +kernel
theorem dX5_beginTurnOfLinks_2 : decode cX5_beginTurnOfLinks 2 = .ok (.iload_n 2, 1) := by decide +kernel
theorem dX5_beginTurnOfLinks_3 : decode cX5_beginTurnOfLinks 3 = .ok (.aload_n 0, 1) := by decide +kernel
theorem dX5_beginTurnOfLinks_4 : decode cX5_beginTurnOfLinks 4 = .ok (.getfield 23, 3) := by decide +kernel
theorem dX5_beginTurnOfLinks_7 : decode cX5_beginTurnOfLinks 7 = .ok (.iload_n 1, 1) := by decide +kernel
theorem dX5_beginTurnOfLinks_8 : decode cX5_beginTurnOfLinks 8 = .ok (.aaload, 1) := by decide +kernel
theorem dX5_beginTurnOfLinks_9 : decode cX5_beginTurnOfLinks 9 = .ok (.getfield 121, 3) := by decide +kernel
theorem dX5_beginTurnOfLinks_12 : decode cX5_beginTurnOfLinks 12 = .ok (.if_icmp .ge 68, 3) := by decide +kernel
theorem dX5_beginTurnOfLinks_15 : decode cX5_beginTurnOfLinks 15 = .ok (.iload_n 2, 1) := by decide +kernel
theorem dX5_beginTurnOfLinks_16 : decode cX5_beginTurnOfLinks 16 = .ok (.iconst 4, 1) := by decide +kernel
theorem dX5_beginTurnOfLinks_17 : decode cX5_beginTurnOfLinks 17 = .ok (.if_icmp .ge 63, 3) := by decide +kernel
theorem dX5_beginTurnOfLinks_20 : decode cX5_beginTurnOfLinks 20 = .ok (.aload_n 0, 1) := by decide +kernel
theorem dX5_beginTurnOfLinks_21 : decode cX5_beginTurnOfLinks 21 = .ok (.getfield 23, 3) := by decide +kernel
theorem dX5_beginTurnOfLinks_24 : decode cX5_beginTurnOfLinks 24 = .ok (.iload_n 1, 1) := by decide +kernel
theorem dX5_beginTurnOfLinks_25 : decode cX5_beginTurnOfLinks 25 = .ok (.aaload, 1) := by decide +kernel
theorem dX5_beginTurnOfLinks_26 : decode cX5_beginTurnOfLinks 26 = .ok (.getfield 124, 3) := by decide +kernel
theorem dX5_beginTurnOfLinks_29 : decode cX5_beginTurnOfLinks 29 = .ok (.iload_n 2, 1) := by decide +kernel
theorem dX5_beginTurnOfLinks_30 : decode cX5_beginTurnOfLinks 30 = .ok (.aaload, 1) := by decide +kernel
theorem dX5_beginTurnOfLinks_31 : decode cX5_beginTurnOfLinks 31 = .ok (.astore_n 3, 1) := by decide +kernel
theorem dX5_beginTurnOfLinks_32 : decode cX5_beginTurnOfLinks 32 = .ok (.aload_n 3, 1) := by decide +kernel
theorem dX5_beginTurnOfLinks_33 : decode cX5_beginTurnOfLinks 33 = .ok (.getfield 128, 3) := by decide +kernel
theorem dX5_beginTurnOfLinks_36 : decode cX5_beginTurnOfLinks 36 = .ok (.aload_n 0, 1) := by decide +kernel
theorem dX5_beginTurnOfLinks_37 : decode cX5_beginTurnOfLinks 37 = .ok (.getfield 31, 3) := by decide +kernel
theorem dX5_beginTurnOfLinks_40 : decode cX5_beginTurnOfLinks 40 = .ok (.invokevirtual 186, 3) := by decide +kernel
theorem dX5_beginTurnOfLinks_43 : decode cX5_beginTurnOfLinks 43 = .ok (.aload_n 3, 1) := by decide +kernel
theorem dX5_beginTurnOfLinks_44 : decode cX5_beginTurnOfLinks 44 = .ok (.aload_n 0, 1) := by decide +kernel
theorem dX5_beginTurnOfLinks_45 : decode cX5_beginTurnOfLinks 45 = .ok (.iload_n 1, 1) := by decide +kernel
theorem dX5_beginTurnOfLinks_46 : decode cX5_beginTurnOfLinks 46 = .ok (.aload_n 3, 1) := by decide +kernel
theorem dX5_beginTurnOfLinks_47 : decode cX5_beginTurnOfLinks 47 = .ok (.aload_n 0, 1) := by decide +kernel
theorem dX5_beginTurnOfLinks_48 : decode cX5_beginTurnOfLinks 48 = .ok (.getfield 31, 3) := by decide +kernel
theorem dX5_beginTurnOfLinks_51 : decode cX5_beginTurnOfLinks 51 = .ok (.invokevirtual 189, 3) := by decide +kernel
theorem dX5_beginTurnOfLinks_54 : decode cX5_beginTurnOfLinks 54 = .ok (.putfield 193, 3) := by decide +kernel
theorem dX5_beginTurnOfLinks_57 : decode cX5_beginTurnOfLinks 57 = .ok (.aload_n 3, 1) := by decide +kernel
theorem dX5_beginTurnOfLinks_58 : decode cX5_beginTurnOfLinks 58 = .ok (.getfield 193, 3) := by decide +kernel
theorem dX5_beginTurnOfLinks_61 : decode cX5_beginTurnOfLinks 61 = .ok (.ifCond .eq 13, 3) := by decide +kernel
theorem dX5_beginTurnOfLinks_64 : decode cX5_beginTurnOfLinks 64 = .ok (.aload_n 3, 1) := by decide +kernel
theorem dX5_beginTurnOfLinks_65 : decode cX5_beginTurnOfLinks 65 = .ok (.dup, 1) := by decide +kernel
theorem dX5_beginTurnOfLinks_66 : decode cX5_beginTurnOfLinks 66 = .ok (.getfield 197, 3) := by decide +kernel
theorem dX5_beginTurnOfLinks_69 : decode cX5_beginTurnOfLinks 69 = .ok (.iconst 1, 1) := by decide +kernel
theorem dX5_beginTurnOfLinks_70 : decode cX5_beginTurnOfLinks 70 = .ok (.iadd, 1) := by decide +kernel
theorem dX5_beginTurnOfLinks_71 : decode cX5_beginTurnOfLinks 71 = .ok (.putfield 197, 3) := by decide +kernel
theorem dX5_beginTurnOfLinks_74 : decode cX5_beginTurnOfLinks 74 = .ok (.iinc 2 1, 3) := by decide +kernel
theorem dX5_beginTurnOfLinks_77 : decode cX5_beginTurnOfLinks 77 = .ok (.goto (-75), 3) := by decide +kernel
theorem dX5_beginTurnOfLinks_80 : decode cX5_beginTurnOfLinks 80 = .ok (.return_, 1) := by decide +kernel
theorem dX5_chooseIn_0 : decode cX5_chooseIn 0 = .ok (.aload_n 0, 1) := by decide +kernel
theorem dX5_chooseIn_1 : decode cX5_chooseIn 1 = .ok (.getfield 23, 3) := by decide +kernel
theorem dX5_chooseIn_4 : decode cX5_chooseIn 4 = .ok (.iload_n 1, 1) := by decide +kernel
theorem dX5_chooseIn_5 : decode cX5_chooseIn 5 = .ok (.aaload, 1) := by decide +kernel
theorem dX5_chooseIn_6 : decode cX5_chooseIn 6 = .ok (.astore_n 2, 1) := by decide +kernel
theorem dX5_chooseIn_7 : decode cX5_chooseIn 7 = .ok (.aload_n 2, 1) := by decide +kernel
theorem dX5_chooseIn_8 : decode cX5_chooseIn 8 = .ok (.iconst (-1), 1) := by decide +kernel
theorem dX5_chooseIn_9 : decode cX5_chooseIn 9 = .ok (.putfield 203, 3) := by decide +kernel
theorem dX5_chooseIn_12 : decode cX5_chooseIn 12 = .ok (.aload_n 2, 1) := by decide +kernel
theorem dX5_chooseIn_13 : decode cX5_chooseIn 13 = .ok (.iconst 0, 1) := by decide +kernel
theorem dX5_chooseIn_14 : decode cX5_chooseIn 14 = .ok (.putfield 206, 3) := by decide +kernel
theorem dX5_chooseIn_17 : decode cX5_chooseIn 17 = .ok (.aload_n 2, 1) := by decide +kernel
theorem dX5_chooseIn_18 : decode cX5_chooseIn 18 = .ok (.getfield 57, 3) := by decide +kernel
theorem dX5_chooseIn_21 : decode cX5_chooseIn 21 = .ok (.iconst (-1), 1) := by decide +kernel
theorem dX5_chooseIn_22 : decode cX5_chooseIn 22 = .ok (.if_icmp .eq 19, 3) := by decide +kernel
theorem dX5_chooseIn_25 : decode cX5_chooseIn 25 = .ok (.aload_n 0, 1) := by decide +kernel
theorem dX5_chooseIn_26 : decode cX5_chooseIn 26 = .ok (.aload_n 2, 1) := by decide +kernel
theorem dX5_chooseIn_27 : decode cX5_chooseIn 27 = .ok (.getfield 57, 3) := by decide +kernel
theorem dX5_chooseIn_30 : decode cX5_chooseIn 30 = .ok (.iload_n 1, 1) := by decide +kernel
theorem dX5_chooseIn_31 : decode cX5_chooseIn 31 = .ok (.aload_n 0, 1) := by decide +kernel
theorem dX5_chooseIn_32 : decode cX5_chooseIn 32 = .ok (.getfield 31, 3) := by decide +kernel
theorem dX5_chooseIn_35 : decode cX5_chooseIn 35 = .ok (.invokevirtual 77, 3) := by decide +kernel
theorem dX5_chooseIn_38 : decode cX5_chooseIn 38 = .ok (.ifCond .ne 4, 3) := by decide +kernel
theorem dX5_chooseIn_41 : decode cX5_chooseIn 41 = .ok (.return_, 1) := by decide +kernel
theorem dX5_chooseIn_42 : decode cX5_chooseIn 42 = .ok (.aload_n 2, 1) := by decide +kernel
theorem dX5_chooseIn_43 : decode cX5_chooseIn 43 = .ok (.aload_n 2, 1) := by decide +kernel
theorem dX5_chooseIn_44 : decode cX5_chooseIn 44 = .ok (.invokevirtual 209, 3) := by decide +kernel
theorem dX5_chooseIn_47 : decode cX5_chooseIn 47 = .ok (.putfield 203, 3) := by decide +kernel
theorem dX5_chooseIn_50 : decode cX5_chooseIn 50 = .ok (.aload_n 2, 1) := by decide +kernel
theorem dX5_chooseIn_51 : decode cX5_chooseIn 51 = .ok (.getfield 203, 3) := by decide +kernel
theorem dX5_chooseIn_54 : decode cX5_chooseIn 54 = .ok (.iconst (-1), 1) := by decide +kernel
theorem dX5_chooseIn_55 : decode cX5_chooseIn 55 = .ok (.if_icmp .ne 11, 3) := by decide +kernel
theorem dX5_chooseIn_58 : decode cX5_chooseIn 58 = .ok (.aload_n 2, 1) := by decide +kernel
theorem dX5_chooseIn_59 : decode cX5_chooseIn 59 = .ok (.aload_n 2, 1) := by decide +kernel
theorem dX5_chooseIn_60 : decode cX5_chooseIn 60 = .ok (.invokevirtual 213, 3) := by decide +kernel
theorem dX5_chooseIn_63 : decode cX5_chooseIn 63 = .ok (.putfield 203, 3) := by decide +kernel
theorem dX5_chooseIn_66 : decode cX5_chooseIn 66 = .ok (.aload_n 2, 1) := by decide +kernel
theorem dX5_chooseIn_67 : decode cX5_chooseIn 67 = .ok (.getfield 203, 3) := by decide +kernel
theorem dX5_chooseIn_70 : decode cX5_chooseIn 70 = .ok (.iconst (-1), 1) := by decide +kernel
theorem dX5_chooseIn_71 : decode cX5_chooseIn 71 = .ok (.if_icmp .ne 16, 3) := by decide +kernel
theorem dX5_chooseIn_74 : decode cX5_chooseIn 74 = .ok (.aload_n 2, 1) := by decide +kernel
theorem dX5_chooseIn_75 : decode cX5_chooseIn 75 = .ok (.getfield 216, 3) := by decide +kernel
theorem dX5_chooseIn_78 : decode cX5_chooseIn 78 = .ok (.ifCond .le 9, 3) := by decide +kernel
theorem dX5_chooseIn_81 : decode cX5_chooseIn 81 = .ok (.aload_n 2, 1) := by decide +kernel
theorem dX5_chooseIn_82 : decode cX5_chooseIn 82 = .ok (.iconst 1, 1) := by decide +kernel
theorem dX5_chooseIn_83 : decode cX5_chooseIn 83 = .ok (.putfield 206, 3) := by decide +kernel
theorem dX5_chooseIn_86 : decode cX5_chooseIn 86 = .ok (.return_, 1) := by decide +kernel
theorem dX5_chooseIn_87 : decode cX5_chooseIn 87 = .ok (.aload_n 2, 1) := by decide +kernel
theorem dX5_chooseIn_88 : decode cX5_chooseIn 88 = .ok (.getfield 203, 3) := by decide +kernel
theorem dX5_chooseIn_91 : decode cX5_chooseIn 91 = .ok (.iconst (-1), 1) := by decide +kernel
theorem dX5_chooseIn_92 : decode cX5_chooseIn 92 = .ok (.if_icmp .ne 11, 3) := by decide +kernel
theorem dX5_chooseIn_95 : decode cX5_chooseIn 95 = .ok (.aload_n 2, 1) := by decide +kernel
theorem dX5_chooseIn_96 : decode cX5_chooseIn 96 = .ok (.aload_n 2, 1) := by decide +kernel
theorem dX5_chooseIn_97 : decode cX5_chooseIn 97 = .ok (.invokevirtual 219, 3) := by decide +kernel
theorem dX5_chooseIn_100 : decode cX5_chooseIn 100 = .ok (.putfield 203, 3) := by decide +kernel
theorem dX5_chooseIn_103 : decode cX5_chooseIn 103 = .ok (.aload_n 2, 1) := by decide +kernel
theorem dX5_chooseIn_104 : decode cX5_chooseIn 104 = .ok (.aload_n 2, 1) := by decide +kernel
theorem dX5_chooseIn_105 : decode cX5_chooseIn 105 = .ok (.getfield 203, 3) := by decide +kernel
theorem dX5_chooseIn_108 : decode cX5_chooseIn 108 = .ok (.invokevirtual 64, 3) := by decide +kernel
theorem dX5_chooseIn_111 : decode cX5_chooseIn 111 = .ok (.astore_n 3, 1) := by decide +kernel
theorem dX5_chooseIn_112 : decode cX5_chooseIn 112 = .ok (.aload_n 3, 1) := by decide +kernel
theorem dX5_chooseIn_113 : decode cX5_chooseIn 113 = .ok (.ifnull 13, 3) := by decide +kernel
theorem dX5_chooseIn_116 : decode cX5_chooseIn 116 = .ok (.aload_n 3, 1) := by decide +kernel
theorem dX5_chooseIn_117 : decode cX5_chooseIn 117 = .ok (.dup, 1) := by decide +kernel
theorem dX5_chooseIn_118 : decode cX5_chooseIn 118 = .ok (.getfield 222, 3) := by decide +kernel
theorem dX5_chooseIn_121 : decode cX5_chooseIn 121 = .ok (.iconst 1, 1) := by decide +kernel
theorem dX5_chooseIn_122 : decode cX5_chooseIn 122 = .ok (.iadd, 1) := by decide +kernel
theorem dX5_chooseIn_123 : decode cX5_chooseIn 123 = .ok (.putfield 222, 3) := by decide +kernel
theorem dX5_chooseIn_126 : decode cX5_chooseIn 126 = .ok (.return_, 1) := by decide +kernel
theorem dX5_tunePacket_0 : decode cX5_tunePacket 0 = .ok (.aload_n 0, 1) := by decide +kernel
theorem dX5_tunePacket_1 : decode cX5_tunePacket 1 = .ok (.getfield 23, 3) := by decide +kernel
theorem dX5_tunePacket_4 : decode cX5_tunePacket 4 = .ok (.iload_n 1, 1) := by decide +kernel
theorem dX5_tunePacket_5 : decode cX5_tunePacket 5 = .ok (.aaload, 1) := by decide +kernel
theorem dX5_tunePacket_6 : decode cX5_tunePacket 6 = .ok (.astore_n 2, 1) := by decide +kernel
theorem dX5_tunePacket_7 : decode cX5_tunePacket 7 = .ok (.aload_n 2, 1) := by decide +kernel
theorem dX5_tunePacket_8 : decode cX5_tunePacket 8 = .ok (.aload_n 2, 1) := by decide +kernel
theorem dX5_tunePacket_9 : decode cX5_tunePacket 9 = .ok (.getfield 203, 3) := by decide +kernel
theorem dX5_tunePacket_12 : decode cX5_tunePacket 12 = .ok (.invokevirtual 64, 3) := by decide +kernel
theorem dX5_tunePacket_15 : decode cX5_tunePacket 15 = .ok (.astore_n 3, 1) := by decide +kernel
theorem dX5_tunePacket_16 : decode cX5_tunePacket 16 = .ok (.aload_n 2, 1) := by decide +kernel
theorem dX5_tunePacket_17 : decode cX5_tunePacket 17 = .ok (.iconst 0, 1) := by decide +kernel
theorem dX5_tunePacket_18 : decode cX5_tunePacket 18 = .ok (.putfield 232, 3) := by decide +kernel
theorem dX5_tunePacket_21 : decode cX5_tunePacket 21 = .ok (.aload_n 2, 1) := by decide +kernel
theorem dX5_tunePacket_22 : decode cX5_tunePacket 22 = .ok (.iconst (-1), 1) := by decide +kernel
theorem dX5_tunePacket_23 : decode cX5_tunePacket 23 = .ok (.putfield 226, 3) := by decide +kernel
theorem dX5_tunePacket_26 : decode cX5_tunePacket 26 = .ok (.aload_n 2, 1) := by decide +kernel
theorem dX5_tunePacket_27 : decode cX5_tunePacket 27 = .ok (.getfield 206, 3) := by decide +kernel
theorem dX5_tunePacket_30 : decode cX5_tunePacket 30 = .ok (.ifCond .ne 7, 3) := by decide +kernel
theorem dX5_tunePacket_33 : decode cX5_tunePacket 33 = .ok (.aload_n 3, 1) := by decide +kernel
theorem dX5_tunePacket_34 : decode cX5_tunePacket 34 = .ok (.ifnull 84, 3) := by decide +kernel
theorem dX5_tunePacket_37 : decode cX5_tunePacket 37 = .ok (.aload_n 3, 1) := by decide +kernel
theorem dX5_tunePacket_38 : decode cX5_tunePacket 38 = .ok (.ifnull 34, 3) := by decide +kernel
theorem dX5_tunePacket_41 : decode cX5_tunePacket 41 = .ok (.aload_n 3, 1) := by decide +kernel
theorem dX5_tunePacket_42 : decode cX5_tunePacket 42 = .ok (.getfield 235, 3) := by decide +kernel
theorem dX5_tunePacket_45 : decode cX5_tunePacket 45 = .ok (.ifCond .ne 27, 3) := by decide +kernel
theorem dX5_tunePacket_48 : decode cX5_tunePacket 48 = .ok (.aload_n 2, 1) := by decide +kernel
theorem dX5_tunePacket_49 : decode cX5_tunePacket 49 = .ok (.getfield 104, 3) := by decide +kernel
theorem dX5_tunePacket_52 : decode cX5_tunePacket 52 = .ok (.invokevirtual 238, 3) := by decide +kernel
theorem dX5_tunePacket_55 : decode cX5_tunePacket 55 = .ok (.ifCond .ne 17, 3) := by decide +kernel
theorem dX5_tunePacket_58 : decode cX5_tunePacket 58 = .ok (.aload_n 0, 1) := by decide +kernel
theorem dX5_tunePacket_59 : decode cX5_tunePacket 59 = .ok (.getfield 31, 3) := by decide +kernel
theorem dX5_tunePacket_62 : decode cX5_tunePacket 62 = .ok (.iconst 4, 1) := by decide +kernel
theorem dX5_tunePacket_63 : decode cX5_tunePacket 63 = .ok (.irem, 1) := by decide +kernel
theorem dX5_tunePacket_64 : decode cX5_tunePacket 64 = .ok (.iconst 2, 1) := by decide +kernel
theorem dX5_tunePacket_65 : decode cX5_tunePacket 65 = .ok (.if_icmp .ne 7, 3) := by decide +kernel
theorem dX5_tunePacket_68 : decode cX5_tunePacket 68 = .ok (.iconst 1, 1) := by decide +kernel
theorem dX5_tunePacket_69 : decode cX5_tunePacket 69 = .ok (.goto 4, 3) := by decide +kernel
theorem dX5_tunePacket_72 : decode cX5_tunePacket 72 = .ok (.iconst 0, 1) := by decide +kernel
theorem dX5_tunePacket_73 : decode cX5_tunePacket 73 = .ok (.istore 4, 2) := by decide +kernel
theorem dX5_tunePacket_75 : decode cX5_tunePacket 75 = .ok (.aload_n 2, 1) := by decide +kernel
theorem dX5_tunePacket_76 : decode cX5_tunePacket 76 = .ok (.aload_n 0, 1) := by decide +kernel
theorem dX5_tunePacket_77 : decode cX5_tunePacket 77 = .ok (.iload_n 1, 1) := by decide +kernel
theorem dX5_tunePacket_78 : decode cX5_tunePacket 78 = .ok (.aload_n 0, 1) := by decide +kernel
theorem dX5_tunePacket_79 : decode cX5_tunePacket 79 = .ok (.getfield 31, 3) := by decide +kernel
theorem dX5_tunePacket_82 : decode cX5_tunePacket 82 = .ok (.invokevirtual 98, 3) := by decide +kernel
theorem dX5_tunePacket_85 : decode cX5_tunePacket 85 = .ok (.putfield 242, 3) := by decide +kernel
theorem dX5_tunePacket_88 : decode cX5_tunePacket 88 = .ok (.aload_n 2, 1) := by decide +kernel
theorem dX5_tunePacket_89 : decode cX5_tunePacket 89 = .ok (.aload_n 2, 1) := by decide +kernel
theorem dX5_tunePacket_90 : decode cX5_tunePacket 90 = .ok (.getfield 242, 3) := by decide +kernel
theorem dX5_tunePacket_93 : decode cX5_tunePacket 93 = .ok (.iload 4, 2) := by decide +kernel
theorem dX5_tunePacket_95 : decode cX5_tunePacket 95 = .ok (.ifCond .eq 10, 3) := by decide +kernel
theorem dX5_tunePacket_98 : decode cX5_tunePacket 98 = .ok (.aload_n 2, 1) := by decide +kernel
theorem dX5_tunePacket_99 : decode cX5_tunePacket 99 = .ok (.getfield 183, 3) := by decide +kernel
theorem dX5_tunePacket_102 : decode cX5_tunePacket 102 = .ok (.goto 10, 3) := by decide +kernel
theorem dX5_tunePacket_105 : decode cX5_tunePacket 105 = .ok (.aload_n 2, 1) := by decide +kernel
theorem dX5_tunePacket_106 : decode cX5_tunePacket 106 = .ok (.getfield 104, 3) := by decide +kernel
theorem dX5_tunePacket_109 : decode cX5_tunePacket 109 = .ok (.getfield 108, 3) := by decide +kernel
theorem dX5_tunePacket_112 : decode cX5_tunePacket 112 = .ok (.invokestatic 101, 3) := by decide +kernel
theorem dX5_tunePacket_115 : decode cX5_tunePacket 115 = .ok (.putfield 226, 3) := by decide +kernel
theorem dX5_tunePacket_118 : decode cX5_tunePacket 118 = .ok (.aload_n 2, 1) := by decide +kernel
theorem dX5_tunePacket_119 : decode cX5_tunePacket 119 = .ok (.aload_n 2, 1) := by decide +kernel
theorem dX5_tunePacket_120 : decode cX5_tunePacket 120 = .ok (.getfield 226, 3) := by decide +kernel
theorem dX5_tunePacket_123 : decode cX5_tunePacket 123 = .ok (.putfield 245, 3) := by decide +kernel
theorem dX5_tunePacket_126 : decode cX5_tunePacket 126 = .ok (.return_, 1) := by decide +kernel
theorem dX5_sendPacket_0 : decode cX5_sendPacket 0 = .ok (.aload_n 0, 1) := by decide +kernel
theorem dX5_sendPacket_1 : decode cX5_sendPacket 1 = .ok (.getfield 23, 3) := by decide +kernel
theorem dX5_sendPacket_4 : decode cX5_sendPacket 4 = .ok (.iload_n 1, 1) := by decide +kernel
theorem dX5_sendPacket_5 : decode cX5_sendPacket 5 = .ok (.aaload, 1) := by decide +kernel
theorem dX5_sendPacket_6 : decode cX5_sendPacket 6 = .ok (.astore_n 2, 1) := by decide +kernel
theorem dX5_sendPacket_7 : decode cX5_sendPacket 7 = .ok (.aload_n 2, 1) := by decide +kernel
theorem dX5_sendPacket_8 : decode cX5_sendPacket 8 = .ok (.getfield 226, 3) := by decide +kernel
theorem dX5_sendPacket_11 : decode cX5_sendPacket 11 = .ok (.iconst (-1), 1) := by decide +kernel
theorem dX5_sendPacket_12 : decode cX5_sendPacket 12 = .ok (.if_icmp .ne 4, 3) := by decide +kernel
theorem dX5_sendPacket_15 : decode cX5_sendPacket 15 = .ok (.return_, 1) := by decide +kernel
theorem dX5_sendPacket_16 : decode cX5_sendPacket 16 = .ok (.aload_n 0, 1) := by decide +kernel
theorem dX5_sendPacket_17 : decode cX5_sendPacket 17 = .ok (.getfield 18, 3) := by decide +kernel
theorem dX5_sendPacket_20 : decode cX5_sendPacket 20 = .ok (.iconst 0, 1) := by decide +kernel
theorem dX5_sendPacket_21 : decode cX5_sendPacket 21 = .ok (.dup2, 1) := by decide +kernel
theorem dX5_sendPacket_22 : decode cX5_sendPacket 22 = .ok (.iaload, 1) := by decide +kernel
theorem dX5_sendPacket_23 : decode cX5_sendPacket 23 = .ok (.iconst 1, 1) := by decide +kernel
theorem dX5_sendPacket_24 : decode cX5_sendPacket 24 = .ok (.iadd, 1) := by decide +kernel
theorem dX5_sendPacket_25 : decode cX5_sendPacket 25 = .ok (.iastore, 1) := by decide +kernel
theorem dX5_sendPacket_26 : decode cX5_sendPacket 26 = .ok (.aload_n 0, 1) := by decide +kernel
theorem dX5_sendPacket_27 : decode cX5_sendPacket 27 = .ok (.iload_n 1, 1) := by decide +kernel
theorem dX5_sendPacket_28 : decode cX5_sendPacket 28 = .ok (.invokevirtual 248, 3) := by decide +kernel
theorem dX5_sendPacket_31 : decode cX5_sendPacket 31 = .ok (.istore_n 3, 1) := by decide +kernel
theorem dX5_sendPacket_32 : decode cX5_sendPacket 32 = .ok (.aload_n 2, 1) := by decide +kernel
theorem dX5_sendPacket_33 : decode cX5_sendPacket 33 = .ok (.aload_n 2, 1) := by decide +kernel
theorem dX5_sendPacket_34 : decode cX5_sendPacket 34 = .ok (.getfield 203, 3) := by decide +kernel
theorem dX5_sendPacket_37 : decode cX5_sendPacket 37 = .ok (.invokevirtual 64, 3) := by decide +kernel
theorem dX5_sendPacket_40 : decode cX5_sendPacket 40 = .ok (.astore 4, 2) := by decide +kernel
theorem dX5_sendPacket_42 : decode cX5_sendPacket 42 = .ok (.aload 4, 2) := by decide +kernel
theorem dX5_sendPacket_44 : decode cX5_sendPacket 44 = .ok (.ifnonnull 17, 3) := by decide +kernel
theorem dX5_sendPacket_47 : decode cX5_sendPacket 47 = .ok (.aload_n 0, 1) := by decide +kernel
theorem dX5_sendPacket_48 : decode cX5_sendPacket 48 = .ok (.getfield 18, 3) := by decide +kernel
theorem dX5_sendPacket_51 : decode cX5_sendPacket 51 = .ok (.bipush 7, 2) := by decide +kernel
theorem dX5_sendPacket_53 : decode cX5_sendPacket 53 = .ok (.dup2, 1) := by decide +kernel
theorem dX5_sendPacket_54 : decode cX5_sendPacket 54 = .ok (.iaload, 1) := by decide +kernel
theorem dX5_sendPacket_55 : decode cX5_sendPacket 55 = .ok (.iconst 1, 1) := by decide +kernel
theorem dX5_sendPacket_56 : decode cX5_sendPacket 56 = .ok (.iadd, 1) := by decide +kernel
theorem dX5_sendPacket_57 : decode cX5_sendPacket 57 = .ok (.iastore, 1) := by decide +kernel
theorem dX5_sendPacket_58 : decode cX5_sendPacket 58 = .ok (.goto 35, 3) := by decide +kernel
theorem dX5_sendPacket_61 : decode cX5_sendPacket 61 = .ok (.aload_n 2, 1) := by decide +kernel
theorem dX5_sendPacket_62 : decode cX5_sendPacket 62 = .ok (.invokevirtual 251, 3) := by decide +kernel
theorem dX5_sendPacket_65 : decode cX5_sendPacket 65 = .ok (.iload_n 3, 1) := by decide +kernel
theorem dX5_sendPacket_66 : decode cX5_sendPacket 66 = .ok (.ifCond .ne 27, 3) := by decide +kernel
theorem dX5_sendPacket_69 : decode cX5_sendPacket 69 = .ok (.aload_n 2, 1) := by decide +kernel
theorem dX5_sendPacket_70 : decode cX5_sendPacket 70 = .ok (.getfield 242, 3) := by decide +kernel
theorem dX5_sendPacket_73 : decode cX5_sendPacket 73 = .ok (.aload 4, 2) := by decide +kernel
theorem dX5_sendPacket_75 : decode cX5_sendPacket 75 = .ok (.getfield 117, 3) := by decide +kernel
theorem dX5_sendPacket_78 : decode cX5_sendPacket 78 = .ok (.getfield 108, 3) := by decide +kernel
theorem dX5_sendPacket_81 : decode cX5_sendPacket 81 = .ok (.invokestatic 101, 3) := by decide +kernel
theorem dX5_sendPacket_84 : decode cX5_sendPacket 84 = .ok (.aload_n 2, 1) := by decide +kernel
theorem dX5_sendPacket_85 : decode cX5_sendPacket 85 = .ok (.getfield 226, 3) := by decide +kernel
theorem dX5_sendPacket_88 : decode cX5_sendPacket 88 = .ok (.if_icmp .eq 5, 3) := by decide +kernel
theorem dX5_sendPacket_91 : decode cX5_sendPacket 91 = .ok (.iconst 3, 1) := by decide +kernel
theorem dX5_sendPacket_92 : decode cX5_sendPacket 92 = .ok (.istore_n 3, 1) := by decide +kernel
theorem dX5_sendPacket_93 : decode cX5_sendPacket 93 = .ok (.aload_n 2, 1) := by decide +kernel
theorem dX5_sendPacket_94 : decode cX5_sendPacket 94 = .ok (.iload_n 3, 1) := by decide +kernel
theorem dX5_sendPacket_95 : decode cX5_sendPacket 95 = .ok (.ifCond .ne 7, 3) := by decide +kernel
theorem dX5_sendPacket_98 : decode cX5_sendPacket 98 = .ok (.iconst 1, 1) := by decide +kernel
theorem dX5_sendPacket_99 : decode cX5_sendPacket 99 = .ok (.goto 4, 3) := by decide +kernel
theorem dX5_sendPacket_102 : decode cX5_sendPacket 102 = .ok (.iconst 0, 1) := by decide +kernel
theorem dX5_sendPacket_103 : decode cX5_sendPacket 103 = .ok (.putfield 232, 3) := by decide +kernel
theorem dX5_sendPacket_106 : decode cX5_sendPacket 106 = .ok (.iload_n 3, 1) := by decide +kernel
theorem dX5_sendPacket_107 : decode cX5_sendPacket 107 = .ok (.ifCond .eq 15, 3) := by decide +kernel
theorem dX5_sendPacket_110 : decode cX5_sendPacket 110 = .ok (.aload_n 0, 1) := by decide +kernel
theorem dX5_sendPacket_111 : decode cX5_sendPacket 111 = .ok (.getfield 18, 3) := by decide +kernel
theorem dX5_sendPacket_114 : decode cX5_sendPacket 114 = .ok (.iconst 1, 1) := by decide +kernel
theorem dX5_sendPacket_115 : decode cX5_sendPacket 115 = .ok (.iload_n 3, 1) := by decide +kernel
theorem dX5_sendPacket_116 : decode cX5_sendPacket 116 = .ok (.iadd, 1) := by decide +kernel
theorem dX5_sendPacket_117 : decode cX5_sendPacket 117 = .ok (.dup2, 1) := by decide +kernel
theorem dX5_sendPacket_118 : decode cX5_sendPacket 118 = .ok (.iaload, 1) := by decide +kernel
theorem dX5_sendPacket_119 : decode cX5_sendPacket 119 = .ok (.iconst 1, 1) := by decide +kernel
theorem dX5_sendPacket_120 : decode cX5_sendPacket 120 = .ok (.iadd, 1) := by decide +kernel
theorem dX5_sendPacket_121 : decode cX5_sendPacket 121 = .ok (.iastore, 1) := by decide +kernel
theorem dX5_sendPacket_122 : decode cX5_sendPacket 122 = .ok (.iload_n 3, 1) := by decide +kernel
theorem dX5_sendPacket_123 : decode cX5_sendPacket 123 = .ok (.ifCond .eq 17, 3) := by decide +kernel
theorem dX5_sendPacket_126 : decode cX5_sendPacket 126 = .ok (.aload 4, 2) := by decide +kernel
theorem dX5_sendPacket_128 : decode cX5_sendPacket 128 = .ok (.ifnull 12, 3) := by decide +kernel
theorem dX5_sendPacket_131 : decode cX5_sendPacket 131 = .ok (.aload 4, 2) := by decide +kernel
theorem dX5_sendPacket_133 : decode cX5_sendPacket 133 = .ok (.bipush 10, 2) := by decide +kernel
theorem dX5_sendPacket_135 : decode cX5_sendPacket 135 = .ok (.iload_n 3, 1) := by decide +kernel
theorem dX5_sendPacket_136 : decode cX5_sendPacket 136 = .ok (.iadd, 1) := by decide +kernel
theorem dX5_sendPacket_137 : decode cX5_sendPacket 137 = .ok (.putfield 254, 3) := by decide +kernel
theorem dX5_sendPacket_140 : decode cX5_sendPacket 140 = .ok (.return_, 1) := by decide +kernel
theorem dX5_hearPacket_0 : decode cX5_hearPacket 0 = .ok (.aload_n 0, 1) := by decide +kernel
theorem dX5_hearPacket_1 : decode cX5_hearPacket 1 = .ok (.getfield 23, 3) := by decide +kernel
theorem dX5_hearPacket_4 : decode cX5_hearPacket 4 = .ok (.iload_n 1, 1) := by decide +kernel
theorem dX5_hearPacket_5 : decode cX5_hearPacket 5 = .ok (.aaload, 1) := by decide +kernel
theorem dX5_hearPacket_6 : decode cX5_hearPacket 6 = .ok (.astore_n 2, 1) := by decide +kernel
theorem dX5_hearPacket_7 : decode cX5_hearPacket 7 = .ok (.aload_n 2, 1) := by decide +kernel
theorem dX5_hearPacket_8 : decode cX5_hearPacket 8 = .ok (.getfield 206, 3) := by decide +kernel
theorem dX5_hearPacket_11 : decode cX5_hearPacket 11 = .ok (.ifCond .eq 12, 3) := by decide +kernel
theorem dX5_hearPacket_14 : decode cX5_hearPacket 14 = .ok (.aload_n 2, 1) := by decide +kernel
theorem dX5_hearPacket_15 : decode cX5_hearPacket 15 = .ok (.aload_n 0, 1) := by decide +kernel
theorem dX5_hearPacket_16 : decode cX5_hearPacket 16 = .ok (.getfield 40, 3) := by decide +kernel
theorem dX5_hearPacket_19 : decode cX5_hearPacket 19 = .ok (.invokevirtual 257, 3) := by decide +kernel
theorem dX5_hearPacket_22 : decode cX5_hearPacket 22 = .ok (.return_, 1) := by decide +kernel
theorem dX5_hearPacket_23 : decode cX5_hearPacket 23 = .ok (.aload_n 2, 1) := by decide +kernel
theorem dX5_hearPacket_24 : decode cX5_hearPacket 24 = .ok (.aload_n 2, 1) := by decide +kernel
theorem dX5_hearPacket_25 : decode cX5_hearPacket 25 = .ok (.getfield 203, 3) := by decide +kernel
theorem dX5_hearPacket_28 : decode cX5_hearPacket 28 = .ok (.invokevirtual 64, 3) := by decide +kernel
theorem dX5_hearPacket_31 : decode cX5_hearPacket 31 = .ok (.astore_n 3, 1) := by decide +kernel
theorem dX5_hearPacket_32 : decode cX5_hearPacket 32 = .ok (.aload_n 3, 1) := by decide +kernel
theorem dX5_hearPacket_33 : decode cX5_hearPacket 33 = .ok (.ifnull 10, 3) := by decide +kernel
theorem dX5_hearPacket_36 : decode cX5_hearPacket 36 = .ok (.aload_n 2, 1) := by decide +kernel
theorem dX5_hearPacket_37 : decode cX5_hearPacket 37 = .ok (.getfield 232, 3) := by decide +kernel
theorem dX5_hearPacket_40 : decode cX5_hearPacket 40 = .ok (.ifCond .ne 4, 3) := by decide +kernel
theorem dX5_hearPacket_43 : decode cX5_hearPacket 43 = .ok (.return_, 1) := by decide +kernel
theorem dX5_hearPacket_44 : decode cX5_hearPacket 44 = .ok (.aload_n 3, 1) := by decide +kernel
theorem dX5_hearPacket_45 : decode cX5_hearPacket 45 = .ok (.getfield 260, 3) := by decide +kernel
theorem dX5_hearPacket_48 : decode cX5_hearPacket 48 = .ok (.ifCond .eq 19, 3) := by decide +kernel
theorem dX5_hearPacket_51 : decode cX5_hearPacket 51 = .ok (.aload_n 3, 1) := by decide +kernel
theorem dX5_hearPacket_52 : decode cX5_hearPacket 52 = .ok (.getfield 146, 3) := by decide +kernel
theorem dX5_hearPacket_55 : decode cX5_hearPacket 55 = .ok (.aload_n 0, 1) := by decide +kernel
theorem dX5_hearPacket_56 : decode cX5_hearPacket 56 = .ok (.getfield 31, 3) := by decide +kernel
theorem dX5_hearPacket_59 : decode cX5_hearPacket 59 = .ok (.invokevirtual 263, 3) := by decide +kernel
theorem dX5_hearPacket_62 : decode cX5_hearPacket 62 = .ok (.aload_n 3, 1) := by decide +kernel
theorem dX5_hearPacket_63 : decode cX5_hearPacket 63 = .ok (.iconst 0, 1) := by decide +kernel
theorem dX5_hearPacket_64 : decode cX5_hearPacket 64 = .ok (.putfield 260, 3) := by decide +kernel
theorem dX5_hearPacket_67 : decode cX5_hearPacket 67 = .ok (.aload_n 3, 1) := by decide +kernel
theorem dX5_hearPacket_68 : decode cX5_hearPacket 68 = .ok (.getfield 137, 3) := by decide +kernel
theorem dX5_hearPacket_71 : decode cX5_hearPacket 71 = .ok (.invokevirtual 266, 3) := by decide +kernel
theorem dX5_hearPacket_74 : decode cX5_hearPacket 74 = .ok (.ifCond .eq 19, 3) := by decide +kernel
theorem dX5_hearPacket_77 : decode cX5_hearPacket 77 = .ok (.aload_n 0, 1) := by decide +kernel
theorem dX5_hearPacket_78 : decode cX5_hearPacket 78 = .ok (.dup, 1) := by decide +kernel
theorem dX5_hearPacket_79 : decode cX5_hearPacket 79 = .ok (.getfield 43, 3) := by decide +kernel
theorem dX5_hearPacket_82 : decode cX5_hearPacket 82 = .ok (.iconst 1, 1) := by decide +kernel
theorem dX5_hearPacket_83 : decode cX5_hearPacket 83 = .ok (.iadd, 1) := by decide +kernel
theorem dX5_hearPacket_84 : decode cX5_hearPacket 84 = .ok (.putfield 43, 3) := by decide +kernel
theorem dX5_hearPacket_87 : decode cX5_hearPacket 87 = .ok (.aload_n 0, 1) := by decide +kernel
theorem dX5_hearPacket_88 : decode cX5_hearPacket 88 = .ok (.iload_n 1, 1) := by decide +kernel
theorem dX5_hearPacket_89 : decode cX5_hearPacket 89 = .ok (.aload_n 3, 1) := by decide +kernel
theorem dX5_hearPacket_90 : decode cX5_hearPacket 90 = .ok (.invokevirtual 269, 3) := by decide +kernel
theorem dX5_hearPacket_93 : decode cX5_hearPacket 93 = .ok (.aload_n 3, 1) := by decide +kernel
theorem dX5_hearPacket_94 : decode cX5_hearPacket 94 = .ok (.getfield 235, 3) := by decide +kernel
theorem dX5_hearPacket_97 : decode cX5_hearPacket 97 = .ok (.ifCond .ne 11, 3) := by decide +kernel
theorem dX5_hearPacket_100 : decode cX5_hearPacket 100 = .ok (.aload_n 3, 1) := by decide +kernel
theorem dX5_hearPacket_101 : decode cX5_hearPacket 101 = .ok (.aload_n 2, 1) := by decide +kernel
theorem dX5_hearPacket_102 : decode cX5_hearPacket 102 = .ok (.getfield 104, 3) := by decide +kernel
theorem dX5_hearPacket_105 : decode cX5_hearPacket 105 = .ok (.invokevirtual 273, 3) := by decide +kernel
theorem dX5_hearPacket_108 : decode cX5_hearPacket 108 = .ok (.return_, 1) := by decide +kernel
theorem dX5_tuneAnswer_0 : decode cX5_tuneAnswer 0 = .ok (.aload_n 0, 1) := by decide +kernel
theorem dX5_tuneAnswer_1 : decode cX5_tuneAnswer 1 = .ok (.getfield 23, 3) := by decide +kernel
theorem dX5_tuneAnswer_4 : decode cX5_tuneAnswer 4 = .ok (.iload_n 1, 1) := by decide +kernel
theorem dX5_tuneAnswer_5 : decode cX5_tuneAnswer 5 = .ok (.aaload, 1) := by decide +kernel
theorem dX5_tuneAnswer_6 : decode cX5_tuneAnswer 6 = .ok (.astore_n 2, 1) := by decide +kernel
theorem dX5_tuneAnswer_7 : decode cX5_tuneAnswer 7 = .ok (.aload_n 2, 1) := by decide +kernel
theorem dX5_tuneAnswer_8 : decode cX5_tuneAnswer 8 = .ok (.aload_n 2, 1) := by decide +kernel
theorem dX5_tuneAnswer_9 : decode cX5_tuneAnswer 9 = .ok (.getfield 203, 3) := by decide +kernel
theorem dX5_tuneAnswer_12 : decode cX5_tuneAnswer 12 = .ok (.invokevirtual 64, 3) := by decide +kernel
theorem dX5_tuneAnswer_15 : decode cX5_tuneAnswer 15 = .ok (.astore_n 3, 1) := by decide +kernel
theorem dX5_tuneAnswer_16 : decode cX5_tuneAnswer 16 = .ok (.aload_n 2, 1) := by decide +kernel
theorem dX5_tuneAnswer_17 : decode cX5_tuneAnswer 17 = .ok (.iconst (-1), 1) := by decide +kernel
theorem dX5_tuneAnswer_18 : decode cX5_tuneAnswer 18 = .ok (.putfield 226, 3) := by decide +kernel
theorem dX5_tuneAnswer_21 : decode cX5_tuneAnswer 21 = .ok (.aload_n 3, 1) := by decide +kernel
theorem dX5_tuneAnswer_22 : decode cX5_tuneAnswer 22 = .ok (.ifnull 43, 3) := by decide +kernel
theorem dX5_tuneAnswer_25 : decode cX5_tuneAnswer 25 = .ok (.aload_n 2, 1) := by decide +kernel
theorem dX5_tuneAnswer_26 : decode cX5_tuneAnswer 26 = .ok (.getfield 232, 3) := by decide +kernel
theorem dX5_tuneAnswer_29 : decode cX5_tuneAnswer 29 = .ok (.ifCond .eq 36, 3) := by decide +kernel
theorem dX5_tuneAnswer_32 : decode cX5_tuneAnswer 32 = .ok (.aload_n 2, 1) := by decide +kernel
theorem dX5_tuneAnswer_33 : decode cX5_tuneAnswer 33 = .ok (.aload_n 0, 1) := by decide +kernel
theorem dX5_tuneAnswer_34 : decode cX5_tuneAnswer 34 = .ok (.iload_n 1, 1) := by decide +kernel
theorem dX5_tuneAnswer_35 : decode cX5_tuneAnswer 35 = .ok (.aload_n 0, 1) := by decide +kernel
theorem dX5_tuneAnswer_36 : decode cX5_tuneAnswer 36 = .ok (.getfield 31, 3) := by decide +kernel
theorem dX5_tuneAnswer_39 : decode cX5_tuneAnswer 39 = .ok (.iconst 1, 1) := by decide +kernel
theorem dX5_tuneAnswer_40 : decode cX5_tuneAnswer 40 = .ok (.iadd, 1) := by decide +kernel
theorem dX5_tuneAnswer_41 : decode cX5_tuneAnswer 41 = .ok (.invokevirtual 98, 3) := by decide +kernel
theorem dX5_tuneAnswer_44 : decode cX5_tuneAnswer 44 = .ok (.putfield 242, 3) := by decide +kernel
theorem dX5_tuneAnswer_47 : decode cX5_tuneAnswer 47 = .ok (.aload_n 2, 1) := by decide +kernel
theorem dX5_tuneAnswer_48 : decode cX5_tuneAnswer 48 = .ok (.aload_n 2, 1) := by decide +kernel
theorem dX5_tuneAnswer_49 : decode cX5_tuneAnswer 49 = .ok (.getfield 242, 3) := by decide +kernel
theorem dX5_tuneAnswer_52 : decode cX5_tuneAnswer 52 = .ok (.aload_n 3, 1) := by decide +kernel
theorem dX5_tuneAnswer_53 : decode cX5_tuneAnswer 53 = .ok (.getfield 117, 3) := by decide +kernel
theorem dX5_tuneAnswer_56 : decode cX5_tuneAnswer 56 = .ok (.getfield 108, 3) := by decide +kernel
theorem dX5_tuneAnswer_59 : decode cX5_tuneAnswer 59 = .ok (.invokestatic 101, 3) := by decide +kernel
theorem dX5_tuneAnswer_62 : decode cX5_tuneAnswer 62 = .ok (.putfield 226, 3) := by decide +kernel
theorem dX5_tuneAnswer_65 : decode cX5_tuneAnswer 65 = .ok (.return_, 1) := by decide +kernel
theorem dX5_sendAnswer_0 : decode cX5_sendAnswer 0 = .ok (.aload_n 0, 1) := by decide +kernel
theorem dX5_sendAnswer_1 : decode cX5_sendAnswer 1 = .ok (.getfield 23, 3) := by decide +kernel
theorem dX5_sendAnswer_4 : decode cX5_sendAnswer 4 = .ok (.iload_n 1, 1) := by decide +kernel
theorem dX5_sendAnswer_5 : decode cX5_sendAnswer 5 = .ok (.aaload, 1) := by decide +kernel
theorem dX5_sendAnswer_6 : decode cX5_sendAnswer 6 = .ok (.astore_n 2, 1) := by decide +kernel
theorem dX5_sendAnswer_7 : decode cX5_sendAnswer 7 = .ok (.aload_n 2, 1) := by decide +kernel
theorem dX5_sendAnswer_8 : decode cX5_sendAnswer 8 = .ok (.aload_n 2, 1) := by decide +kernel
theorem dX5_sendAnswer_9 : decode cX5_sendAnswer 9 = .ok (.getfield 203, 3) := by decide +kernel
theorem dX5_sendAnswer_12 : decode cX5_sendAnswer 12 = .ok (.invokevirtual 64, 3) := by decide +kernel
theorem dX5_sendAnswer_15 : decode cX5_sendAnswer 15 = .ok (.astore_n 3, 1) := by decide +kernel
theorem dX5_sendAnswer_16 : decode cX5_sendAnswer 16 = .ok (.aload_n 3, 1) := by decide +kernel
theorem dX5_sendAnswer_17 : decode cX5_sendAnswer 17 = .ok (.ifnull 11, 3) := by decide +kernel
theorem dX5_sendAnswer_20 : decode cX5_sendAnswer 20 = .ok (.aload_n 2, 1) := by decide +kernel
theorem dX5_sendAnswer_21 : decode cX5_sendAnswer 21 = .ok (.getfield 226, 3) := by decide +kernel
theorem dX5_sendAnswer_24 : decode cX5_sendAnswer 24 = .ok (.iconst (-1), 1) := by decide +kernel
theorem dX5_sendAnswer_25 : decode cX5_sendAnswer 25 = .ok (.if_icmp .ne 4, 3) := by decide +kernel
theorem dX5_sendAnswer_28 : decode cX5_sendAnswer 28 = .ok (.return_, 1) := by decide +kernel
theorem dX5_sendAnswer_29 : decode cX5_sendAnswer 29 = .ok (.aload_n 0, 1) := by decide +kernel
theorem dX5_sendAnswer_30 : decode cX5_sendAnswer 30 = .ok (.getfield 18, 3) := by decide +kernel
theorem dX5_sendAnswer_33 : decode cX5_sendAnswer 33 = .ok (.iconst 1, 1) := by decide +kernel
theorem dX5_sendAnswer_34 : decode cX5_sendAnswer 34 = .ok (.dup2, 1) := by decide +kernel
theorem dX5_sendAnswer_35 : decode cX5_sendAnswer 35 = .ok (.iaload, 1) := by decide +kernel
theorem dX5_sendAnswer_36 : decode cX5_sendAnswer 36 = .ok (.iconst 1, 1) := by decide +kernel
theorem dX5_sendAnswer_37 : decode cX5_sendAnswer 37 = .ok (.iadd, 1) := by decide +kernel
theorem dX5_sendAnswer_38 : decode cX5_sendAnswer 38 = .ok (.iastore, 1) := by decide +kernel
theorem dX5_sendAnswer_39 : decode cX5_sendAnswer 39 = .ok (.aload_n 0, 1) := by decide +kernel
theorem dX5_sendAnswer_40 : decode cX5_sendAnswer 40 = .ok (.iload_n 1, 1) := by decide +kernel
theorem dX5_sendAnswer_41 : decode cX5_sendAnswer 41 = .ok (.invokevirtual 248, 3) := by decide +kernel
theorem dX5_sendAnswer_44 : decode cX5_sendAnswer 44 = .ok (.istore 4, 2) := by decide +kernel
theorem dX5_sendAnswer_46 : decode cX5_sendAnswer 46 = .ok (.iload 4, 2) := by decide +kernel
theorem dX5_sendAnswer_48 : decode cX5_sendAnswer 48 = .ok (.ifCond .ne 27, 3) := by decide +kernel
theorem dX5_sendAnswer_51 : decode cX5_sendAnswer 51 = .ok (.aload_n 2, 1) := by decide +kernel
theorem dX5_sendAnswer_52 : decode cX5_sendAnswer 52 = .ok (.getfield 242, 3) := by decide +kernel
theorem dX5_sendAnswer_55 : decode cX5_sendAnswer 55 = .ok (.aload_n 2, 1) := by decide +kernel
theorem dX5_sendAnswer_56 : decode cX5_sendAnswer 56 = .ok (.getfield 104, 3) := by decide +kernel
theorem dX5_sendAnswer_59 : decode cX5_sendAnswer 59 = .ok (.getfield 108, 3) := by decide +kernel
theorem dX5_sendAnswer_62 : decode cX5_sendAnswer 62 = .ok (.invokestatic 101, 3) := by decide +kernel
theorem dX5_sendAnswer_65 : decode cX5_sendAnswer 65 = .ok (.aload_n 2, 1) := by decide +kernel
theorem dX5_sendAnswer_66 : decode cX5_sendAnswer 66 = .ok (.getfield 226, 3) := by decide +kernel
theorem dX5_sendAnswer_69 : decode cX5_sendAnswer 69 = .ok (.if_icmp .eq 6, 3) := by decide +kernel
theorem dX5_sendAnswer_72 : decode cX5_sendAnswer 72 = .ok (.iconst 3, 1) := by decide +kernel
theorem dX5_sendAnswer_73 : decode cX5_sendAnswer 73 = .ok (.istore 4, 2) := by decide +kernel
theorem dX5_sendAnswer_75 : decode cX5_sendAnswer 75 = .ok (.iload 4, 2) := by decide +kernel
theorem dX5_sendAnswer_77 : decode cX5_sendAnswer 77 = .ok (.ifCond .ne 12, 3) := by decide +kernel
theorem dX5_sendAnswer_80 : decode cX5_sendAnswer 80 = .ok (.aload_n 0, 1) := by decide +kernel
theorem dX5_sendAnswer_81 : decode cX5_sendAnswer 81 = .ok (.aload_n 2, 1) := by decide +kernel
theorem dX5_sendAnswer_82 : decode cX5_sendAnswer 82 = .ok (.aload_n 3, 1) := by decide +kernel
theorem dX5_sendAnswer_83 : decode cX5_sendAnswer 83 = .ok (.invokevirtual 290, 3) := by decide +kernel
theorem dX5_sendAnswer_86 : decode cX5_sendAnswer 86 = .ok (.goto 25, 3) := by decide +kernel
theorem dX5_sendAnswer_89 : decode cX5_sendAnswer 89 = .ok (.aload_n 0, 1) := by decide +kernel
theorem dX5_sendAnswer_90 : decode cX5_sendAnswer 90 = .ok (.getfield 18, 3) := by decide +kernel
theorem dX5_sendAnswer_93 : decode cX5_sendAnswer 93 = .ok (.iconst 1, 1) := by decide +kernel
theorem dX5_sendAnswer_94 : decode cX5_sendAnswer 94 = .ok (.iload 4, 2) := by decide +kernel
theorem dX5_sendAnswer_96 : decode cX5_sendAnswer 96 = .ok (.iadd, 1) := by decide +kernel
theorem dX5_sendAnswer_97 : decode cX5_sendAnswer 97 = .ok (.dup2, 1) := by decide +kernel
theorem dX5_sendAnswer_98 : decode cX5_sendAnswer 98 = .ok (.iaload, 1) := by decide +kernel
theorem dX5_sendAnswer_99 : decode cX5_sendAnswer 99 = .ok (.iconst 1, 1) := by decide +kernel
theorem dX5_sendAnswer_100 : decode cX5_sendAnswer 100 = .ok (.iadd, 1) := by decide +kernel
theorem dX5_sendAnswer_101 : decode cX5_sendAnswer 101 = .ok (.iastore, 1) := by decide +kernel
theorem dX5_sendAnswer_102 : decode cX5_sendAnswer 102 = .ok (.aload_n 3, 1) := by decide +kernel
theorem dX5_sendAnswer_103 : decode cX5_sendAnswer 103 = .ok (.bipush 20, 2) := by decide +kernel
theorem dX5_sendAnswer_105 : decode cX5_sendAnswer 105 = .ok (.iload 4, 2) := by decide +kernel
theorem dX5_sendAnswer_107 : decode cX5_sendAnswer 107 = .ok (.iadd, 1) := by decide +kernel
theorem dX5_sendAnswer_108 : decode cX5_sendAnswer 108 = .ok (.putfield 254, 3) := by decide +kernel
theorem dX5_sendAnswer_111 : decode cX5_sendAnswer 111 = .ok (.return_, 1) := by decide +kernel
theorem dX5_endTurnOfLinks_0 : decode cX5_endTurnOfLinks 0 = .ok (.iconst 0, 1) := by decide +kernel
theorem dX5_endTurnOfLinks_1 : decode cX5_endTurnOfLinks 1 = .ok (.istore_n 2, 1) := by decide +kernel
theorem dX5_endTurnOfLinks_2 : decode cX5_endTurnOfLinks 2 = .ok (.iload_n 2, 1) := by decide +kernel
theorem dX5_endTurnOfLinks_3 : decode cX5_endTurnOfLinks 3 = .ok (.aload_n 1, 1) := by decide +kernel
theorem dX5_endTurnOfLinks_4 : decode cX5_endTurnOfLinks 4 = .ok (.getfield 121, 3) := by decide +kernel
theorem dX5_endTurnOfLinks_7 : decode cX5_endTurnOfLinks 7 = .ok (.if_icmp .ge 26, 3) := by decide +kernel
theorem dX5_endTurnOfLinks_10 : decode cX5_endTurnOfLinks 10 = .ok (.iload_n 2, 1) := by decide +kernel
theorem dX5_endTurnOfLinks_11 : decode cX5_endTurnOfLinks 11 = .ok (.iconst 4, 1) := by decide +kernel
theorem dX5_endTurnOfLinks_12 : decode cX5_endTurnOfLinks 12 = .ok (.if_icmp .ge 21, 3) := by decide +kernel
theorem dX5_endTurnOfLinks_15 : decode cX5_endTurnOfLinks 15 = .ok (.aload_n 1, 1) := by decide +kernel
theorem dX5_endTurnOfLinks_16 : decode cX5_endTurnOfLinks 16 = .ok (.getfield 124, 3) := by decide +kernel
theorem dX5_endTurnOfLinks_19 : decode cX5_endTurnOfLinks 19 = .ok (.iload_n 2, 1) := by decide +kernel
theorem dX5_endTurnOfLinks_20 : decode cX5_endTurnOfLinks 20 = .ok (.aaload, 1) := by decide +kernel
theorem dX5_endTurnOfLinks_21 : decode cX5_endTurnOfLinks 21 = .ok (.getfield 128, 3) := by decide +kernel
theorem dX5_endTurnOfLinks_24 : decode cX5_endTurnOfLinks 24 = .ok (.invokevirtual 200, 3) := by decide +kernel
theorem dX5_endTurnOfLinks_27 : decode cX5_endTurnOfLinks 27 = .ok (.iinc 2 1, 3) := by decide +kernel
theorem dX5_endTurnOfLinks_30 : decode cX5_endTurnOfLinks 30 = .ok (.goto (-28), 3) := by decide +kernel
theorem dX5_endTurnOfLinks_33 : decode cX5_endTurnOfLinks 33 = .ok (.return_, 1) := by decide +kernel
theorem dX5_goOneTurn_0 : decode cX5_goOneTurn 0 = .ok (.iconst 0, 1) := by decide +kernel
theorem dX5_goOneTurn_1 : decode cX5_goOneTurn 1 = .ok (.istore_n 1, 1) := by decide +kernel
theorem dX5_goOneTurn_2 : decode cX5_goOneTurn 2 = .ok (.iload_n 1, 1) := by decide +kernel
theorem dX5_goOneTurn_3 : decode cX5_goOneTurn 3 = .ok (.iconst 2, 1) := by decide +kernel
theorem dX5_goOneTurn_4 : decode cX5_goOneTurn 4 = .ok (.if_icmp .ge 24, 3) := by decide +kernel
theorem dX5_goOneTurn_7 : decode cX5_goOneTurn 7 = .ok (.aload_n 0, 1) := by decide +kernel
theorem dX5_goOneTurn_8 : decode cX5_goOneTurn 8 = .ok (.aload_n 0, 1) := by decide +kernel
theorem dX5_goOneTurn_9 : decode cX5_goOneTurn 9 = .ok (.getfield 23, 3) := by decide +kernel
theorem dX5_goOneTurn_12 : decode cX5_goOneTurn 12 = .ok (.iload_n 1, 1) := by decide +kernel
theorem dX5_goOneTurn_13 : decode cX5_goOneTurn 13 = .ok (.aaload, 1) := by decide +kernel
theorem dX5_goOneTurn_14 : decode cX5_goOneTurn 14 = .ok (.invokevirtual 152, 3) := by decide +kernel
theorem dX5_goOneTurn_17 : decode cX5_goOneTurn 17 = .ok (.aload_n 0, 1) := by decide +kernel
theorem dX5_goOneTurn_18 : decode cX5_goOneTurn 18 = .ok (.iload_n 1, 1) := by decide +kernel
theorem dX5_goOneTurn_19 : decode cX5_goOneTurn 19 = .ok (.invokevirtual 155, 3) := by decide +kernel
theorem dX5_goOneTurn_22 : decode cX5_goOneTurn 22 = .ok (.iinc 1 1, 3) := by decide +kernel
theorem dX5_goOneTurn_25 : decode cX5_goOneTurn 25 = .ok (.goto (-23), 3) := by decide +kernel
theorem dX5_goOneTurn_28 : decode cX5_goOneTurn 28 = .ok (.iconst 0, 1) := by decide +kernel
theorem dX5_goOneTurn_29 : decode cX5_goOneTurn 29 = .ok (.istore_n 1, 1) := by decide +kernel
theorem dX5_goOneTurn_30 : decode cX5_goOneTurn 30 = .ok (.iload_n 1, 1) := by decide +kernel
theorem dX5_goOneTurn_31 : decode cX5_goOneTurn 31 = .ok (.iconst 2, 1) := by decide +kernel
theorem dX5_goOneTurn_32 : decode cX5_goOneTurn 32 = .ok (.if_icmp .ge 19, 3) := by decide +kernel
theorem dX5_goOneTurn_35 : decode cX5_goOneTurn 35 = .ok (.aload_n 0, 1) := by decide +kernel
theorem dX5_goOneTurn_36 : decode cX5_goOneTurn 36 = .ok (.iload_n 1, 1) := by decide +kernel
theorem dX5_goOneTurn_37 : decode cX5_goOneTurn 37 = .ok (.invokevirtual 159, 3) := by decide +kernel
theorem dX5_goOneTurn_40 : decode cX5_goOneTurn 40 = .ok (.aload_n 0, 1) := by decide +kernel
theorem dX5_goOneTurn_41 : decode cX5_goOneTurn 41 = .ok (.iload_n 1, 1) := by decide +kernel
theorem dX5_goOneTurn_42 : decode cX5_goOneTurn 42 = .ok (.invokevirtual 162, 3) := by decide +kernel
theorem dX5_goOneTurn_45 : decode cX5_goOneTurn 45 = .ok (.iinc 1 1, 3) := by decide +kernel
theorem dX5_goOneTurn_48 : decode cX5_goOneTurn 48 = .ok (.goto (-18), 3) := by decide +kernel
theorem dX5_goOneTurn_51 : decode cX5_goOneTurn 51 = .ok (.iconst 0, 1) := by decide +kernel
theorem dX5_goOneTurn_52 : decode cX5_goOneTurn 52 = .ok (.istore_n 1, 1) := by decide +kernel
theorem dX5_goOneTurn_53 : decode cX5_goOneTurn 53 = .ok (.iload_n 1, 1) := by decide +kernel
theorem dX5_goOneTurn_54 : decode cX5_goOneTurn 54 = .ok (.iconst 2, 1) := by decide +kernel
theorem dX5_goOneTurn_55 : decode cX5_goOneTurn 55 = .ok (.if_icmp .ge 14, 3) := by decide +kernel
theorem dX5_goOneTurn_58 : decode cX5_goOneTurn 58 = .ok (.aload_n 0, 1) := by decide +kernel
theorem dX5_goOneTurn_59 : decode cX5_goOneTurn 59 = .ok (.iload_n 1, 1) := by decide +kernel
theorem dX5_goOneTurn_60 : decode cX5_goOneTurn 60 = .ok (.invokevirtual 165, 3) := by decide +kernel
theorem dX5_goOneTurn_63 : decode cX5_goOneTurn 63 = .ok (.iinc 1 1, 3) := by decide +kernel
theorem dX5_goOneTurn_66 : decode cX5_goOneTurn 66 = .ok (.goto (-13), 3) := by decide +kernel
theorem dX5_goOneTurn_69 : decode cX5_goOneTurn 69 = .ok (.iconst 0, 1) := by decide +kernel
theorem dX5_goOneTurn_70 : decode cX5_goOneTurn 70 = .ok (.istore_n 1, 1) := by decide +kernel
theorem dX5_goOneTurn_71 : decode cX5_goOneTurn 71 = .ok (.iload_n 1, 1) := by decide +kernel
theorem dX5_goOneTurn_72 : decode cX5_goOneTurn 72 = .ok (.iconst 2, 1) := by decide +kernel
theorem dX5_goOneTurn_73 : decode cX5_goOneTurn 73 = .ok (.if_icmp .ge 19, 3) := by decide +kernel
theorem dX5_goOneTurn_76 : decode cX5_goOneTurn 76 = .ok (.aload_n 0, 1) := by decide +kernel
theorem dX5_goOneTurn_77 : decode cX5_goOneTurn 77 = .ok (.iload_n 1, 1) := by decide +kernel
theorem dX5_goOneTurn_78 : decode cX5_goOneTurn 78 = .ok (.invokevirtual 168, 3) := by decide +kernel
theorem dX5_goOneTurn_81 : decode cX5_goOneTurn 81 = .ok (.aload_n 0, 1) := by decide +kernel
theorem dX5_goOneTurn_82 : decode cX5_goOneTurn 82 = .ok (.iload_n 1, 1) := by decide +kernel
theorem dX5_goOneTurn_83 : decode cX5_goOneTurn 83 = .ok (.invokevirtual 171, 3) := by decide +kernel
theorem dX5_goOneTurn_86 : decode cX5_goOneTurn 86 = .ok (.iinc 1 1, 3) := by decide +kernel
theorem dX5_goOneTurn_89 : decode cX5_goOneTurn 89 = .ok (.goto (-18), 3) := by decide +kernel
theorem dX5_goOneTurn_92 : decode cX5_goOneTurn 92 = .ok (.iconst 0, 1) := by decide +kernel
theorem dX5_goOneTurn_93 : decode cX5_goOneTurn 93 = .ok (.istore_n 1, 1) := by decide +kernel
theorem dX5_goOneTurn_94 : decode cX5_goOneTurn 94 = .ok (.iload_n 1, 1) := by decide +kernel
theorem dX5_goOneTurn_95 : decode cX5_goOneTurn 95 = .ok (.iconst 2, 1) := by decide +kernel
theorem dX5_goOneTurn_96 : decode cX5_goOneTurn 96 = .ok (.if_icmp .ge 14, 3) := by decide +kernel
theorem dX5_goOneTurn_99 : decode cX5_goOneTurn 99 = .ok (.aload_n 0, 1) := by decide +kernel
theorem dX5_goOneTurn_100 : decode cX5_goOneTurn 100 = .ok (.iload_n 1, 1) := by decide +kernel
theorem dX5_goOneTurn_101 : decode cX5_goOneTurn 101 = .ok (.invokevirtual 174, 3) := by decide +kernel
theorem dX5_goOneTurn_104 : decode cX5_goOneTurn 104 = .ok (.iinc 1 1, 3) := by decide +kernel
theorem dX5_goOneTurn_107 : decode cX5_goOneTurn 107 = .ok (.goto (-13), 3) := by decide +kernel
theorem dX5_goOneTurn_110 : decode cX5_goOneTurn 110 = .ok (.iconst 0, 1) := by decide +kernel
theorem dX5_goOneTurn_111 : decode cX5_goOneTurn 111 = .ok (.istore_n 1, 1) := by decide +kernel
theorem dX5_goOneTurn_112 : decode cX5_goOneTurn 112 = .ok (.iload_n 1, 1) := by decide +kernel
theorem dX5_goOneTurn_113 : decode cX5_goOneTurn 113 = .ok (.iconst 2, 1) := by decide +kernel
theorem dX5_goOneTurn_114 : decode cX5_goOneTurn 114 = .ok (.if_icmp .ge 19, 3) := by decide +kernel
theorem dX5_goOneTurn_117 : decode cX5_goOneTurn 117 = .ok (.aload_n 0, 1) := by decide +kernel
theorem dX5_goOneTurn_118 : decode cX5_goOneTurn 118 = .ok (.aload_n 0, 1) := by decide +kernel
theorem dX5_goOneTurn_119 : decode cX5_goOneTurn 119 = .ok (.getfield 23, 3) := by decide +kernel
theorem dX5_goOneTurn_122 : decode cX5_goOneTurn 122 = .ok (.iload_n 1, 1) := by decide +kernel
theorem dX5_goOneTurn_123 : decode cX5_goOneTurn 123 = .ok (.aaload, 1) := by decide +kernel
theorem dX5_goOneTurn_124 : decode cX5_goOneTurn 124 = .ok (.invokevirtual 177, 3) := by decide +kernel
theorem dX5_goOneTurn_127 : decode cX5_goOneTurn 127 = .ok (.iinc 1 1, 3) := by decide +kernel
theorem dX5_goOneTurn_130 : decode cX5_goOneTurn 130 = .ok (.goto (-18), 3) := by decide +kernel
theorem dX5_goOneTurn_133 : decode cX5_goOneTurn 133 = .ok (.aload_n 0, 1) := by decide +kernel
theorem dX5_goOneTurn_134 : decode cX5_goOneTurn 134 = .ok (.dup, 1) := by decide +kernel
theorem dX5_goOneTurn_135 : decode cX5_goOneTurn 135 = .ok (.getfield 31, 3) := by decide +kernel
theorem dX5_goOneTurn_138 : decode cX5_goOneTurn 138 = .ok (.iconst 2, 1) := by decide +kernel
theorem dX5_goOneTurn_139 : decode cX5_goOneTurn 139 = .ok (.iadd, 1) := by decide +kernel
theorem dX5_goOneTurn_140 : decode cX5_goOneTurn 140 = .ok (.putfield 31, 3) := by decide +kernel
theorem dX5_goOneTurn_143 : decode cX5_goOneTurn 143 = .ok (.return_, 1) := by decide +kernel
theorem dX5_heardInTurns_0 : decode cX5_heardInTurns 0 = .ok (.aload_n 0, 1) := by decide +kernel
theorem dX5_heardInTurns_1 : decode cX5_heardInTurns 1 = .ok (.iconst 0, 1) := by decide +kernel
theorem dX5_heardInTurns_2 : decode cX5_heardInTurns 2 = .ok (.putfield 43, 3) := by decide +kernel
theorem dX5_heardInTurns_5 : decode cX5_heardInTurns 5 = .ok (.iconst 0, 1) := by decide +kernel
theorem dX5_heardInTurns_6 : decode cX5_heardInTurns 6 = .ok (.istore_n 2, 1) := by decide +kernel
theorem dX5_heardInTurns_7 : decode cX5_heardInTurns 7 = .ok (.iload_n 2, 1) := by decide +kernel
theorem dX5_heardInTurns_8 : decode cX5_heardInTurns 8 = .ok (.iload_n 1, 1) := by decide +kernel
theorem dX5_heardInTurns_9 : decode cX5_heardInTurns 9 = .ok (.if_icmp .ge 13, 3) := by decide +kernel
theorem dX5_heardInTurns_12 : decode cX5_heardInTurns 12 = .ok (.aload_n 0, 1) := by decide +kernel
theorem dX5_heardInTurns_13 : decode cX5_heardInTurns 13 = .ok (.invokevirtual 149, 3) := by decide +kernel
theorem dX5_heardInTurns_16 : decode cX5_heardInTurns 16 = .ok (.iinc 2 1, 3) := by decide +kernel
theorem dX5_heardInTurns_19 : decode cX5_heardInTurns 19 = .ok (.goto (-12), 3) := by decide +kernel
theorem dX5_heardInTurns_22 : decode cX5_heardInTurns 22 = .ok (.aload_n 0, 1) := by decide +kernel
theorem dX5_heardInTurns_23 : decode cX5_heardInTurns 23 = .ok (.getfield 43, 3) := by decide +kernel
theorem dX5_heardInTurns_26 : decode cX5_heardInTurns 26 = .ok (.ireturn, 1) := by decide +kernel
theorem dX5_framesMissed_0 : decode cX5_framesMissed 0 = .ok (.iconst 0, 1) := by decide +kernel
theorem dX5_framesMissed_1 : decode cX5_framesMissed 1 = .ok (.istore_n 1, 1) := by decide +kernel
theorem dX5_framesMissed_2 : decode cX5_framesMissed 2 = .ok (.iconst 0, 1) := by decide +kernel
theorem dX5_framesMissed_3 : decode cX5_framesMissed 3 = .ok (.istore_n 2, 1) := by decide +kernel
theorem dX5_framesMissed_4 : decode cX5_framesMissed 4 = .ok (.iload_n 2, 1) := by decide +kernel
theorem dX5_framesMissed_5 : decode cX5_framesMissed 5 = .ok (.iconst 2, 1) := by decide +kernel
theorem dX5_framesMissed_6 : decode cX5_framesMissed 6 = .ok (.if_icmp .ge 55, 3) := by decide +kernel
theorem dX5_framesMissed_9 : decode cX5_framesMissed 9 = .ok (.iconst 0, 1) := by decide +kernel
theorem dX5_framesMissed_10 : decode cX5_framesMissed 10 = .ok (.istore_n 3, 1) := by decide +kernel
theorem dX5_framesMissed_11 : decode cX5_framesMissed 11 = .ok (.iload_n 3, 1) := by decide +kernel
theorem dX5_framesMissed_12 : decode cX5_framesMissed 12 = .ok (.aload_n 0, 1) := by decide +kernel
theorem dX5_framesMissed_13 : decode cX5_framesMissed 13 = .ok (.getfield 23, 3) := by decide +kernel
theorem dX5_framesMissed_16 : decode cX5_framesMissed 16 = .ok (.iload_n 2, 1) := by decide +kernel
theorem dX5_framesMissed_17 : decode cX5_framesMissed 17 = .ok (.aaload, 1) := by decide +kernel
theorem dX5_framesMissed_18 : decode cX5_framesMissed 18 = .ok (.getfield 121, 3) := by decide +kernel
theorem dX5_framesMissed_21 : decode cX5_framesMissed 21 = .ok (.if_icmp .ge 34, 3) := by decide +kernel
theorem dX5_framesMissed_24 : decode cX5_framesMissed 24 = .ok (.iload_n 3, 1) := by decide +kernel
theorem dX5_framesMissed_25 : decode cX5_framesMissed 25 = .ok (.iconst 4, 1) := by decide +kernel
theorem dX5_framesMissed_26 : decode cX5_framesMissed 26 = .ok (.if_icmp .ge 29, 3) := by decide +kernel
theorem dX5_framesMissed_29 : decode cX5_framesMissed 29 = .ok (.iload_n 1, 1) := by decide +kernel
theorem dX5_framesMissed_30 : decode cX5_framesMissed 30 = .ok (.aload_n 0, 1) := by decide +kernel
theorem dX5_framesMissed_31 : decode cX5_framesMissed 31 = .ok (.getfield 23, 3) := by decide +kernel
theorem dX5_framesMissed_34 : decode cX5_framesMissed 34 = .ok (.iload_n 2, 1) := by decide +kernel
theorem dX5_framesMissed_35 : decode cX5_framesMissed 35 = .ok (.aaload, 1) := by decide +kernel
theorem dX5_framesMissed_36 : decode cX5_framesMissed 36 = .ok (.getfield 124, 3) := by decide +kernel
theorem dX5_framesMissed_39 : decode cX5_framesMissed 39 = .ok (.iload_n 3, 1) := by decide +kernel
theorem dX5_framesMissed_40 : decode cX5_framesMissed 40 = .ok (.aaload, 1) := by decide +kernel
theorem dX5_framesMissed_41 : decode cX5_framesMissed 41 = .ok (.getfield 128, 3) := by decide +kernel
theorem dX5_framesMissed_44 : decode cX5_framesMissed 44 = .ok (.getfield 132, 3) := by decide +kernel
theorem dX5_framesMissed_47 : decode cX5_framesMissed 47 = .ok (.iadd, 1) := by decide +kernel
theorem dX5_framesMissed_48 : decode cX5_framesMissed 48 = .ok (.istore_n 1, 1) := by decide +kernel
theorem dX5_framesMissed_49 : decode cX5_framesMissed 49 = .ok (.iinc 3 1, 3) := by decide +kernel
theorem dX5_framesMissed_52 : decode cX5_framesMissed 52 = .ok (.goto (-41), 3) := by decide +kernel
theorem dX5_framesMissed_55 : decode cX5_framesMissed 55 = .ok (.iinc 2 1, 3) := by decide +kernel
theorem dX5_framesMissed_58 : decode cX5_framesMissed 58 = .ok (.goto (-54), 3) := by decide +kernel
theorem dX5_framesMissed_61 : decode cX5_framesMissed 61 = .ok (.iload_n 1, 1) := by decide +kernel
theorem dX5_framesMissed_62 : decode cX5_framesMissed 62 = .ok (.ireturn, 1) := by decide +kernel
theorem dX5_linksOfOtherMap_0 : decode cX5_linksOfOtherMap 0 = .ok (.iconst 0, 1) := by decide +kernel
theorem dX5_linksOfOtherMap_1 : decode cX5_linksOfOtherMap 1 = .ok (.istore_n 1, 1) := by decide +kernel
theorem dX5_linksOfOtherMap_2 : decode cX5_linksOfOtherMap 2 = .ok (.iconst 0, 1) := by decide +kernel
theorem dX5_linksOfOtherMap_3 : decode cX5_linksOfOtherMap 3 = .ok (.istore_n 2, 1) := by decide +kernel
theorem dX5_linksOfOtherMap_4 : decode cX5_linksOfOtherMap 4 = .ok (.iload_n 2, 1) := by decide +kernel
theorem dX5_linksOfOtherMap_5 : decode cX5_linksOfOtherMap 5 = .ok (.iconst 2, 1) := by decide +kernel
theorem dX5_linksOfOtherMap_6 : decode cX5_linksOfOtherMap 6 = .ok (.if_icmp .ge 70, 3) := by decide +kernel
theorem dX5_linksOfOtherMap_9 : decode cX5_linksOfOtherMap 9 = .ok (.iconst 0, 1) := by decide +kernel
theorem dX5_linksOfOtherMap_10 : decode cX5_linksOfOtherMap 10 = .ok (.istore_n 3, 1) := by decide +kernel
theorem dX5_linksOfOtherMap_11 : decode cX5_linksOfOtherMap 11 = .ok (.iload_n 3, 1) := by decide +kernel
theorem dX5_linksOfOtherMap_12 : decode cX5_linksOfOtherMap 12 = .ok (.aload_n 0, 1) := by decide +kernel
theorem dX5_linksOfOtherMap_13 : decode cX5_linksOfOtherMap 13 = .ok (.getfield 23, 3) := by decide +kernel
theorem dX5_linksOfOtherMap_16 : decode cX5_linksOfOtherMap 16 = .ok (.iload_n 2, 1) := by decide +kernel
theorem dX5_linksOfOtherMap_17 : decode cX5_linksOfOtherMap 17 = .ok (.aaload, 1) := by decide +kernel
theorem dX5_linksOfOtherMap_18 : decode cX5_linksOfOtherMap 18 = .ok (.getfield 121, 3) := by decide +kernel
theorem dX5_linksOfOtherMap_21 : decode cX5_linksOfOtherMap 21 = .ok (.if_icmp .ge 49, 3) := by decide +kernel
theorem dX5_linksOfOtherMap_24 : decode cX5_linksOfOtherMap 24 = .ok (.iload_n 3, 1) := by decide +kernel
theorem dX5_linksOfOtherMap_25 : decode cX5_linksOfOtherMap 25 = .ok (.iconst 4, 1) := by decide +kernel
theorem dX5_linksOfOtherMap_26 : decode cX5_linksOfOtherMap 26 = .ok (.if_icmp .ge 44, 3) := by decide +kernel
theorem dX5_linksOfOtherMap_29 : decode cX5_linksOfOtherMap 29 = .ok (.aload_n 0, 1) := by decide +kernel
theorem dX5_linksOfOtherMap_30 : decode cX5_linksOfOtherMap 30 = .ok (.getfield 23, 3) := by decide +kernel
theorem dX5_linksOfOtherMap_33 : decode cX5_linksOfOtherMap 33 = .ok (.iload_n 2, 1) := by decide +kernel
theorem dX5_linksOfOtherMap_34 : decode cX5_linksOfOtherMap 34 = .ok (.aaload, 1) := by decide +kernel
theorem dX5_linksOfOtherMap_35 : decode cX5_linksOfOtherMap 35 = .ok (.getfield 124, 3) := by decide +kernel
theorem dX5_linksOfOtherMap_38 : decode cX5_linksOfOtherMap 38 = .ok (.iload_n 3, 1) := by decide +kernel
theorem dX5_linksOfOtherMap_39 : decode cX5_linksOfOtherMap 39 = .ok (.aaload, 1) := by decide +kernel
theorem dX5_linksOfOtherMap_40 : decode cX5_linksOfOtherMap 40 = .ok (.getfield 117, 3) := by decide +kernel
theorem dX5_linksOfOtherMap_43 : decode cX5_linksOfOtherMap 43 = .ok (.getfield 108, 3) := by decide +kernel
theorem dX5_linksOfOtherMap_46 : decode cX5_linksOfOtherMap 46 = .ok (.aload_n 0, 1) := by decide +kernel
theorem dX5_linksOfOtherMap_47 : decode cX5_linksOfOtherMap 47 = .ok (.getfield 23, 3) := by decide +kernel
theorem dX5_linksOfOtherMap_50 : decode cX5_linksOfOtherMap 50 = .ok (.iload_n 2, 1) := by decide +kernel
theorem dX5_linksOfOtherMap_51 : decode cX5_linksOfOtherMap 51 = .ok (.aaload, 1) := by decide +kernel
theorem dX5_linksOfOtherMap_52 : decode cX5_linksOfOtherMap 52 = .ok (.getfield 104, 3) := by decide +kernel
theorem dX5_linksOfOtherMap_55 : decode cX5_linksOfOtherMap 55 = .ok (.getfield 108, 3) := by decide +kernel
theorem dX5_linksOfOtherMap_58 : decode cX5_linksOfOtherMap 58 = .ok (.if_icmp .eq 6, 3) := by decide +kernel
theorem dX5_linksOfOtherMap_61 : decode cX5_linksOfOtherMap 61 = .ok (.iinc 1 1, 3) := by decide +kernel
theorem dX5_linksOfOtherMap_64 : decode cX5_linksOfOtherMap 64 = .ok (.iinc 3 1, 3) := by decide +kernel
theorem dX5_linksOfOtherMap_67 : decode cX5_linksOfOtherMap 67 = .ok (.goto (-56), 3) := by decide +kernel
theorem dX5_linksOfOtherMap_70 : decode cX5_linksOfOtherMap 70 = .ok (.iinc 2 1, 3) := by decide +kernel
theorem dX5_linksOfOtherMap_73 : decode cX5_linksOfOtherMap 73 = .ok (.goto (-69), 3) := by decide +kernel
theorem dX5_linksOfOtherMap_76 : decode cX5_linksOfOtherMap 76 = .ok (.iload_n 1, 1) := by decide +kernel
theorem dX5_linksOfOtherMap_77 : decode cX5_linksOfOtherMap 77 = .ok (.ireturn, 1) := by decide +kernel
theorem dX5_heardOfAll_0 : decode cX5_heardOfAll 0 = .ok (.iconst 0, 1) := by decide +kernel
theorem dX5_heardOfAll_1 : decode cX5_heardOfAll 1 = .ok (.istore_n 1, 1) := by decide +kernel
theorem dX5_heardOfAll_2 : decode cX5_heardOfAll 2 = .ok (.iconst 0, 1) := by decide +kernel
theorem dX5_heardOfAll_3 : decode cX5_heardOfAll 3 = .ok (.istore_n 2, 1) := by decide +kernel
theorem dX5_heardOfAll_4 : decode cX5_heardOfAll 4 = .ok (.iload_n 2, 1) := by decide +kernel
theorem dX5_heardOfAll_5 : decode cX5_heardOfAll 5 = .ok (.iconst 2, 1) := by decide +kernel
theorem dX5_heardOfAll_6 : decode cX5_heardOfAll 6 = .ok (.if_icmp .ge 73, 3) := by decide +kernel
theorem dX5_heardOfAll_9 : decode cX5_heardOfAll 9 = .ok (.iconst 0, 1) := by decide +kernel
theorem dX5_heardOfAll_10 : decode cX5_heardOfAll 10 = .ok (.istore_n 3, 1) := by decide +kernel
theorem dX5_heardOfAll_11 : decode cX5_heardOfAll 11 = .ok (.iload_n 3, 1) := by decide +kernel
theorem dX5_heardOfAll_12 : decode cX5_heardOfAll 12 = .ok (.aload_n 0, 1) := by decide +kernel
theorem dX5_heardOfAll_13 : decode cX5_heardOfAll 13 = .ok (.getfield 23, 3) := by decide +kernel
theorem dX5_heardOfAll_16 : decode cX5_heardOfAll 16 = .ok (.iload_n 2, 1) := by decide +kernel
theorem dX5_heardOfAll_17 : decode cX5_heardOfAll 17 = .ok (.aaload, 1) := by decide +kernel
theorem dX5_heardOfAll_18 : decode cX5_heardOfAll 18 = .ok (.getfield 121, 3) := by decide +kernel
theorem dX5_heardOfAll_21 : decode cX5_heardOfAll 21 = .ok (.if_icmp .ge 52, 3) := by decide +kernel
theorem dX5_heardOfAll_24 : decode cX5_heardOfAll 24 = .ok (.iload_n 3, 1) := by decide +kernel
theorem dX5_heardOfAll_25 : decode cX5_heardOfAll 25 = .ok (.iconst 4, 1) := by decide +kernel
theorem dX5_heardOfAll_26 : decode cX5_heardOfAll 26 = .ok (.if_icmp .ge 47, 3) := by decide +kernel
theorem dX5_heardOfAll_29 : decode cX5_heardOfAll 29 = .ok (.iload_n 1, 1) := by decide +kernel
theorem dX5_heardOfAll_30 : decode cX5_heardOfAll 30 = .ok (.aload_n 0, 1) := by decide +kernel
theorem dX5_heardOfAll_31 : decode cX5_heardOfAll 31 = .ok (.getfield 23, 3) := by decide +kernel
theorem dX5_heardOfAll_34 : decode cX5_heardOfAll 34 = .ok (.iload_n 2, 1) := by decide +kernel
theorem dX5_heardOfAll_35 : decode cX5_heardOfAll 35 = .ok (.aaload, 1) := by decide +kernel
theorem dX5_heardOfAll_36 : decode cX5_heardOfAll 36 = .ok (.getfield 124, 3) := by decide +kernel
theorem dX5_heardOfAll_39 : decode cX5_heardOfAll 39 = .ok (.iload_n 3, 1) := by decide +kernel
theorem dX5_heardOfAll_40 : decode cX5_heardOfAll 40 = .ok (.aaload, 1) := by decide +kernel
theorem dX5_heardOfAll_41 : decode cX5_heardOfAll 41 = .ok (.getfield 137, 3) := by decide +kernel
theorem dX5_heardOfAll_44 : decode cX5_heardOfAll 44 = .ok (.getfield 141, 3) := by decide +kernel
theorem dX5_heardOfAll_47 : decode cX5_heardOfAll 47 = .ok (.aload_n 0, 1) := by decide +kernel
theorem dX5_heardOfAll_48 : decode cX5_heardOfAll 48 = .ok (.getfield 23, 3) := by decide +kernel
theorem dX5_heardOfAll_51 : decode cX5_heardOfAll 51 = .ok (.iload_n 2, 1) := by decide +kernel
theorem dX5_heardOfAll_52 : decode cX5_heardOfAll 52 = .ok (.aaload, 1) := by decide +kernel
theorem dX5_heardOfAll_53 : decode cX5_heardOfAll 53 = .ok (.getfield 124, 3) := by decide +kernel
theorem dX5_heardOfAll_56 : decode cX5_heardOfAll 56 = .ok (.iload_n 3, 1) := by decide +kernel
theorem dX5_heardOfAll_57 : decode cX5_heardOfAll 57 = .ok (.aaload, 1) := by decide +kernel
theorem dX5_heardOfAll_58 : decode cX5_heardOfAll 58 = .ok (.getfield 146, 3) := by decide +kernel
theorem dX5_heardOfAll_61 : decode cX5_heardOfAll 61 = .ok (.getfield 141, 3) := by decide +kernel
theorem dX5_heardOfAll_64 : decode cX5_heardOfAll 64 = .ok (.iadd, 1) := by decide +kernel
theorem dX5_heardOfAll_65 : decode cX5_heardOfAll 65 = .ok (.iadd, 1) := by decide +kernel
theorem dX5_heardOfAll_66 : decode cX5_heardOfAll 66 = .ok (.istore_n 1, 1) := by decide +kernel
theorem dX5_heardOfAll_67 : decode cX5_heardOfAll 67 = .ok (.iinc 3 1, 3) := by decide +kernel
theorem dX5_heardOfAll_70 : decode cX5_heardOfAll 70 = .ok (.goto (-59), 3) := by decide +kernel
theorem dX5_heardOfAll_73 : decode cX5_heardOfAll 73 = .ok (.iinc 2 1, 3) := by decide +kernel
theorem dX5_heardOfAll_76 : decode cX5_heardOfAll 76 = .ok (.goto (-72), 3) := by decide +kernel
theorem dX5_heardOfAll_79 : decode cX5_heardOfAll 79 = .ok (.iload_n 1, 1) := by decide +kernel
theorem dX5_heardOfAll_80 : decode cX5_heardOfAll 80 = .ok (.ireturn, 1) := by decide +kernel
set_option maxHeartbeats 4000000 in
set_option maxRecDepth 100000 in
theorem c_netAt (l : Launch) (E : hE) (ρ : Nat → Nat → Int32) (k : Nat) (n : Int32) (h : hk k = 5) (hF : FrW ρ k) : Met l yX5_netAt (.code yX5_netAt cX5_netAt 2 (some (.object "HopNet$Net")) :: gw_all) (rmk 0 0) (cPre E ρ [.ref (E.2.1 + k), .int n]) (cQ E (fun r ρ1 => ρ = ρ1 ∧ r = none)) 0 0 (hA E) := by
  refine ent (own := RX5) (by decide) rfl (Nat.le_of_ble_eq_true rfl) ?_
  intro p e s m below meth c ls B hr hlk hl hP hS
  have hx := B.1.1
  have hb := B.1.2.1
  have hown := B.1.2.2.2.1
  have hts := B.1.2.2.2.2
  have hl : lv_has ls 2 [(0, .ref (E.2.1 + k)), (1, .int n)] := hl
  refine lv_iload_n hx hb dX5_netAt_0 rfl (lv_at hl 1 rfl) ?_
  refine lv_if_lt (tgt := 22) hx hb dX5_netAt_1 (by decide) (fun c1 => ?_) (fun c1 => ?_)
  · skip
    refine lv_null hx hb dX5_netAt_22 ?_
    refine lv_goto (tgt := 32) hx hb dX5_netAt_23 (by decide) ?_
    exact ret_q none B hr hlk hP hS dX5_netAt_32 (⟨rfl, rfl⟩)
  · skip
    refine lv_iload_n hx hb dX5_netAt_4 rfl (lv_at hl 1 rfl) ?_
    refine lv_iconst (v := 2) hx hb dX5_netAt_5 (by decide) ?_
    refine lv_icmp_ge (tgt := 22) hx hb dX5_netAt_6 (by decide) (fun c2 => ?_) (fun c2 => ?_)
    · skip
      refine lv_null hx hb dX5_netAt_22 ?_
      refine lv_goto (tgt := 32) hx hb dX5_netAt_23 (by decide) ?_
      exact ret_q none B hr hlk hP hS dX5_netAt_32 (⟨rfl, rfl⟩)
    · skip
      refine lv_aload_n hx hb dX5_netAt_9 rfl (lv_at hl 0 rfl) ?_
      refine get5 B hP h 3 (by decide) mw_377 rfl dX5_netAt_10 ?_
      refine lv_iload_n hx hb dX5_netAt_13 rfl (lv_at hl 1 rfl) ?_
      obtain ⟨j3, hj3, ej3⟩ := ix_of (L := 2) (n := 2) rfl c1 c2
      rcases (show j3 = 0 ∨ j3 = 1 by omega) with rfl | rfl
      · skip
        refine aldNn B hP (lay5 h).2.2.2.2.2.2.1 (lay5 h).2.2.2.2.2.2.2.1 ej3 (by decide) dX5_netAt_14 ?_
        refine get2 B hP (lay5 h).2.2.2.2.2.2.2.2.1 5 (by decide) mw_296 (v := .int (-1)) (show some (Value.int (ρ (k + 5) 5)) = some (Value.int (-1)) from congrArg (fun z => some (Value.int z)) (show ρ (k + 5) 5 = (-1) from hF.1.1)) dX5_netAt_15 ?_
        refine lv_iconst (v := (-1)) hx hb dX5_netAt_18 (by decide) ?_
        refine lv_icmp_ne (tgt := 26) hx hb dX5_netAt_19 (by decide) (fun c4 => absurd c4 (by decide)) (fun _ => ?_)
        refine lv_null hx hb dX5_netAt_22 ?_
        refine lv_goto (tgt := 32) hx hb dX5_netAt_23 (by decide) ?_
        exact ret_q none B hr hlk hP hS dX5_netAt_32 (⟨rfl, rfl⟩)
      · skip
        refine aldNn B hP (lay5 h).2.2.2.2.2.2.1 (lay5 h).2.2.2.2.2.2.2.1 ej3 (by decide) dX5_netAt_14 ?_
        refine get2 B hP (lay5 h).2.2.2.2.2.2.2.2.2 5 (by decide) mw_296 (v := .int (-1)) (show some (Value.int (ρ (k + 47) 5)) = some (Value.int (-1)) from congrArg (fun z => some (Value.int z)) (show ρ (k + 47) 5 = (-1) from hF.2.1)) dX5_netAt_15 ?_
        refine lv_iconst (v := (-1)) hx hb dX5_netAt_18 (by decide) ?_
        refine lv_icmp_ne (tgt := 26) hx hb dX5_netAt_19 (by decide) (fun c5 => absurd c5 (by decide)) (fun _ => ?_)
        refine lv_null hx hb dX5_netAt_22 ?_
        refine lv_goto (tgt := 32) hx hb dX5_netAt_23 (by decide) ?_
        exact ret_q none B hr hlk hP hS dX5_netAt_32 (⟨rfl, rfl⟩)

theorem lk_RX5_60 : LkV RX5 60 RX5 yX5_netAt cX5_netAt 2 (some (.object "HopNet$Net")) 1 := ⟨⟨mw_576, mw_517, mw_518, mw_53, mw_519⟩, by decide +kernel⟩
set_option maxHeartbeats 4000000 in
set_option maxRecDepth 100000 in
theorem c_linkAt (l : Launch) (E : hE) (ρ : Nat → Nat → Int32) (k : Nat) (n i : Int32) (h : hk k = 5) (hF : FrW ρ k) : Met l yX5_linkAt (.code yX5_linkAt cX5_linkAt 4 (some (.object "HopNet$Link")) :: gw_all) (rmk 1 40) (cPre E ρ [.ref (E.2.1 + k), .int n, .int i]) (cQ E (fun r ρ1 => ρ = ρ1 ∧ r = none)) 0 0 (hA E) := by
  refine ent (own := RX5) (by decide) rfl (Nat.le_of_ble_eq_true rfl) ?_
  intro p e s m below meth c ls B hr hlk hl hP hS
  have hx := B.1.1
  have hb := B.1.2.1
  have hown := B.1.2.2.2.1
  have hts := B.1.2.2.2.2
  have hl : lv_has ls 4 [(0, .ref (E.2.1 + k)), (1, .int n), (2, .int i)] := hl
  refine lv_aload_n hx hb dX5_linkAt_0 rfl (lv_at hl 0 rfl) ?_
  refine lv_iload_n hx hb dX5_linkAt_1 rfl (lv_at hl 1 rfl) ?_
  refine call_q (cVt (k := k) (av := [.int n]) (rest := []) B hP hS (c_netAt l E ρ k n h hF) lk_RX5_60 (hrecv (ci := 5) B hP (hk_lt (c := 5) h (by decide)) (hcc5 _ _ h) rfl) rfl rfl hl.1 (Nat.le_of_ble_eq_true rfl) ⟨Nat.le_of_ble_eq_true rfl, Nat.le_of_ble_eq_true rfl⟩ ⟨Nat.le_of_ble_eq_true rfl, Nat.le_of_ble_eq_true rfl⟩ dX5_linkAt_2) hS (fun r1 ρ2 H locs q3 hP hS => ?_)
  obtain ⟨rfl, rfl⟩ := q3
  refine W.eq (g2 := F0 m 5 ls [.null]) rfl ?_
  refine lv_astore_nN (lv' := [(3, .null), (0, .ref (E.2.1 + k)), (1, .int n), (2, .int i)]) hx hb dX5_linkAt_5 rfl hl (by decide) rfl (fun ls hl => ?_)
  refine lv_aload_nN hx hb dX5_linkAt_6 rfl (lv_at hl 0 rfl) ?_
  refine lv_ifnonnullN hx hb dX5_linkAt_7 ?_
  refine lv_null hx hb dX5_linkAt_10 ?_
  refine lv_goto (tgt := 19) hx hb dX5_linkAt_11 (by decide) ?_
  exact ret_q none B hr hlk hP hS dX5_linkAt_19 (⟨rfl, rfl⟩)

set_option maxHeartbeats 4000000 in
set_option maxRecDepth 100000 in
theorem c_hasRadio (l : Launch) (E : hE) (ρ : Nat → Nat → Int32) (k : Nat) (n : Int32) (h : hk k = 5) (hz : ρ k 4 = 0) : Met l yX5_hasRadio (.code yX5_hasRadio cX5_hasRadio 2 (some .boolean) :: gw_all) (rmk 0 0) (cPre E ρ [.ref (E.2.1 + k), .int n]) (cI E (fun r ρ1 => ρ = ρ1 ∧ r = 0)) 0 0 (hA E) := by
  refine ent (own := RX5) (by decide) rfl (Nat.le_of_ble_eq_true rfl) ?_
  intro p e s m below meth c ls B hr hlk hl hP hS
  have hx := B.1.1
  have hb := B.1.2.1
  have hown := B.1.2.2.2.1
  have hts := B.1.2.2.2.2
  have hl : lv_has ls 2 [(0, .ref (E.2.1 + k)), (1, .int n)] := hl
  refine lv_iload_n hx hb dX5_hasRadio_0 rfl (lv_at hl 1 rfl) ?_
  refine lv_if_lt (tgt := 16) hx hb dX5_hasRadio_1 (by decide) (fun c1 => ?_) (fun c1 => ?_)
  · skip
    refine lv_iconst (v := 0) hx hb dX5_hasRadio_16 (by decide) ?_
    exact ret_z B hr hlk hP hS dX5_hasRadio_17 (Or.inl rfl) (⟨rfl, rfl⟩)
  · skip
    refine lv_iload_n hx hb dX5_hasRadio_4 rfl (lv_at hl 1 rfl) ?_
    refine lv_aload_n hx hb dX5_hasRadio_5 rfl (lv_at hl 0 rfl) ?_
    refine get5 B hP h 4 (by decide) mw_379 (v := .int 0) (show some (Value.int (ρ k 4)) = some (Value.int 0) from congrArg (fun z => some (Value.int z)) hz) dX5_hasRadio_6 ?_
    refine lv_icmp_ge (tgt := 16) hx hb dX5_hasRadio_9 (by decide) (fun c2 => ?_) (fun c2 => ?_)
    · skip
      refine lv_iconst (v := 0) hx hb dX5_hasRadio_16 (by decide) ?_
      exact ret_z B hr hlk hP hS dX5_hasRadio_17 (Or.inl rfl) (⟨rfl, rfl⟩)
    · skip
      refine lv_iconst (v := 1) hx hb dX5_hasRadio_12 (by decide) ?_
      refine lv_goto (tgt := 17) hx hb dX5_hasRadio_13 (by decide) ?_
      exact ret_z B hr hlk hP hS dX5_hasRadio_17 (Or.inr rfl) (⟨rfl, absurd (Int32.not_lt.mp c1) c2⟩)

set_option maxHeartbeats 4000000 in
set_option maxRecDepth 100000 in
theorem c_hasBothNets (l : Launch) (E : hE) (ρ : Nat → Nat → Int32) (k : Nat) (h : hk k = 5) (hF : FrW ρ k) : Met l yX5_hasBothNets (.code yX5_hasBothNets cX5_hasBothNets 1 (some .boolean) :: gw_all) (rmk 1 40) (cPre E ρ [.ref (E.2.1 + k)]) (cI E (fun r ρ1 => ρ = ρ1 ∧ r = 0)) 0 0 (hA E) := by
  refine ent (own := RX5) (by decide) rfl (Nat.le_of_ble_eq_true rfl) ?_
  intro p e s m below meth c ls B hr hlk hl hP hS
  have hx := B.1.1
  have hb := B.1.2.1
  have hown := B.1.2.2.2.1
  have hts := B.1.2.2.2.2
  have hl : lv_has ls 1 [(0, .ref (E.2.1 + k))] := hl
  refine lv_aload_n hx hb dX5_hasBothNets_0 rfl (lv_at hl 0 rfl) ?_
  refine lv_iconst (v := 0) hx hb dX5_hasBothNets_1 (by decide) ?_
  refine call_q (cVt (k := k) (av := [.int 0]) (rest := []) B hP hS (c_netAt l E ρ k 0 h hF) lk_RX5_60 (hrecv (ci := 5) B hP (hk_lt (c := 5) h (by decide)) (hcc5 _ _ h) rfl) rfl rfl hl.1 (Nat.le_of_ble_eq_true rfl) ⟨Nat.le_of_ble_eq_true rfl, Nat.le_of_ble_eq_true rfl⟩ ⟨Nat.le_of_ble_eq_true rfl, Nat.le_of_ble_eq_true rfl⟩ dX5_hasBothNets_2) hS (fun r1 ρ2 H locs q3 hP hS => ?_)
  obtain ⟨rfl, rfl⟩ := q3
  refine W.eq (g2 := F0 m 5 ls [.null]) rfl ?_
  refine lv_ifnullN (tgt := 20) hx hb dX5_hasBothNets_5 (by decide) ?_
  refine lv_iconst (v := 0) hx hb dX5_hasBothNets_20 (by decide) ?_
  exact ret_z B hr hlk hP hS dX5_hasBothNets_21 (Or.inl rfl) (⟨rfl, rfl⟩)

theorem lk_RX6_95 : LkV RX6 95 RX5 yX5_netAt cX5_netAt 2 (some (.object "HopNet$Net")) 1 := ⟨⟨mw_516, mw_517, mw_518, mw_53, mw_519⟩, by decide +kernel⟩
set_option maxHeartbeats 4000000 in
set_option maxRecDepth 100000 in
theorem c_planOf (l : Launch) (E : hE) (ρ : Nat → Nat → Int32) (n i : Int32) (hF : FrW ρ 1) : Met l yX6_planOf (.code yX6_planOf cX6_planOf 5 (some (.object "HopNet$Plan")) :: gw_all) (rmk 1 40) (cPre E ρ [.ref (E.2.1 + 0), .int n, .int i]) (cQ E (fun r ρ1 => ρ = ρ1 ∧ r = none)) 0 0 (hA E) := by
  refine ent (own := RX6) (by decide) rfl (Nat.le_of_ble_eq_true rfl) ?_
  intro p e s m below meth c ls B hr hlk hl hP hS
  have hx := B.1.1
  have hb := B.1.2.1
  have hown := B.1.2.2.2.1
  have hts := B.1.2.2.2.2
  have hl : lv_has ls 5 [(0, .ref (E.2.1 + 0)), (1, .int n), (2, .int i)] := hl
  refine lv_aload_n hx hb dX6_planOf_0 rfl (lv_at hl 0 rfl) ?_
  refine get6 B hP (by decide +kernel) 0 (by decide) mw_412 rfl dX6_planOf_1 ?_
  refine lv_iload_n hx hb dX6_planOf_4 rfl (lv_at hl 1 rfl) ?_
  refine call_q (cVt (k := 1) (av := [.int n]) (rest := []) B hP hS (c_netAt l E ρ 1 n (by decide +kernel) hF) lk_RX6_95 (hrecv (ci := 5) B hP (hk_lt (c := 5) (by decide +kernel) (by decide)) (hcc5 _ _ (by decide +kernel)) rfl) rfl rfl hl.1 (Nat.le_of_ble_eq_true rfl) ⟨Nat.le_of_ble_eq_true rfl, Nat.le_of_ble_eq_true rfl⟩ ⟨Nat.le_of_ble_eq_true rfl, Nat.le_of_ble_eq_true rfl⟩ dX6_planOf_5) hS (fun r1 ρ2 H locs q3 hP hS => ?_)
  obtain ⟨rfl, rfl⟩ := q3
  refine W.eq (g2 := F0 m 8 ls [.null]) rfl ?_
  refine lv_astore_nN (lv' := [(3, .null), (0, .ref (E.2.1 + 0)), (1, .int n), (2, .int i)]) hx hb dX6_planOf_8 rfl hl (by decide) rfl (fun ls hl => ?_)
  refine lv_aload_nN hx hb dX6_planOf_9 rfl (lv_at hl 0 rfl) ?_
  refine lv_ifnonnullN hx hb dX6_planOf_10 ?_
  refine lv_null hx hb dX6_planOf_13 ?_
  exact ret_q none B hr hlk hP hS dX6_planOf_14 (⟨rfl, rfl⟩)

set_option maxHeartbeats 4000000 in
set_option maxRecDepth 100000 in
theorem c_hasTimeFor (l : Launch) (E : hE) (ρ : Nat → Nat → Int32) (n : Int32) (hz : ρ 1 5 = 0) (hn : iR n 1 200) : Met l yX6_hasTimeFor (.code yX6_hasTimeFor cX6_hasTimeFor 2 (some .boolean) :: gw_all) (rmk 0 0) (cPre E ρ [.ref (E.2.1 + 0), .int n]) (cI E (fun r ρ1 => ρ = ρ1 ∧ r = 1)) 0 0 (hA E) := by
  refine ent (own := RX6) (by decide) rfl (Nat.le_of_ble_eq_true rfl) ?_
  intro p e s m below meth c ls B hr hlk hl hP hS
  have hx := B.1.1
  have hb := B.1.2.1
  have hown := B.1.2.2.2.1
  have hts := B.1.2.2.2.2
  have hl : lv_has ls 2 [(0, .ref (E.2.1 + 0)), (1, .int n)] := hl
  refine lv_aload_n hx hb dX6_hasTimeFor_0 rfl (lv_at hl 0 rfl) ?_
  refine get6 B hP (by decide +kernel) 0 (by decide) mw_412 rfl dX6_hasTimeFor_1 ?_
  refine get5 B hP (by decide +kernel) 5 (by decide) mw_382 (v := .int 0) (show some (Value.int (ρ 1 5)) = some (Value.int 0) from congrArg (fun z => some (Value.int z)) hz) dX6_hasTimeFor_4 ?_
  refine lv_iconst (v := 2) hx hb dX6_hasTimeFor_7 (by decide) ?_
  refine lv_iload_n hx hb dX6_hasTimeFor_8 rfl (lv_at hl 1 rfl) ?_
  refine lv_imul hx hb dX6_hasTimeFor_9 ?_
  refine lv_iadd hx hb dX6_hasTimeFor_10 ?_
  refine lv_ldcw (v := 99998) hx hb hown (hts _ mw_653) dX6_hasTimeFor_11 ?_
  refine lv_icmp_gt (tgt := 21) hx hb dX6_hasTimeFor_14 (by decide) (fun c1 => absurd c1 (ht_ok hn)) (fun _ => ?_)
  refine lv_iconst (v := 1) hx hb dX6_hasTimeFor_17 (by decide) ?_
  refine lv_goto (tgt := 22) hx hb dX6_hasTimeFor_18 (by decide) ?_
  exact ret_z B hr hlk hP hS dX6_hasTimeFor_22 (Or.inr rfl) (⟨rfl, rfl⟩)

set_option maxHeartbeats 4000000 in
set_option maxRecDepth 100000 in
theorem c_changesAt (l : Launch) (E : hE) (ρ : Nat → Nat → Int32) (k : Nat) (t : Int32) (h : hk k = 3) (hz : ρ k 1 = 0) : Met l yX3_changesAt (.code yX3_changesAt cX3_changesAt 2 (some .boolean) :: gw_all) (rmk 0 0) (cPre E ρ [.ref (E.2.1 + k), .int t]) (cI E (fun r ρ1 => ρ = ρ1 ∧ r = 0)) 0 0 (hA E) := by
  refine ent (own := RX3) (by decide) rfl (Nat.le_of_ble_eq_true rfl) ?_
  intro p e s m below meth c ls B hr hlk hl hP hS
  have hx := B.1.1
  have hb := B.1.2.1
  have hown := B.1.2.2.2.1
  have hts := B.1.2.2.2.2
  have hl : lv_has ls 2 [(0, .ref (E.2.1 + k)), (1, .int t)] := hl
  refine lv_aload_n hx hb dX3_changesAt_0 rfl (lv_at hl 0 rfl) ?_
  refine get3 B hP h 1 (by decide) mw_96 (v := .int 0) (show some (Value.int (ρ k 1)) = some (Value.int 0) from congrArg (fun z => some (Value.int z)) hz) dX3_changesAt_1 ?_
  refine lv_if_eq (tgt := 15) hx hb dX3_changesAt_4 (by decide) (fun _ => ?_) (fun c1 => absurd c1 (by decide))
  refine lv_iconst (v := 0) hx hb dX3_changesAt_15 (by decide) ?_
  exact ret_z B hr hlk hP hS dX3_changesAt_16 (Or.inl rfl) (⟨rfl, rfl⟩)

theorem lk_RX5_180 : LkV RX5 180 RX3 yX3_changesAt cX3_changesAt 2 (some .boolean) 1 := ⟨⟨mw_666, mw_667, mw_668, mw_55, mw_669⟩, by decide +kernel⟩
set_option maxHeartbeats 4000000 in
set_option maxRecDepth 100000 in
theorem c_changeMaps (l : Launch) (E : hE) (ρ : Nat → Nat → Int32) (k x : Nat) (h : hk k = 5) (hx2 : hk x = 2) (h8 : ρ x 8 = 0) (h1 : ρ (x + 1) 1 = 0) : Met l yX5_changeMaps (.code yX5_changeMaps cX5_changeMaps 4 none :: gw_all) (rmk 1 40) (cPre E ρ [.ref (E.2.1 + k), .ref (E.2.1 + x)]) (cV E (fun ρ1 => ρ = ρ1)) 0 0 (hA E) := by
  refine ent (own := RX5) (by decide) rfl (Nat.le_of_ble_eq_true rfl) ?_
  intro p e s m below meth c ls B hr hlk hl hP hS
  have hx := B.1.1
  have hb := B.1.2.1
  have hown := B.1.2.2.2.1
  have hts := B.1.2.2.2.2
  have hl : lv_has ls 4 [(0, .ref (E.2.1 + k)), (1, .ref (E.2.1 + x))] := hl
  refine lv_aload_n hx hb dX5_changeMaps_0 rfl (lv_at hl 1 rfl) ?_
  refine get2 B hP hx2 0 (by decide) mw_283 rfl dX5_changeMaps_1 ?_
  refine get3 B hP (lay2 hx2).1 0 (by decide) mw_94 rfl dX5_changeMaps_4 ?_
  refine lv_istore_n (lv' := [(2, .int (ρ (x + 1) 0)), (0, .ref (E.2.1 + k)), (1, .ref (E.2.1 + x))]) hx hb dX5_changeMaps_7 rfl hl (by decide) rfl (fun ls hl => ?_)
  refine lv_aload_n hx hb dX5_changeMaps_8 rfl (lv_at hl 2 rfl) ?_
  refine get2 B hP hx2 0 (by decide) mw_283 rfl dX5_changeMaps_9 ?_
  refine lv_aload_n hx hb dX5_changeMaps_12 rfl (lv_at hl 1 rfl) ?_
  refine get5 B hP h 5 (by decide) mw_381 rfl dX5_changeMaps_13 ?_
  refine call_i (cVt (k := (x + 1)) (av := [.int (ρ k 5)]) (rest := []) B hP hS (c_changesAt l E ρ (x + 1) (ρ k 5) (lay2 hx2).1 h1) lk_RX5_180 (hrecv (ci := 3) B hP (hk_lt (c := 3) (lay2 hx2).1 (by decide)) (hcc3 _ _ (lay2 hx2).1) rfl) rfl rfl hl.1 (Nat.le_of_ble_eq_true rfl) ⟨Nat.le_of_ble_eq_true rfl, Nat.le_of_ble_eq_true rfl⟩ ⟨Nat.le_of_ble_eq_true rfl, Nat.le_of_ble_eq_true rfl⟩ dX5_changeMaps_16) hS (fun r1 ρ2 H locs q3 hP hS => ?_)
  obtain ⟨rfl, rfl⟩ := q3
  refine lv_if_eq (tgt := 38) hx hb dX5_changeMaps_19 (by decide) (fun _ => ?_) (fun c4 => absurd c4 (by decide))
  refine lv_iconst (v := 0) hx hb dX5_changeMaps_38 (by decide) ?_
  refine lv_istore_n (lv' := [(3, .int 0), (2, .int (ρ (x + 1) 0)), (0, .ref (E.2.1 + k)), (1, .ref (E.2.1 + x))]) hx hb dX5_changeMaps_39 rfl hl (by decide) rfl (fun ls hl => ?_)
  refine lv_iload_n hx hb dX5_changeMaps_40 rfl (lv_at hl 0 rfl) ?_
  refine lv_aload_n hx hb dX5_changeMaps_41 rfl (lv_at hl 3 rfl) ?_
  refine get2 B hP hx2 8 (by decide) mw_305 (v := .int 0) (show some (Value.int (ρ x 8)) = some (Value.int 0) from congrArg (fun z => some (Value.int z)) h8) dX5_changeMaps_42 ?_
  refine lv_icmp_ge (tgt := 76) hx hb dX5_changeMaps_45 (by decide) (fun _ => ?_) (fun c5 => absurd c5 (by decide))
  exact ret_v B hr hlk hP hS dX5_changeMaps_76 (rfl)

set_option maxHeartbeats 4000000 in
set_option maxRecDepth 100000 in
theorem c_Net_linkAt (l : Launch) (E : hE) (ρ : Nat → Nat → Int32) (x : Nat) (i : Int32) (h : hk x = 2) (hi : i < 0) : Met l yX2_linkAt (.code yX2_linkAt cX2_linkAt 2 (some (.object "HopNet$Link")) :: gw_all) (rmk 0 0) (cPre E ρ [.ref (E.2.1 + x), .int i]) (cQ E (fun r ρ1 => ρ = ρ1 ∧ r = none)) 0 0 (hA E) := by
  refine ent (own := RX2) (by decide) rfl (Nat.le_of_ble_eq_true rfl) ?_
  intro p e s m below meth c ls B hr hlk hl hP hS
  have hx := B.1.1
  have hb := B.1.2.1
  have hown := B.1.2.2.2.1
  have hts := B.1.2.2.2.2
  have hl : lv_has ls 2 [(0, .ref (E.2.1 + x)), (1, .int i)] := hl
  refine lv_iload_n hx hb dX2_linkAt_0 rfl (lv_at hl 1 rfl) ?_
  refine lv_if_lt (tgt := 17) hx hb dX2_linkAt_1 (by decide) (fun _ => ?_) (fun c1 => absurd c1 (fun z => z hi))
  refine lv_null hx hb dX2_linkAt_17 ?_
  refine lv_goto (tgt := 27) hx hb dX2_linkAt_18 (by decide) ?_
  exact ret_q none B hr hlk hP hS dX2_linkAt_27 (⟨rfl, rfl⟩)

set_option maxHeartbeats 4000000 in
set_option maxRecDepth 100000 in
theorem c_beginTurn (l : Launch) (E : hE) (ρ : Nat → Nat → Int32) (k : Nat) (n : Int32) (h : hk k = 5) (hF : FrW ρ k) (hn : n = 0 ∨ n = 1) : Met l yX5_beginTurnOfLinks (.code yX5_beginTurnOfLinks cX5_beginTurnOfLinks 4 none :: gw_all) (rmk 0 0) (cPre E ρ [.ref (E.2.1 + k), .int n]) (cV E (fun ρ1 => ρ = ρ1)) 0 0 (hA E) := by
  refine ent (own := RX5) (by decide) rfl (Nat.le_of_ble_eq_true rfl) ?_
  intro p e s m below meth c ls B hr hlk hl hP hS
  have hx := B.1.1
  have hb := B.1.2.1
  have hown := B.1.2.2.2.1
  have hts := B.1.2.2.2.2
  have hl : lv_has ls 4 [(0, .ref (E.2.1 + k)), (1, .int n)] := hl
  rcases hn with rfl | rfl
  · skip
    refine lv_iconst (v := 0) hx hb dX5_beginTurnOfLinks_0 (by decide) ?_
    refine lv_istore_n (lv' := [(2, .int 0), (0, .ref (E.2.1 + k)), (1, .int 0)]) hx hb dX5_beginTurnOfLinks_1 rfl hl (by decide) rfl (fun ls hl => ?_)
    refine lv_iload_n hx hb dX5_beginTurnOfLinks_2 rfl (lv_at hl 0 rfl) ?_
    refine lv_aload_n hx hb dX5_beginTurnOfLinks_3 rfl (lv_at hl 1 rfl) ?_
    refine get5 B hP h 3 (by decide) mw_377 rfl dX5_beginTurnOfLinks_4 ?_
    refine lv_iload_n hx hb dX5_beginTurnOfLinks_7 rfl (lv_at hl 2 rfl) ?_
    refine aldNn B hP (lay5 h).2.2.2.2.2.2.1 (lay5 h).2.2.2.2.2.2.2.1 rfl (by decide) dX5_beginTurnOfLinks_8 ?_
    refine get2 B hP (lay5 h).2.2.2.2.2.2.2.2.1 8 (by decide) mw_305 (v := .int 0) (show some (Value.int (ρ (k + 5) 8)) = some (Value.int 0) from congrArg (fun z => some (Value.int z)) (show ρ (k + 5) 8 = 0 from hF.1.2.1)) dX5_beginTurnOfLinks_9 ?_
    refine lv_icmp_ge (tgt := 80) hx hb dX5_beginTurnOfLinks_12 (by decide) (fun _ => ?_) (fun c1 => absurd c1 (by decide))
    exact ret_v B hr hlk hP hS dX5_beginTurnOfLinks_80 (rfl)
  · skip
    refine lv_iconst (v := 0) hx hb dX5_beginTurnOfLinks_0 (by decide) ?_
    refine lv_istore_n (lv' := [(2, .int 0), (0, .ref (E.2.1 + k)), (1, .int 1)]) hx hb dX5_beginTurnOfLinks_1 rfl hl (by decide) rfl (fun ls hl => ?_)
    refine lv_iload_n hx hb dX5_beginTurnOfLinks_2 rfl (lv_at hl 0 rfl) ?_
    refine lv_aload_n hx hb dX5_beginTurnOfLinks_3 rfl (lv_at hl 1 rfl) ?_
    refine get5 B hP h 3 (by decide) mw_377 rfl dX5_beginTurnOfLinks_4 ?_
    refine lv_iload_n hx hb dX5_beginTurnOfLinks_7 rfl (lv_at hl 2 rfl) ?_
    refine aldNn B hP (lay5 h).2.2.2.2.2.2.1 (lay5 h).2.2.2.2.2.2.2.1 rfl (by decide) dX5_beginTurnOfLinks_8 ?_
    refine get2 B hP (lay5 h).2.2.2.2.2.2.2.2.2 8 (by decide) mw_305 (v := .int 0) (show some (Value.int (ρ (k + 47) 8)) = some (Value.int 0) from congrArg (fun z => some (Value.int z)) (show ρ (k + 47) 8 = 0 from hF.2.2.1)) dX5_beginTurnOfLinks_9 ?_
    refine lv_icmp_ge (tgt := 80) hx hb dX5_beginTurnOfLinks_12 (by decide) (fun _ => ?_) (fun c2 => absurd c2 (by decide))
    exact ret_v B hr hlk hP hS dX5_beginTurnOfLinks_80 (rfl)

set_option maxHeartbeats 4000000 in
set_option maxRecDepth 100000 in
theorem c_chooseIn (l : Launch) (E : hE) (ρ : Nat → Nat → Int32) (k : Nat) (n : Int32) (h : hk k = 5) (hF : FrW ρ k) (hn : n = 0 ∨ n = 1) : Met l yX5_chooseIn (.code yX5_chooseIn cX5_chooseIn 4 none :: gw_all) (rmk 0 0) (cPre E ρ [.ref (E.2.1 + k), .int n]) (cV E (fun ρ1 => ρ = ρ1)) 0 0 (hA E) := by
  refine ent (own := RX5) (by decide) rfl (Nat.le_of_ble_eq_true rfl) ?_
  intro p e s m below meth c ls B hr hlk hl hP hS
  have hx := B.1.1
  have hb := B.1.2.1
  have hown := B.1.2.2.2.1
  have hts := B.1.2.2.2.2
  have hl : lv_has ls 4 [(0, .ref (E.2.1 + k)), (1, .int n)] := hl
  rcases hn with rfl | rfl
  · skip
    refine lv_aload_n hx hb dX5_chooseIn_0 rfl (lv_at hl 0 rfl) ?_
    refine get5 B hP h 3 (by decide) mw_377 rfl dX5_chooseIn_1 ?_
    refine lv_iload_n hx hb dX5_chooseIn_4 rfl (lv_at hl 1 rfl) ?_
    refine aldNn B hP (lay5 h).2.2.2.2.2.2.1 (lay5 h).2.2.2.2.2.2.2.1 rfl (by decide) dX5_chooseIn_5 ?_
    refine lv_astore_n (lv' := [(2, .ref (E.2.1 + (k + 5))), (0, .ref (E.2.1 + k)), (1, .int 0)]) hx hb dX5_chooseIn_6 rfl hl (by decide) rfl (fun ls hl => ?_)
    refine lv_aload_n hx hb dX5_chooseIn_7 rfl (lv_at hl 0 rfl) ?_
    refine lv_iconst (v := (-1)) hx hb dX5_chooseIn_8 (by decide) ?_
    refine put2 B hP hS (lay5 h).2.2.2.2.2.2.2.2.1 15 (by decide) mw_320 rfl rfl rfl (fs2_15 E (k + 5) _ _) dX5_chooseIn_9 (fun H locs hP hS => ?_)
    rw [up_self ρ (show ρ (k + 5) 15 = (-1) from hF.1.2.2.2.1)] at hP
    refine lv_aload_n hx hb dX5_chooseIn_12 rfl (lv_at hl 0 rfl) ?_
    refine lv_iconst (v := 0) hx hb dX5_chooseIn_13 (by decide) ?_
    refine put2 B hP hS (lay5 h).2.2.2.2.2.2.2.2.1 14 (by decide) mw_317 rfl rfl rfl (fs2_14 E (k + 5) _ _) dX5_chooseIn_14 (fun H locs hP hS => ?_)
    rw [up_self ρ (show ρ (k + 5) 14 = 0 from hF.1.2.2.1)] at hP
    refine lv_aload_n hx hb dX5_chooseIn_17 rfl (lv_at hl 0 rfl) ?_
    refine get2 B hP (lay5 h).2.2.2.2.2.2.2.2.1 5 (by decide) mw_296 (v := .int (-1)) (show some (Value.int (ρ (k + 5) 5)) = some (Value.int (-1)) from congrArg (fun z => some (Value.int z)) (show ρ (k + 5) 5 = (-1) from hF.1.1)) dX5_chooseIn_18 ?_
    refine lv_iconst (v := (-1)) hx hb dX5_chooseIn_21 (by decide) ?_
    refine lv_icmp_eq (tgt := 41) hx hb dX5_chooseIn_22 (by decide) (fun _ => ?_) (fun c1 => absurd c1 (by decide))
    exact ret_v B hr hlk hP hS dX5_chooseIn_41 (rfl)
  · skip
    refine lv_aload_n hx hb dX5_chooseIn_0 rfl (lv_at hl 0 rfl) ?_
    refine get5 B hP h 3 (by decide) mw_377 rfl dX5_chooseIn_1 ?_
    refine lv_iload_n hx hb dX5_chooseIn_4 rfl (lv_at hl 1 rfl) ?_
    refine aldNn B hP (lay5 h).2.2.2.2.2.2.1 (lay5 h).2.2.2.2.2.2.2.1 rfl (by decide) dX5_chooseIn_5 ?_
    refine lv_astore_n (lv' := [(2, .ref (E.2.1 + (k + 47))), (0, .ref (E.2.1 + k)), (1, .int 1)]) hx hb dX5_chooseIn_6 rfl hl (by decide) rfl (fun ls hl => ?_)
    refine lv_aload_n hx hb dX5_chooseIn_7 rfl (lv_at hl 0 rfl) ?_
    refine lv_iconst (v := (-1)) hx hb dX5_chooseIn_8 (by decide) ?_
    refine put2 B hP hS (lay5 h).2.2.2.2.2.2.2.2.2 15 (by decide) mw_320 rfl rfl rfl (fs2_15 E (k + 47) _ _) dX5_chooseIn_9 (fun H locs hP hS => ?_)
    rw [up_self ρ (show ρ (k + 47) 15 = (-1) from hF.2.2.2.2.1)] at hP
    refine lv_aload_n hx hb dX5_chooseIn_12 rfl (lv_at hl 0 rfl) ?_
    refine lv_iconst (v := 0) hx hb dX5_chooseIn_13 (by decide) ?_
    refine put2 B hP hS (lay5 h).2.2.2.2.2.2.2.2.2 14 (by decide) mw_317 rfl rfl rfl (fs2_14 E (k + 47) _ _) dX5_chooseIn_14 (fun H locs hP hS => ?_)
    rw [up_self ρ (show ρ (k + 47) 14 = 0 from hF.2.2.2.1)] at hP
    refine lv_aload_n hx hb dX5_chooseIn_17 rfl (lv_at hl 0 rfl) ?_
    refine get2 B hP (lay5 h).2.2.2.2.2.2.2.2.2 5 (by decide) mw_296 (v := .int (-1)) (show some (Value.int (ρ (k + 47) 5)) = some (Value.int (-1)) from congrArg (fun z => some (Value.int z)) (show ρ (k + 47) 5 = (-1) from hF.2.1)) dX5_chooseIn_18 ?_
    refine lv_iconst (v := (-1)) hx hb dX5_chooseIn_21 (by decide) ?_
    refine lv_icmp_eq (tgt := 41) hx hb dX5_chooseIn_22 (by decide) (fun _ => ?_) (fun c2 => absurd c2 (by decide))
    exact ret_v B hr hlk hP hS dX5_chooseIn_41 (rfl)

theorem lk_RX5_64 : LkV RX5 64 RX2 yX2_linkAt cX2_linkAt 2 (some (.object "HopNet$Link")) 1 := ⟨⟨mw_577, mw_545, mw_546, mw_54, mw_547⟩, by decide +kernel⟩
set_option maxHeartbeats 4000000 in
set_option maxRecDepth 100000 in
theorem c_tunePacket (l : Launch) (E : hE) (ρ : Nat → Nat → Int32) (k : Nat) (n : Int32) (h : hk k = 5) (hF : FrW ρ k) (hn : n = 0 ∨ n = 1) : Met l yX5_tunePacket (.code yX5_tunePacket cX5_tunePacket 5 none :: gw_all) (rmk 1 40) (cPre E ρ [.ref (E.2.1 + k), .int n]) (cV E (fun ρ1 => ρ = ρ1)) 0 0 (hA E) := by
  refine ent (own := RX5) (by decide) rfl (Nat.le_of_ble_eq_true rfl) ?_
  intro p e s m below meth c ls B hr hlk hl hP hS
  have hx := B.1.1
  have hb := B.1.2.1
  have hown := B.1.2.2.2.1
  have hts := B.1.2.2.2.2
  have hl : lv_has ls 5 [(0, .ref (E.2.1 + k)), (1, .int n)] := hl
  rcases hn with rfl | rfl
  · skip
    refine lv_aload_n hx hb dX5_tunePacket_0 rfl (lv_at hl 0 rfl) ?_
    refine get5 B hP h 3 (by decide) mw_377 rfl dX5_tunePacket_1 ?_
    refine lv_iload_n hx hb dX5_tunePacket_4 rfl (lv_at hl 1 rfl) ?_
    refine aldNn B hP (lay5 h).2.2.2.2.2.2.1 (lay5 h).2.2.2.2.2.2.2.1 rfl (by decide) dX5_tunePacket_5 ?_
    refine lv_astore_n (lv' := [(2, .ref (E.2.1 + (k + 5))), (0, .ref (E.2.1 + k)), (1, .int 0)]) hx hb dX5_tunePacket_6 rfl hl (by decide) rfl (fun ls hl => ?_)
    refine lv_aload_n hx hb dX5_tunePacket_7 rfl (lv_at hl 0 rfl) ?_
    refine lv_aload_n hx hb dX5_tunePacket_8 rfl (lv_at hl 0 rfl) ?_
    refine get2 B hP (lay5 h).2.2.2.2.2.2.2.2.1 15 (by decide) mw_320 (v := .int (-1)) (show some (Value.int (ρ (k + 5) 15)) = some (Value.int (-1)) from congrArg (fun z => some (Value.int z)) (show ρ (k + 5) 15 = (-1) from hF.1.2.2.2.1)) dX5_tunePacket_9 ?_
    refine call_q (cVt (k := (k + 5)) (av := [.int (-1)]) (rest := []) B hP hS (c_Net_linkAt l E ρ (k + 5) (-1) (lay5 h).2.2.2.2.2.2.2.2.1 (by decide)) lk_RX5_64 (hrecv (ci := 2) B hP (hk_lt (c := 2) (lay5 h).2.2.2.2.2.2.2.2.1 (by decide)) (hcc2 _ _ (lay5 h).2.2.2.2.2.2.2.2.1) rfl) rfl rfl hl.1 (Nat.le_of_ble_eq_true rfl) ⟨Nat.le_of_ble_eq_true rfl, Nat.le_of_ble_eq_true rfl⟩ ⟨Nat.le_of_ble_eq_true rfl, Nat.le_of_ble_eq_true rfl⟩ dX5_tunePacket_12) hS (fun r1 ρ2 H locs q3 hP hS => ?_)
    obtain ⟨rfl, rfl⟩ := q3
    refine W.eq (g2 := F0 m 15 ls [.null]) rfl ?_
    refine lv_astore_nN (lv' := [(3, .null), (2, .ref (E.2.1 + (k + 5))), (0, .ref (E.2.1 + k)), (1, .int 0)]) hx hb dX5_tunePacket_15 rfl hl (by decide) rfl (fun ls hl => ?_)
    refine lv_aload_n hx hb dX5_tunePacket_16 rfl (lv_at hl 1 rfl) ?_
    refine lv_iconst (v := 0) hx hb dX5_tunePacket_17 (by decide) ?_
    refine put2 B hP hS (lay5 h).2.2.2.2.2.2.2.2.1 19 (by decide) mw_329 rfl rfl rfl (fs2_19 E (k + 5) _ _) dX5_tunePacket_18 (fun H locs hP hS => ?_)
    rw [up_self ρ (show ρ (k + 5) 19 = 0 from hF.1.2.2.2.2.2.2.1)] at hP
    refine lv_aload_n hx hb dX5_tunePacket_21 rfl (lv_at hl 1 rfl) ?_
    refine lv_iconst (v := (-1)) hx hb dX5_tunePacket_22 (by decide) ?_
    refine put2 B hP hS (lay5 h).2.2.2.2.2.2.2.2.1 17 (by decide) mw_325 rfl rfl rfl (fs2_17 E (k + 5) _ _) dX5_tunePacket_23 (fun H locs hP hS => ?_)
    rw [up_self ρ (show ρ (k + 5) 17 = (-1) from hF.1.2.2.2.2.1)] at hP
    refine lv_aload_n hx hb dX5_tunePacket_26 rfl (lv_at hl 1 rfl) ?_
    refine get2 B hP (lay5 h).2.2.2.2.2.2.2.2.1 14 (by decide) mw_317 (v := .int 0) (show some (Value.int (ρ (k + 5) 14)) = some (Value.int 0) from congrArg (fun z => some (Value.int z)) (show ρ (k + 5) 14 = 0 from hF.1.2.2.1)) dX5_tunePacket_27 ?_
    refine lv_if_ne (tgt := 37) hx hb dX5_tunePacket_30 (by decide) (fun c4 => absurd c4 (by decide)) (fun _ => ?_)
    refine lv_aload_nN hx hb dX5_tunePacket_33 rfl (lv_at hl 0 rfl) ?_
    refine lv_ifnullN (tgt := 118) hx hb dX5_tunePacket_34 (by decide) ?_
    refine lv_aload_n hx hb dX5_tunePacket_118 rfl (lv_at hl 1 rfl) ?_
    refine lv_aload_n hx hb dX5_tunePacket_119 rfl (lv_at hl 1 rfl) ?_
    refine get2 B hP (lay5 h).2.2.2.2.2.2.2.2.1 17 (by decide) mw_325 (v := .int (-1)) (show some (Value.int (ρ (k + 5) 17)) = some (Value.int (-1)) from congrArg (fun z => some (Value.int z)) (show ρ (k + 5) 17 = (-1) from hF.1.2.2.2.2.1)) dX5_tunePacket_120 ?_
    refine put2 B hP hS (lay5 h).2.2.2.2.2.2.2.2.1 18 (by decide) mw_327 rfl rfl rfl (fs2_18 E (k + 5) _ _) dX5_tunePacket_123 (fun H locs hP hS => ?_)
    rw [up_self ρ (show ρ (k + 5) 18 = (-1) from hF.1.2.2.2.2.2.1)] at hP
    exact ret_v B hr hlk hP hS dX5_tunePacket_126 (rfl)
  · skip
    refine lv_aload_n hx hb dX5_tunePacket_0 rfl (lv_at hl 0 rfl) ?_
    refine get5 B hP h 3 (by decide) mw_377 rfl dX5_tunePacket_1 ?_
    refine lv_iload_n hx hb dX5_tunePacket_4 rfl (lv_at hl 1 rfl) ?_
    refine aldNn B hP (lay5 h).2.2.2.2.2.2.1 (lay5 h).2.2.2.2.2.2.2.1 rfl (by decide) dX5_tunePacket_5 ?_
    refine lv_astore_n (lv' := [(2, .ref (E.2.1 + (k + 47))), (0, .ref (E.2.1 + k)), (1, .int 1)]) hx hb dX5_tunePacket_6 rfl hl (by decide) rfl (fun ls hl => ?_)
    refine lv_aload_n hx hb dX5_tunePacket_7 rfl (lv_at hl 0 rfl) ?_
    refine lv_aload_n hx hb dX5_tunePacket_8 rfl (lv_at hl 0 rfl) ?_
    refine get2 B hP (lay5 h).2.2.2.2.2.2.2.2.2 15 (by decide) mw_320 (v := .int (-1)) (show some (Value.int (ρ (k + 47) 15)) = some (Value.int (-1)) from congrArg (fun z => some (Value.int z)) (show ρ (k + 47) 15 = (-1) from hF.2.2.2.2.1)) dX5_tunePacket_9 ?_
    refine call_q (cVt (k := (k + 47)) (av := [.int (-1)]) (rest := []) B hP hS (c_Net_linkAt l E ρ (k + 47) (-1) (lay5 h).2.2.2.2.2.2.2.2.2 (by decide)) lk_RX5_64 (hrecv (ci := 2) B hP (hk_lt (c := 2) (lay5 h).2.2.2.2.2.2.2.2.2 (by decide)) (hcc2 _ _ (lay5 h).2.2.2.2.2.2.2.2.2) rfl) rfl rfl hl.1 (Nat.le_of_ble_eq_true rfl) ⟨Nat.le_of_ble_eq_true rfl, Nat.le_of_ble_eq_true rfl⟩ ⟨Nat.le_of_ble_eq_true rfl, Nat.le_of_ble_eq_true rfl⟩ dX5_tunePacket_12) hS (fun r5 ρ6 H locs q7 hP hS => ?_)
    obtain ⟨rfl, rfl⟩ := q7
    refine W.eq (g2 := F0 m 15 ls [.null]) rfl ?_
    refine lv_astore_nN (lv' := [(3, .null), (2, .ref (E.2.1 + (k + 47))), (0, .ref (E.2.1 + k)), (1, .int 1)]) hx hb dX5_tunePacket_15 rfl hl (by decide) rfl (fun ls hl => ?_)
    refine lv_aload_n hx hb dX5_tunePacket_16 rfl (lv_at hl 1 rfl) ?_
    refine lv_iconst (v := 0) hx hb dX5_tunePacket_17 (by decide) ?_
    refine put2 B hP hS (lay5 h).2.2.2.2.2.2.2.2.2 19 (by decide) mw_329 rfl rfl rfl (fs2_19 E (k + 47) _ _) dX5_tunePacket_18 (fun H locs hP hS => ?_)
    rw [up_self ρ (show ρ (k + 47) 19 = 0 from hF.2.2.2.2.2.2.2.1)] at hP
    refine lv_aload_n hx hb dX5_tunePacket_21 rfl (lv_at hl 1 rfl) ?_
    refine lv_iconst (v := (-1)) hx hb dX5_tunePacket_22 (by decide) ?_
    refine put2 B hP hS (lay5 h).2.2.2.2.2.2.2.2.2 17 (by decide) mw_325 rfl rfl rfl (fs2_17 E (k + 47) _ _) dX5_tunePacket_23 (fun H locs hP hS => ?_)
    rw [up_self ρ (show ρ (k + 47) 17 = (-1) from hF.2.2.2.2.2.1)] at hP
    refine lv_aload_n hx hb dX5_tunePacket_26 rfl (lv_at hl 1 rfl) ?_
    refine get2 B hP (lay5 h).2.2.2.2.2.2.2.2.2 14 (by decide) mw_317 (v := .int 0) (show some (Value.int (ρ (k + 47) 14)) = some (Value.int 0) from congrArg (fun z => some (Value.int z)) (show ρ (k + 47) 14 = 0 from hF.2.2.2.1)) dX5_tunePacket_27 ?_
    refine lv_if_ne (tgt := 37) hx hb dX5_tunePacket_30 (by decide) (fun c8 => absurd c8 (by decide)) (fun _ => ?_)
    refine lv_aload_nN hx hb dX5_tunePacket_33 rfl (lv_at hl 0 rfl) ?_
    refine lv_ifnullN (tgt := 118) hx hb dX5_tunePacket_34 (by decide) ?_
    refine lv_aload_n hx hb dX5_tunePacket_118 rfl (lv_at hl 1 rfl) ?_
    refine lv_aload_n hx hb dX5_tunePacket_119 rfl (lv_at hl 1 rfl) ?_
    refine get2 B hP (lay5 h).2.2.2.2.2.2.2.2.2 17 (by decide) mw_325 (v := .int (-1)) (show some (Value.int (ρ (k + 47) 17)) = some (Value.int (-1)) from congrArg (fun z => some (Value.int z)) (show ρ (k + 47) 17 = (-1) from hF.2.2.2.2.2.1)) dX5_tunePacket_120 ?_
    refine put2 B hP hS (lay5 h).2.2.2.2.2.2.2.2.2 18 (by decide) mw_327 rfl rfl rfl (fs2_18 E (k + 47) _ _) dX5_tunePacket_123 (fun H locs hP hS => ?_)
    rw [up_self ρ (show ρ (k + 47) 18 = (-1) from hF.2.2.2.2.2.2.1)] at hP
    exact ret_v B hr hlk hP hS dX5_tunePacket_126 (rfl)

set_option maxHeartbeats 4000000 in
set_option maxRecDepth 100000 in
theorem c_sendPacket (l : Launch) (E : hE) (ρ : Nat → Nat → Int32) (k : Nat) (n : Int32) (h : hk k = 5) (hF : FrW ρ k) (hn : n = 0 ∨ n = 1) : Met l yX5_sendPacket (.code yX5_sendPacket cX5_sendPacket 5 none :: gw_all) (rmk 0 0) (cPre E ρ [.ref (E.2.1 + k), .int n]) (cV E (fun ρ1 => ρ = ρ1)) 0 0 (hA E) := by
  refine ent (own := RX5) (by decide) rfl (Nat.le_of_ble_eq_true rfl) ?_
  intro p e s m below meth c ls B hr hlk hl hP hS
  have hx := B.1.1
  have hb := B.1.2.1
  have hown := B.1.2.2.2.1
  have hts := B.1.2.2.2.2
  have hl : lv_has ls 5 [(0, .ref (E.2.1 + k)), (1, .int n)] := hl
  rcases hn with rfl | rfl
  · skip
    refine lv_aload_n hx hb dX5_sendPacket_0 rfl (lv_at hl 0 rfl) ?_
    refine get5 B hP h 3 (by decide) mw_377 rfl dX5_sendPacket_1 ?_
    refine lv_iload_n hx hb dX5_sendPacket_4 rfl (lv_at hl 1 rfl) ?_
    refine aldNn B hP (lay5 h).2.2.2.2.2.2.1 (lay5 h).2.2.2.2.2.2.2.1 rfl (by decide) dX5_sendPacket_5 ?_
    refine lv_astore_n (lv' := [(2, .ref (E.2.1 + (k + 5))), (0, .ref (E.2.1 + k)), (1, .int 0)]) hx hb dX5_sendPacket_6 rfl hl (by decide) rfl (fun ls hl => ?_)
    refine lv_aload_n hx hb dX5_sendPacket_7 rfl (lv_at hl 0 rfl) ?_
    refine get2 B hP (lay5 h).2.2.2.2.2.2.2.2.1 17 (by decide) mw_325 (v := .int (-1)) (show some (Value.int (ρ (k + 5) 17)) = some (Value.int (-1)) from congrArg (fun z => some (Value.int z)) (show ρ (k + 5) 17 = (-1) from hF.1.2.2.2.2.1)) dX5_sendPacket_8 ?_
    refine lv_iconst (v := (-1)) hx hb dX5_sendPacket_11 (by decide) ?_
    refine lv_icmp_ne (tgt := 16) hx hb dX5_sendPacket_12 (by decide) (fun c1 => absurd c1 (by decide)) (fun _ => ?_)
    exact ret_v B hr hlk hP hS dX5_sendPacket_15 (rfl)
  · skip
    refine lv_aload_n hx hb dX5_sendPacket_0 rfl (lv_at hl 0 rfl) ?_
    refine get5 B hP h 3 (by decide) mw_377 rfl dX5_sendPacket_1 ?_
    refine lv_iload_n hx hb dX5_sendPacket_4 rfl (lv_at hl 1 rfl) ?_
    refine aldNn B hP (lay5 h).2.2.2.2.2.2.1 (lay5 h).2.2.2.2.2.2.2.1 rfl (by decide) dX5_sendPacket_5 ?_
    refine lv_astore_n (lv' := [(2, .ref (E.2.1 + (k + 47))), (0, .ref (E.2.1 + k)), (1, .int 1)]) hx hb dX5_sendPacket_6 rfl hl (by decide) rfl (fun ls hl => ?_)
    refine lv_aload_n hx hb dX5_sendPacket_7 rfl (lv_at hl 0 rfl) ?_
    refine get2 B hP (lay5 h).2.2.2.2.2.2.2.2.2 17 (by decide) mw_325 (v := .int (-1)) (show some (Value.int (ρ (k + 47) 17)) = some (Value.int (-1)) from congrArg (fun z => some (Value.int z)) (show ρ (k + 47) 17 = (-1) from hF.2.2.2.2.2.1)) dX5_sendPacket_8 ?_
    refine lv_iconst (v := (-1)) hx hb dX5_sendPacket_11 (by decide) ?_
    refine lv_icmp_ne (tgt := 16) hx hb dX5_sendPacket_12 (by decide) (fun c2 => absurd c2 (by decide)) (fun _ => ?_)
    exact ret_v B hr hlk hP hS dX5_sendPacket_15 (rfl)

set_option maxHeartbeats 4000000 in
set_option maxRecDepth 100000 in
theorem c_hearPacket (l : Launch) (E : hE) (ρ : Nat → Nat → Int32) (k : Nat) (n : Int32) (h : hk k = 5) (hF : FrW ρ k) (hn : n = 0 ∨ n = 1) : Met l yX5_hearPacket (.code yX5_hearPacket cX5_hearPacket 4 none :: gw_all) (rmk 1 40) (cPre E ρ [.ref (E.2.1 + k), .int n]) (cV E (fun ρ1 => ρ = ρ1)) 0 0 (hA E) := by
  refine ent (own := RX5) (by decide) rfl (Nat.le_of_ble_eq_true rfl) ?_
  intro p e s m below meth c ls B hr hlk hl hP hS
  have hx := B.1.1
  have hb := B.1.2.1
  have hown := B.1.2.2.2.1
  have hts := B.1.2.2.2.2
  have hl : lv_has ls 4 [(0, .ref (E.2.1 + k)), (1, .int n)] := hl
  rcases hn with rfl | rfl
  · skip
    refine lv_aload_n hx hb dX5_hearPacket_0 rfl (lv_at hl 0 rfl) ?_
    refine get5 B hP h 3 (by decide) mw_377 rfl dX5_hearPacket_1 ?_
    refine lv_iload_n hx hb dX5_hearPacket_4 rfl (lv_at hl 1 rfl) ?_
    refine aldNn B hP (lay5 h).2.2.2.2.2.2.1 (lay5 h).2.2.2.2.2.2.2.1 rfl (by decide) dX5_hearPacket_5 ?_
    refine lv_astore_n (lv' := [(2, .ref (E.2.1 + (k + 5))), (0, .ref (E.2.1 + k)), (1, .int 0)]) hx hb dX5_hearPacket_6 rfl hl (by decide) rfl (fun ls hl => ?_)
    refine lv_aload_n hx hb dX5_hearPacket_7 rfl (lv_at hl 0 rfl) ?_
    refine get2 B hP (lay5 h).2.2.2.2.2.2.2.2.1 14 (by decide) mw_317 (v := .int 0) (show some (Value.int (ρ (k + 5) 14)) = some (Value.int 0) from congrArg (fun z => some (Value.int z)) (show ρ (k + 5) 14 = 0 from hF.1.2.2.1)) dX5_hearPacket_8 ?_
    refine lv_if_eq (tgt := 23) hx hb dX5_hearPacket_11 (by decide) (fun _ => ?_) (fun c1 => absurd c1 (by decide))
    refine lv_aload_n hx hb dX5_hearPacket_23 rfl (lv_at hl 0 rfl) ?_
    refine lv_aload_n hx hb dX5_hearPacket_24 rfl (lv_at hl 0 rfl) ?_
    refine get2 B hP (lay5 h).2.2.2.2.2.2.2.2.1 15 (by decide) mw_320 (v := .int (-1)) (show some (Value.int (ρ (k + 5) 15)) = some (Value.int (-1)) from congrArg (fun z => some (Value.int z)) (show ρ (k + 5) 15 = (-1) from hF.1.2.2.2.1)) dX5_hearPacket_25 ?_
    refine call_q (cVt (k := (k + 5)) (av := [.int (-1)]) (rest := []) B hP hS (c_Net_linkAt l E ρ (k + 5) (-1) (lay5 h).2.2.2.2.2.2.2.2.1 (by decide)) lk_RX5_64 (hrecv (ci := 2) B hP (hk_lt (c := 2) (lay5 h).2.2.2.2.2.2.2.2.1 (by decide)) (hcc2 _ _ (lay5 h).2.2.2.2.2.2.2.2.1) rfl) rfl rfl hl.1 (Nat.le_of_ble_eq_true rfl) ⟨Nat.le_of_ble_eq_true rfl, Nat.le_of_ble_eq_true rfl⟩ ⟨Nat.le_of_ble_eq_true rfl, Nat.le_of_ble_eq_true rfl⟩ dX5_hearPacket_28) hS (fun r2 ρ3 H locs q4 hP hS => ?_)
    obtain ⟨rfl, rfl⟩ := q4
    refine W.eq (g2 := F0 m 31 ls [.null]) rfl ?_
    refine lv_astore_nN (lv' := [(3, .null), (2, .ref (E.2.1 + (k + 5))), (0, .ref (E.2.1 + k)), (1, .int 0)]) hx hb dX5_hearPacket_31 rfl hl (by decide) rfl (fun ls hl => ?_)
    refine lv_aload_nN hx hb dX5_hearPacket_32 rfl (lv_at hl 0 rfl) ?_
    refine lv_ifnullN (tgt := 43) hx hb dX5_hearPacket_33 (by decide) ?_
    exact ret_v B hr hlk hP hS dX5_hearPacket_43 (rfl)
  · skip
    refine lv_aload_n hx hb dX5_hearPacket_0 rfl (lv_at hl 0 rfl) ?_
    refine get5 B hP h 3 (by decide) mw_377 rfl dX5_hearPacket_1 ?_
    refine lv_iload_n hx hb dX5_hearPacket_4 rfl (lv_at hl 1 rfl) ?_
    refine aldNn B hP (lay5 h).2.2.2.2.2.2.1 (lay5 h).2.2.2.2.2.2.2.1 rfl (by decide) dX5_hearPacket_5 ?_
    refine lv_astore_n (lv' := [(2, .ref (E.2.1 + (k + 47))), (0, .ref (E.2.1 + k)), (1, .int 1)]) hx hb dX5_hearPacket_6 rfl hl (by decide) rfl (fun ls hl => ?_)
    refine lv_aload_n hx hb dX5_hearPacket_7 rfl (lv_at hl 0 rfl) ?_
    refine get2 B hP (lay5 h).2.2.2.2.2.2.2.2.2 14 (by decide) mw_317 (v := .int 0) (show some (Value.int (ρ (k + 47) 14)) = some (Value.int 0) from congrArg (fun z => some (Value.int z)) (show ρ (k + 47) 14 = 0 from hF.2.2.2.1)) dX5_hearPacket_8 ?_
    refine lv_if_eq (tgt := 23) hx hb dX5_hearPacket_11 (by decide) (fun _ => ?_) (fun c5 => absurd c5 (by decide))
    refine lv_aload_n hx hb dX5_hearPacket_23 rfl (lv_at hl 0 rfl) ?_
    refine lv_aload_n hx hb dX5_hearPacket_24 rfl (lv_at hl 0 rfl) ?_
    refine get2 B hP (lay5 h).2.2.2.2.2.2.2.2.2 15 (by decide) mw_320 (v := .int (-1)) (show some (Value.int (ρ (k + 47) 15)) = some (Value.int (-1)) from congrArg (fun z => some (Value.int z)) (show ρ (k + 47) 15 = (-1) from hF.2.2.2.2.1)) dX5_hearPacket_25 ?_
    refine call_q (cVt (k := (k + 47)) (av := [.int (-1)]) (rest := []) B hP hS (c_Net_linkAt l E ρ (k + 47) (-1) (lay5 h).2.2.2.2.2.2.2.2.2 (by decide)) lk_RX5_64 (hrecv (ci := 2) B hP (hk_lt (c := 2) (lay5 h).2.2.2.2.2.2.2.2.2 (by decide)) (hcc2 _ _ (lay5 h).2.2.2.2.2.2.2.2.2) rfl) rfl rfl hl.1 (Nat.le_of_ble_eq_true rfl) ⟨Nat.le_of_ble_eq_true rfl, Nat.le_of_ble_eq_true rfl⟩ ⟨Nat.le_of_ble_eq_true rfl, Nat.le_of_ble_eq_true rfl⟩ dX5_hearPacket_28) hS (fun r6 ρ7 H locs q8 hP hS => ?_)
    obtain ⟨rfl, rfl⟩ := q8
    refine W.eq (g2 := F0 m 31 ls [.null]) rfl ?_
    refine lv_astore_nN (lv' := [(3, .null), (2, .ref (E.2.1 + (k + 47))), (0, .ref (E.2.1 + k)), (1, .int 1)]) hx hb dX5_hearPacket_31 rfl hl (by decide) rfl (fun ls hl => ?_)
    refine lv_aload_nN hx hb dX5_hearPacket_32 rfl (lv_at hl 0 rfl) ?_
    refine lv_ifnullN (tgt := 43) hx hb dX5_hearPacket_33 (by decide) ?_
    exact ret_v B hr hlk hP hS dX5_hearPacket_43 (rfl)

set_option maxHeartbeats 4000000 in
set_option maxRecDepth 100000 in
theorem c_tuneAnswer (l : Launch) (E : hE) (ρ : Nat → Nat → Int32) (k : Nat) (n : Int32) (h : hk k = 5) (hF : FrW ρ k) (hn : n = 0 ∨ n = 1) : Met l yX5_tuneAnswer (.code yX5_tuneAnswer cX5_tuneAnswer 4 none :: gw_all) (rmk 1 40) (cPre E ρ [.ref (E.2.1 + k), .int n]) (cV E (fun ρ1 => ρ = ρ1)) 0 0 (hA E) := by
  refine ent (own := RX5) (by decide) rfl (Nat.le_of_ble_eq_true rfl) ?_
  intro p e s m below meth c ls B hr hlk hl hP hS
  have hx := B.1.1
  have hb := B.1.2.1
  have hown := B.1.2.2.2.1
  have hts := B.1.2.2.2.2
  have hl : lv_has ls 4 [(0, .ref (E.2.1 + k)), (1, .int n)] := hl
  rcases hn with rfl | rfl
  · skip
    refine lv_aload_n hx hb dX5_tuneAnswer_0 rfl (lv_at hl 0 rfl) ?_
    refine get5 B hP h 3 (by decide) mw_377 rfl dX5_tuneAnswer_1 ?_
    refine lv_iload_n hx hb dX5_tuneAnswer_4 rfl (lv_at hl 1 rfl) ?_
    refine aldNn B hP (lay5 h).2.2.2.2.2.2.1 (lay5 h).2.2.2.2.2.2.2.1 rfl (by decide) dX5_tuneAnswer_5 ?_
    refine lv_astore_n (lv' := [(2, .ref (E.2.1 + (k + 5))), (0, .ref (E.2.1 + k)), (1, .int 0)]) hx hb dX5_tuneAnswer_6 rfl hl (by decide) rfl (fun ls hl => ?_)
    refine lv_aload_n hx hb dX5_tuneAnswer_7 rfl (lv_at hl 0 rfl) ?_
    refine lv_aload_n hx hb dX5_tuneAnswer_8 rfl (lv_at hl 0 rfl) ?_
    refine get2 B hP (lay5 h).2.2.2.2.2.2.2.2.1 15 (by decide) mw_320 (v := .int (-1)) (show some (Value.int (ρ (k + 5) 15)) = some (Value.int (-1)) from congrArg (fun z => some (Value.int z)) (show ρ (k + 5) 15 = (-1) from hF.1.2.2.2.1)) dX5_tuneAnswer_9 ?_
    refine call_q (cVt (k := (k + 5)) (av := [.int (-1)]) (rest := []) B hP hS (c_Net_linkAt l E ρ (k + 5) (-1) (lay5 h).2.2.2.2.2.2.2.2.1 (by decide)) lk_RX5_64 (hrecv (ci := 2) B hP (hk_lt (c := 2) (lay5 h).2.2.2.2.2.2.2.2.1 (by decide)) (hcc2 _ _ (lay5 h).2.2.2.2.2.2.2.2.1) rfl) rfl rfl hl.1 (Nat.le_of_ble_eq_true rfl) ⟨Nat.le_of_ble_eq_true rfl, Nat.le_of_ble_eq_true rfl⟩ ⟨Nat.le_of_ble_eq_true rfl, Nat.le_of_ble_eq_true rfl⟩ dX5_tuneAnswer_12) hS (fun r1 ρ2 H locs q3 hP hS => ?_)
    obtain ⟨rfl, rfl⟩ := q3
    refine W.eq (g2 := F0 m 15 ls [.null]) rfl ?_
    refine lv_astore_nN (lv' := [(3, .null), (2, .ref (E.2.1 + (k + 5))), (0, .ref (E.2.1 + k)), (1, .int 0)]) hx hb dX5_tuneAnswer_15 rfl hl (by decide) rfl (fun ls hl => ?_)
    refine lv_aload_n hx hb dX5_tuneAnswer_16 rfl (lv_at hl 1 rfl) ?_
    refine lv_iconst (v := (-1)) hx hb dX5_tuneAnswer_17 (by decide) ?_
    refine put2 B hP hS (lay5 h).2.2.2.2.2.2.2.2.1 17 (by decide) mw_325 rfl rfl rfl (fs2_17 E (k + 5) _ _) dX5_tuneAnswer_18 (fun H locs hP hS => ?_)
    rw [up_self ρ (show ρ (k + 5) 17 = (-1) from hF.1.2.2.2.2.1)] at hP
    refine lv_aload_nN hx hb dX5_tuneAnswer_21 rfl (lv_at hl 0 rfl) ?_
    refine lv_ifnullN (tgt := 65) hx hb dX5_tuneAnswer_22 (by decide) ?_
    exact ret_v B hr hlk hP hS dX5_tuneAnswer_65 (rfl)
  · skip
    refine lv_aload_n hx hb dX5_tuneAnswer_0 rfl (lv_at hl 0 rfl) ?_
    refine get5 B hP h 3 (by decide) mw_377 rfl dX5_tuneAnswer_1 ?_
    refine lv_iload_n hx hb dX5_tuneAnswer_4 rfl (lv_at hl 1 rfl) ?_
    refine aldNn B hP (lay5 h).2.2.2.2.2.2.1 (lay5 h).2.2.2.2.2.2.2.1 rfl (by decide) dX5_tuneAnswer_5 ?_
    refine lv_astore_n (lv' := [(2, .ref (E.2.1 + (k + 47))), (0, .ref (E.2.1 + k)), (1, .int 1)]) hx hb dX5_tuneAnswer_6 rfl hl (by decide) rfl (fun ls hl => ?_)
    refine lv_aload_n hx hb dX5_tuneAnswer_7 rfl (lv_at hl 0 rfl) ?_
    refine lv_aload_n hx hb dX5_tuneAnswer_8 rfl (lv_at hl 0 rfl) ?_
    refine get2 B hP (lay5 h).2.2.2.2.2.2.2.2.2 15 (by decide) mw_320 (v := .int (-1)) (show some (Value.int (ρ (k + 47) 15)) = some (Value.int (-1)) from congrArg (fun z => some (Value.int z)) (show ρ (k + 47) 15 = (-1) from hF.2.2.2.2.1)) dX5_tuneAnswer_9 ?_
    refine call_q (cVt (k := (k + 47)) (av := [.int (-1)]) (rest := []) B hP hS (c_Net_linkAt l E ρ (k + 47) (-1) (lay5 h).2.2.2.2.2.2.2.2.2 (by decide)) lk_RX5_64 (hrecv (ci := 2) B hP (hk_lt (c := 2) (lay5 h).2.2.2.2.2.2.2.2.2 (by decide)) (hcc2 _ _ (lay5 h).2.2.2.2.2.2.2.2.2) rfl) rfl rfl hl.1 (Nat.le_of_ble_eq_true rfl) ⟨Nat.le_of_ble_eq_true rfl, Nat.le_of_ble_eq_true rfl⟩ ⟨Nat.le_of_ble_eq_true rfl, Nat.le_of_ble_eq_true rfl⟩ dX5_tuneAnswer_12) hS (fun r4 ρ5 H locs q6 hP hS => ?_)
    obtain ⟨rfl, rfl⟩ := q6
    refine W.eq (g2 := F0 m 15 ls [.null]) rfl ?_
    refine lv_astore_nN (lv' := [(3, .null), (2, .ref (E.2.1 + (k + 47))), (0, .ref (E.2.1 + k)), (1, .int 1)]) hx hb dX5_tuneAnswer_15 rfl hl (by decide) rfl (fun ls hl => ?_)
    refine lv_aload_n hx hb dX5_tuneAnswer_16 rfl (lv_at hl 1 rfl) ?_
    refine lv_iconst (v := (-1)) hx hb dX5_tuneAnswer_17 (by decide) ?_
    refine put2 B hP hS (lay5 h).2.2.2.2.2.2.2.2.2 17 (by decide) mw_325 rfl rfl rfl (fs2_17 E (k + 47) _ _) dX5_tuneAnswer_18 (fun H locs hP hS => ?_)
    rw [up_self ρ (show ρ (k + 47) 17 = (-1) from hF.2.2.2.2.2.1)] at hP
    refine lv_aload_nN hx hb dX5_tuneAnswer_21 rfl (lv_at hl 0 rfl) ?_
    refine lv_ifnullN (tgt := 65) hx hb dX5_tuneAnswer_22 (by decide) ?_
    exact ret_v B hr hlk hP hS dX5_tuneAnswer_65 (rfl)

set_option maxHeartbeats 4000000 in
set_option maxRecDepth 100000 in
theorem c_sendAnswer (l : Launch) (E : hE) (ρ : Nat → Nat → Int32) (k : Nat) (n : Int32) (h : hk k = 5) (hF : FrW ρ k) (hn : n = 0 ∨ n = 1) : Met l yX5_sendAnswer (.code yX5_sendAnswer cX5_sendAnswer 5 none :: gw_all) (rmk 1 40) (cPre E ρ [.ref (E.2.1 + k), .int n]) (cV E (fun ρ1 => ρ = ρ1)) 0 0 (hA E) := by
  refine ent (own := RX5) (by decide) rfl (Nat.le_of_ble_eq_true rfl) ?_
  intro p e s m below meth c ls B hr hlk hl hP hS
  have hx := B.1.1
  have hb := B.1.2.1
  have hown := B.1.2.2.2.1
  have hts := B.1.2.2.2.2
  have hl : lv_has ls 5 [(0, .ref (E.2.1 + k)), (1, .int n)] := hl
  rcases hn with rfl | rfl
  · skip
    refine lv_aload_n hx hb dX5_sendAnswer_0 rfl (lv_at hl 0 rfl) ?_
    refine get5 B hP h 3 (by decide) mw_377 rfl dX5_sendAnswer_1 ?_
    refine lv_iload_n hx hb dX5_sendAnswer_4 rfl (lv_at hl 1 rfl) ?_
    refine aldNn B hP (lay5 h).2.2.2.2.2.2.1 (lay5 h).2.2.2.2.2.2.2.1 rfl (by decide) dX5_sendAnswer_5 ?_
    refine lv_astore_n (lv' := [(2, .ref (E.2.1 + (k + 5))), (0, .ref (E.2.1 + k)), (1, .int 0)]) hx hb dX5_sendAnswer_6 rfl hl (by decide) rfl (fun ls hl => ?_)
    refine lv_aload_n hx hb dX5_sendAnswer_7 rfl (lv_at hl 0 rfl) ?_
    refine lv_aload_n hx hb dX5_sendAnswer_8 rfl (lv_at hl 0 rfl) ?_
    refine get2 B hP (lay5 h).2.2.2.2.2.2.2.2.1 15 (by decide) mw_320 (v := .int (-1)) (show some (Value.int (ρ (k + 5) 15)) = some (Value.int (-1)) from congrArg (fun z => some (Value.int z)) (show ρ (k + 5) 15 = (-1) from hF.1.2.2.2.1)) dX5_sendAnswer_9 ?_
    refine call_q (cVt (k := (k + 5)) (av := [.int (-1)]) (rest := []) B hP hS (c_Net_linkAt l E ρ (k + 5) (-1) (lay5 h).2.2.2.2.2.2.2.2.1 (by decide)) lk_RX5_64 (hrecv (ci := 2) B hP (hk_lt (c := 2) (lay5 h).2.2.2.2.2.2.2.2.1 (by decide)) (hcc2 _ _ (lay5 h).2.2.2.2.2.2.2.2.1) rfl) rfl rfl hl.1 (Nat.le_of_ble_eq_true rfl) ⟨Nat.le_of_ble_eq_true rfl, Nat.le_of_ble_eq_true rfl⟩ ⟨Nat.le_of_ble_eq_true rfl, Nat.le_of_ble_eq_true rfl⟩ dX5_sendAnswer_12) hS (fun r1 ρ2 H locs q3 hP hS => ?_)
    obtain ⟨rfl, rfl⟩ := q3
    refine W.eq (g2 := F0 m 15 ls [.null]) rfl ?_
    refine lv_astore_nN (lv' := [(3, .null), (2, .ref (E.2.1 + (k + 5))), (0, .ref (E.2.1 + k)), (1, .int 0)]) hx hb dX5_sendAnswer_15 rfl hl (by decide) rfl (fun ls hl => ?_)
    refine lv_aload_nN hx hb dX5_sendAnswer_16 rfl (lv_at hl 0 rfl) ?_
    refine lv_ifnullN (tgt := 28) hx hb dX5_sendAnswer_17 (by decide) ?_
    exact ret_v B hr hlk hP hS dX5_sendAnswer_28 (rfl)
  · skip
    refine lv_aload_n hx hb dX5_sendAnswer_0 rfl (lv_at hl 0 rfl) ?_
    refine get5 B hP h 3 (by decide) mw_377 rfl dX5_sendAnswer_1 ?_
    refine lv_iload_n hx hb dX5_sendAnswer_4 rfl (lv_at hl 1 rfl) ?_
    refine aldNn B hP (lay5 h).2.2.2.2.2.2.1 (lay5 h).2.2.2.2.2.2.2.1 rfl (by decide) dX5_sendAnswer_5 ?_
    refine lv_astore_n (lv' := [(2, .ref (E.2.1 + (k + 47))), (0, .ref (E.2.1 + k)), (1, .int 1)]) hx hb dX5_sendAnswer_6 rfl hl (by decide) rfl (fun ls hl => ?_)
    refine lv_aload_n hx hb dX5_sendAnswer_7 rfl (lv_at hl 0 rfl) ?_
    refine lv_aload_n hx hb dX5_sendAnswer_8 rfl (lv_at hl 0 rfl) ?_
    refine get2 B hP (lay5 h).2.2.2.2.2.2.2.2.2 15 (by decide) mw_320 (v := .int (-1)) (show some (Value.int (ρ (k + 47) 15)) = some (Value.int (-1)) from congrArg (fun z => some (Value.int z)) (show ρ (k + 47) 15 = (-1) from hF.2.2.2.2.1)) dX5_sendAnswer_9 ?_
    refine call_q (cVt (k := (k + 47)) (av := [.int (-1)]) (rest := []) B hP hS (c_Net_linkAt l E ρ (k + 47) (-1) (lay5 h).2.2.2.2.2.2.2.2.2 (by decide)) lk_RX5_64 (hrecv (ci := 2) B hP (hk_lt (c := 2) (lay5 h).2.2.2.2.2.2.2.2.2 (by decide)) (hcc2 _ _ (lay5 h).2.2.2.2.2.2.2.2.2) rfl) rfl rfl hl.1 (Nat.le_of_ble_eq_true rfl) ⟨Nat.le_of_ble_eq_true rfl, Nat.le_of_ble_eq_true rfl⟩ ⟨Nat.le_of_ble_eq_true rfl, Nat.le_of_ble_eq_true rfl⟩ dX5_sendAnswer_12) hS (fun r4 ρ5 H locs q6 hP hS => ?_)
    obtain ⟨rfl, rfl⟩ := q6
    refine W.eq (g2 := F0 m 15 ls [.null]) rfl ?_
    refine lv_astore_nN (lv' := [(3, .null), (2, .ref (E.2.1 + (k + 47))), (0, .ref (E.2.1 + k)), (1, .int 1)]) hx hb dX5_sendAnswer_15 rfl hl (by decide) rfl (fun ls hl => ?_)
    refine lv_aload_nN hx hb dX5_sendAnswer_16 rfl (lv_at hl 0 rfl) ?_
    refine lv_ifnullN (tgt := 28) hx hb dX5_sendAnswer_17 (by decide) ?_
    exact ret_v B hr hlk hP hS dX5_sendAnswer_28 (rfl)

set_option maxHeartbeats 4000000 in
set_option maxRecDepth 100000 in
theorem c_endTurn (l : Launch) (E : hE) (ρ : Nat → Nat → Int32) (k x : Nat) (h : hk k = 5) (hx2 : hk x = 2) (h8 : ρ x 8 = 0) : Met l yX5_endTurnOfLinks (.code yX5_endTurnOfLinks cX5_endTurnOfLinks 3 none :: gw_all) (rmk 0 0) (cPre E ρ [.ref (E.2.1 + k), .ref (E.2.1 + x)]) (cV E (fun ρ1 => ρ = ρ1)) 0 0 (hA E) := by
  refine ent (own := RX5) (by decide) rfl (Nat.le_of_ble_eq_true rfl) ?_
  intro p e s m below meth c ls B hr hlk hl hP hS
  have hx := B.1.1
  have hb := B.1.2.1
  have hown := B.1.2.2.2.1
  have hts := B.1.2.2.2.2
  have hl : lv_has ls 3 [(0, .ref (E.2.1 + k)), (1, .ref (E.2.1 + x))] := hl
  refine lv_iconst (v := 0) hx hb dX5_endTurnOfLinks_0 (by decide) ?_
  refine lv_istore_n (lv' := [(2, .int 0), (0, .ref (E.2.1 + k)), (1, .ref (E.2.1 + x))]) hx hb dX5_endTurnOfLinks_1 rfl hl (by decide) rfl (fun ls hl => ?_)
  refine lv_iload_n hx hb dX5_endTurnOfLinks_2 rfl (lv_at hl 0 rfl) ?_
  refine lv_aload_n hx hb dX5_endTurnOfLinks_3 rfl (lv_at hl 2 rfl) ?_
  refine get2 B hP hx2 8 (by decide) mw_305 (v := .int 0) (show some (Value.int (ρ x 8)) = some (Value.int 0) from congrArg (fun z => some (Value.int z)) h8) dX5_endTurnOfLinks_4 ?_
  refine lv_icmp_ge (tgt := 33) hx hb dX5_endTurnOfLinks_7 (by decide) (fun _ => ?_) (fun c1 => absurd c1 (by decide))
  exact ret_v B hr hlk hP hS dX5_endTurnOfLinks_33 (rfl)

theorem lk_RX5_152 : LkV RX5 152 RX5 yX5_changeMaps cX5_changeMaps 4 none 1 := ⟨⟨mw_662, mw_663, mw_664, mw_53, mw_665⟩, by decide +kernel⟩
theorem lk_RX5_155 : LkV RX5 155 RX5 yX5_beginTurnOfLinks cX5_beginTurnOfLinks 4 none 1 := ⟨⟨mw_674, mw_675, mw_676, mw_53, mw_677⟩, by decide +kernel⟩
theorem lk_RX5_159 : LkV RX5 159 RX5 yX5_chooseIn cX5_chooseIn 4 none 1 := ⟨⟨mw_699, mw_700, mw_701, mw_53, mw_702⟩, by decide +kernel⟩
theorem lk_RX5_162 : LkV RX5 162 RX5 yX5_tunePacket cX5_tunePacket 5 none 1 := ⟨⟨mw_715, mw_716, mw_717, mw_53, mw_718⟩, by decide +kernel⟩
theorem lk_RX5_165 : LkV RX5 165 RX5 yX5_sendPacket cX5_sendPacket 5 none 1 := ⟨⟨mw_739, mw_740, mw_741, mw_53, mw_742⟩, by decide +kernel⟩
theorem lk_RX5_168 : LkV RX5 168 RX5 yX5_hearPacket cX5_hearPacket 4 none 1 := ⟨⟨mw_760, mw_761, mw_762, mw_53, mw_763⟩, by decide +kernel⟩
theorem lk_RX5_171 : LkV RX5 171 RX5 yX5_tuneAnswer cX5_tuneAnswer 4 none 1 := ⟨⟨mw_805, mw_806, mw_807, mw_53, mw_808⟩, by decide +kernel⟩
theorem lk_RX5_174 : LkV RX5 174 RX5 yX5_sendAnswer cX5_sendAnswer 5 none 1 := ⟨⟨mw_809, mw_810, mw_811, mw_53, mw_812⟩, by decide +kernel⟩
theorem lk_RX5_177 : LkV RX5 177 RX5 yX5_endTurnOfLinks cX5_endTurnOfLinks 3 none 1 := ⟨⟨mw_825, mw_826, mw_827, mw_53, mw_828⟩, by decide +kernel⟩
set_option maxHeartbeats 4000000 in
set_option maxRecDepth 100000 in
theorem c_goOneTurn (l : Launch) (E : hE) (ρ : Nat → Nat → Int32) (k : Nat) (h : hk k = 5) (hF : FrW ρ k) : Met l yX5_goOneTurn (.code yX5_goOneTurn cX5_goOneTurn 2 none :: gw_all) (rmk 2 80) (cPre E ρ [.ref (E.2.1 + k)]) (cV E (fun ρ1 => ρ1 = up ρ k 5 (ρ k 5 + 2))) 0 0 (hA E) := by
  refine ent (own := RX5) (by decide) rfl (Nat.le_of_ble_eq_true rfl) ?_
  intro p e s m below meth c ls B hr hlk hl hP hS
  have hx := B.1.1
  have hb := B.1.2.1
  have hown := B.1.2.2.2.1
  have hts := B.1.2.2.2.2
  have hl : lv_has ls 2 [(0, .ref (E.2.1 + k))] := hl
  refine lv_iconst (v := 0) hx hb dX5_goOneTurn_0 (by decide) ?_
  refine lv_istore_n (lv' := [(1, .int 0), (0, .ref (E.2.1 + k))]) hx hb dX5_goOneTurn_1 rfl hl (by decide) rfl (fun ls hl => ?_)
  refine lv_iload_n hx hb dX5_goOneTurn_2 rfl (lv_at hl 0 rfl) ?_
  refine lv_iconst (v := 2) hx hb dX5_goOneTurn_3 (by decide) ?_
  refine lv_icmp_ge (tgt := 28) hx hb dX5_goOneTurn_4 (by decide) (fun c1 => absurd c1 (by decide)) (fun _ => ?_)
  refine lv_aload_n hx hb dX5_goOneTurn_7 rfl (lv_at hl 1 rfl) ?_
  refine lv_aload_n hx hb dX5_goOneTurn_8 rfl (lv_at hl 1 rfl) ?_
  refine get5 B hP h 3 (by decide) mw_377 rfl dX5_goOneTurn_9 ?_
  refine lv_iload_n hx hb dX5_goOneTurn_12 rfl (lv_at hl 0 rfl) ?_
  refine aldNn B hP (lay5 h).2.2.2.2.2.2.1 (lay5 h).2.2.2.2.2.2.2.1 rfl (by decide) dX5_goOneTurn_13 ?_
  refine call_v (cVt (k := k) (av := [.ref (E.2.1 + (k + 5))]) (rest := []) B hP hS (c_changeMaps l E ρ k (k + 5) h (lay5 h).2.2.2.2.2.2.2.2.1 (show ρ (k + 5) 8 = 0 from hF.1.2.1) (show ρ (k + 6) 1 = 0 from hF.1.2.2.2.2.2.2.2)) lk_RX5_152 (hrecv (ci := 5) B hP (hk_lt (c := 5) h (by decide)) (hcc5 _ _ h) rfl) rfl rfl hl.1 (Nat.le_of_ble_eq_true rfl) ⟨Nat.le_of_ble_eq_true rfl, Nat.le_of_ble_eq_true rfl⟩ ⟨Nat.le_of_ble_eq_true rfl, Nat.le_of_ble_eq_true rfl⟩ dX5_goOneTurn_14) hS (fun ρ3 H locs q4 hP hS => ?_)
  obtain rfl := q4
  refine lv_aload_n hx hb dX5_goOneTurn_17 rfl (lv_at hl 1 rfl) ?_
  refine lv_iload_n hx hb dX5_goOneTurn_18 rfl (lv_at hl 0 rfl) ?_
  refine call_v (cVt (k := k) (av := [.int 0]) (rest := []) B hP hS (c_beginTurn l E ρ k 0 h hF (Or.inl rfl)) lk_RX5_155 (hrecv (ci := 5) B hP (hk_lt (c := 5) h (by decide)) (hcc5 _ _ h) rfl) rfl rfl hl.1 (Nat.le_of_ble_eq_true rfl) ⟨Nat.le_of_ble_eq_true rfl, Nat.le_of_ble_eq_true rfl⟩ ⟨Nat.le_of_ble_eq_true rfl, Nat.le_of_ble_eq_true rfl⟩ dX5_goOneTurn_19) hS (fun ρ6 H locs q7 hP hS => ?_)
  obtain rfl := q7
  refine lv_iinc (v := 1) (lv' := [(1, .int 1), (0, .ref (E.2.1 + k))]) hx hb dX5_goOneTurn_22 hl (k := 0) rfl (by decide) (by decide) rfl (fun ls hl => ?_)
  refine lv_goto (tgt := 2) hx hb dX5_goOneTurn_25 (by decide) ?_
  refine lv_iload_n hx hb dX5_goOneTurn_2 rfl (lv_at hl 0 rfl) ?_
  refine lv_iconst (v := 2) hx hb dX5_goOneTurn_3 (by decide) ?_
  refine lv_icmp_ge (tgt := 28) hx hb dX5_goOneTurn_4 (by decide) (fun c8 => absurd c8 (by decide)) (fun _ => ?_)
  refine lv_aload_n hx hb dX5_goOneTurn_7 rfl (lv_at hl 1 rfl) ?_
  refine lv_aload_n hx hb dX5_goOneTurn_8 rfl (lv_at hl 1 rfl) ?_
  refine get5 B hP h 3 (by decide) mw_377 rfl dX5_goOneTurn_9 ?_
  refine lv_iload_n hx hb dX5_goOneTurn_12 rfl (lv_at hl 0 rfl) ?_
  refine aldNn B hP (lay5 h).2.2.2.2.2.2.1 (lay5 h).2.2.2.2.2.2.2.1 rfl (by decide) dX5_goOneTurn_13 ?_
  refine call_v (cVt (k := k) (av := [.ref (E.2.1 + (k + 47))]) (rest := []) B hP hS (c_changeMaps l E ρ k (k + 47) h (lay5 h).2.2.2.2.2.2.2.2.2 (show ρ (k + 47) 8 = 0 from hF.2.2.1) (show ρ (k + 48) 1 = 0 from hF.2.2.2.2.2.2.2.2)) lk_RX5_152 (hrecv (ci := 5) B hP (hk_lt (c := 5) h (by decide)) (hcc5 _ _ h) rfl) rfl rfl hl.1 (Nat.le_of_ble_eq_true rfl) ⟨Nat.le_of_ble_eq_true rfl, Nat.le_of_ble_eq_true rfl⟩ ⟨Nat.le_of_ble_eq_true rfl, Nat.le_of_ble_eq_true rfl⟩ dX5_goOneTurn_14) hS (fun ρ10 H locs q11 hP hS => ?_)
  obtain rfl := q11
  refine lv_aload_n hx hb dX5_goOneTurn_17 rfl (lv_at hl 1 rfl) ?_
  refine lv_iload_n hx hb dX5_goOneTurn_18 rfl (lv_at hl 0 rfl) ?_
  refine call_v (cVt (k := k) (av := [.int 1]) (rest := []) B hP hS (c_beginTurn l E ρ k 1 h hF (Or.inr rfl)) lk_RX5_155 (hrecv (ci := 5) B hP (hk_lt (c := 5) h (by decide)) (hcc5 _ _ h) rfl) rfl rfl hl.1 (Nat.le_of_ble_eq_true rfl) ⟨Nat.le_of_ble_eq_true rfl, Nat.le_of_ble_eq_true rfl⟩ ⟨Nat.le_of_ble_eq_true rfl, Nat.le_of_ble_eq_true rfl⟩ dX5_goOneTurn_19) hS (fun ρ13 H locs q14 hP hS => ?_)
  obtain rfl := q14
  refine lv_iinc (v := 2) (lv' := [(1, .int 2), (0, .ref (E.2.1 + k))]) hx hb dX5_goOneTurn_22 hl (k := 0) rfl (by decide) (by decide) rfl (fun ls hl => ?_)
  refine lv_goto (tgt := 2) hx hb dX5_goOneTurn_25 (by decide) ?_
  refine lv_iload_n hx hb dX5_goOneTurn_2 rfl (lv_at hl 0 rfl) ?_
  refine lv_iconst (v := 2) hx hb dX5_goOneTurn_3 (by decide) ?_
  refine lv_icmp_ge (tgt := 28) hx hb dX5_goOneTurn_4 (by decide) (fun _ => ?_) (fun c15 => absurd c15 (by decide))
  refine lv_iconst (v := 0) hx hb dX5_goOneTurn_28 (by decide) ?_
  refine lv_istore_n (lv' := [(1, .int 0), (0, .ref (E.2.1 + k))]) hx hb dX5_goOneTurn_29 rfl hl (by decide) rfl (fun ls hl => ?_)
  refine lv_iload_n hx hb dX5_goOneTurn_30 rfl (lv_at hl 0 rfl) ?_
  refine lv_iconst (v := 2) hx hb dX5_goOneTurn_31 (by decide) ?_
  refine lv_icmp_ge (tgt := 51) hx hb dX5_goOneTurn_32 (by decide) (fun c16 => absurd c16 (by decide)) (fun _ => ?_)
  refine lv_aload_n hx hb dX5_goOneTurn_35 rfl (lv_at hl 1 rfl) ?_
  refine lv_iload_n hx hb dX5_goOneTurn_36 rfl (lv_at hl 0 rfl) ?_
  refine call_v (cVt (k := k) (av := [.int 0]) (rest := []) B hP hS (c_chooseIn l E ρ k 0 h hF (Or.inl rfl)) lk_RX5_159 (hrecv (ci := 5) B hP (hk_lt (c := 5) h (by decide)) (hcc5 _ _ h) rfl) rfl rfl hl.1 (Nat.le_of_ble_eq_true rfl) ⟨Nat.le_of_ble_eq_true rfl, Nat.le_of_ble_eq_true rfl⟩ ⟨Nat.le_of_ble_eq_true rfl, Nat.le_of_ble_eq_true rfl⟩ dX5_goOneTurn_37) hS (fun ρ18 H locs q19 hP hS => ?_)
  obtain rfl := q19
  refine lv_aload_n hx hb dX5_goOneTurn_40 rfl (lv_at hl 1 rfl) ?_
  refine lv_iload_n hx hb dX5_goOneTurn_41 rfl (lv_at hl 0 rfl) ?_
  refine call_v (cVt (k := k) (av := [.int 0]) (rest := []) B hP hS (c_tunePacket l E ρ k 0 h hF (Or.inl rfl)) lk_RX5_162 (hrecv (ci := 5) B hP (hk_lt (c := 5) h (by decide)) (hcc5 _ _ h) rfl) rfl rfl hl.1 (Nat.le_of_ble_eq_true rfl) ⟨Nat.le_of_ble_eq_true rfl, Nat.le_of_ble_eq_true rfl⟩ ⟨Nat.le_of_ble_eq_true rfl, Nat.le_of_ble_eq_true rfl⟩ dX5_goOneTurn_42) hS (fun ρ21 H locs q22 hP hS => ?_)
  obtain rfl := q22
  refine lv_iinc (v := 1) (lv' := [(1, .int 1), (0, .ref (E.2.1 + k))]) hx hb dX5_goOneTurn_45 hl (k := 0) rfl (by decide) (by decide) rfl (fun ls hl => ?_)
  refine lv_goto (tgt := 30) hx hb dX5_goOneTurn_48 (by decide) ?_
  refine lv_iload_n hx hb dX5_goOneTurn_30 rfl (lv_at hl 0 rfl) ?_
  refine lv_iconst (v := 2) hx hb dX5_goOneTurn_31 (by decide) ?_
  refine lv_icmp_ge (tgt := 51) hx hb dX5_goOneTurn_32 (by decide) (fun c23 => absurd c23 (by decide)) (fun _ => ?_)
  refine lv_aload_n hx hb dX5_goOneTurn_35 rfl (lv_at hl 1 rfl) ?_
  refine lv_iload_n hx hb dX5_goOneTurn_36 rfl (lv_at hl 0 rfl) ?_
  refine call_v (cVt (k := k) (av := [.int 1]) (rest := []) B hP hS (c_chooseIn l E ρ k 1 h hF (Or.inr rfl)) lk_RX5_159 (hrecv (ci := 5) B hP (hk_lt (c := 5) h (by decide)) (hcc5 _ _ h) rfl) rfl rfl hl.1 (Nat.le_of_ble_eq_true rfl) ⟨Nat.le_of_ble_eq_true rfl, Nat.le_of_ble_eq_true rfl⟩ ⟨Nat.le_of_ble_eq_true rfl, Nat.le_of_ble_eq_true rfl⟩ dX5_goOneTurn_37) hS (fun ρ25 H locs q26 hP hS => ?_)
  obtain rfl := q26
  refine lv_aload_n hx hb dX5_goOneTurn_40 rfl (lv_at hl 1 rfl) ?_
  refine lv_iload_n hx hb dX5_goOneTurn_41 rfl (lv_at hl 0 rfl) ?_
  refine call_v (cVt (k := k) (av := [.int 1]) (rest := []) B hP hS (c_tunePacket l E ρ k 1 h hF (Or.inr rfl)) lk_RX5_162 (hrecv (ci := 5) B hP (hk_lt (c := 5) h (by decide)) (hcc5 _ _ h) rfl) rfl rfl hl.1 (Nat.le_of_ble_eq_true rfl) ⟨Nat.le_of_ble_eq_true rfl, Nat.le_of_ble_eq_true rfl⟩ ⟨Nat.le_of_ble_eq_true rfl, Nat.le_of_ble_eq_true rfl⟩ dX5_goOneTurn_42) hS (fun ρ28 H locs q29 hP hS => ?_)
  obtain rfl := q29
  refine lv_iinc (v := 2) (lv' := [(1, .int 2), (0, .ref (E.2.1 + k))]) hx hb dX5_goOneTurn_45 hl (k := 0) rfl (by decide) (by decide) rfl (fun ls hl => ?_)
  refine lv_goto (tgt := 30) hx hb dX5_goOneTurn_48 (by decide) ?_
  refine lv_iload_n hx hb dX5_goOneTurn_30 rfl (lv_at hl 0 rfl) ?_
  refine lv_iconst (v := 2) hx hb dX5_goOneTurn_31 (by decide) ?_
  refine lv_icmp_ge (tgt := 51) hx hb dX5_goOneTurn_32 (by decide) (fun _ => ?_) (fun c30 => absurd c30 (by decide))
  refine lv_iconst (v := 0) hx hb dX5_goOneTurn_51 (by decide) ?_
  refine lv_istore_n (lv' := [(1, .int 0), (0, .ref (E.2.1 + k))]) hx hb dX5_goOneTurn_52 rfl hl (by decide) rfl (fun ls hl => ?_)
  refine lv_iload_n hx hb dX5_goOneTurn_53 rfl (lv_at hl 0 rfl) ?_
  refine lv_iconst (v := 2) hx hb dX5_goOneTurn_54 (by decide) ?_
  refine lv_icmp_ge (tgt := 69) hx hb dX5_goOneTurn_55 (by decide) (fun c31 => absurd c31 (by decide)) (fun _ => ?_)
  refine lv_aload_n hx hb dX5_goOneTurn_58 rfl (lv_at hl 1 rfl) ?_
  refine lv_iload_n hx hb dX5_goOneTurn_59 rfl (lv_at hl 0 rfl) ?_
  refine call_v (cVt (k := k) (av := [.int 0]) (rest := []) B hP hS (c_sendPacket l E ρ k 0 h hF (Or.inl rfl)) lk_RX5_165 (hrecv (ci := 5) B hP (hk_lt (c := 5) h (by decide)) (hcc5 _ _ h) rfl) rfl rfl hl.1 (Nat.le_of_ble_eq_true rfl) ⟨Nat.le_of_ble_eq_true rfl, Nat.le_of_ble_eq_true rfl⟩ ⟨Nat.le_of_ble_eq_true rfl, Nat.le_of_ble_eq_true rfl⟩ dX5_goOneTurn_60) hS (fun ρ33 H locs q34 hP hS => ?_)
  obtain rfl := q34
  refine lv_iinc (v := 1) (lv' := [(1, .int 1), (0, .ref (E.2.1 + k))]) hx hb dX5_goOneTurn_63 hl (k := 0) rfl (by decide) (by decide) rfl (fun ls hl => ?_)
  refine lv_goto (tgt := 53) hx hb dX5_goOneTurn_66 (by decide) ?_
  refine lv_iload_n hx hb dX5_goOneTurn_53 rfl (lv_at hl 0 rfl) ?_
  refine lv_iconst (v := 2) hx hb dX5_goOneTurn_54 (by decide) ?_
  refine lv_icmp_ge (tgt := 69) hx hb dX5_goOneTurn_55 (by decide) (fun c35 => absurd c35 (by decide)) (fun _ => ?_)
  refine lv_aload_n hx hb dX5_goOneTurn_58 rfl (lv_at hl 1 rfl) ?_
  refine lv_iload_n hx hb dX5_goOneTurn_59 rfl (lv_at hl 0 rfl) ?_
  refine call_v (cVt (k := k) (av := [.int 1]) (rest := []) B hP hS (c_sendPacket l E ρ k 1 h hF (Or.inr rfl)) lk_RX5_165 (hrecv (ci := 5) B hP (hk_lt (c := 5) h (by decide)) (hcc5 _ _ h) rfl) rfl rfl hl.1 (Nat.le_of_ble_eq_true rfl) ⟨Nat.le_of_ble_eq_true rfl, Nat.le_of_ble_eq_true rfl⟩ ⟨Nat.le_of_ble_eq_true rfl, Nat.le_of_ble_eq_true rfl⟩ dX5_goOneTurn_60) hS (fun ρ37 H locs q38 hP hS => ?_)
  obtain rfl := q38
  refine lv_iinc (v := 2) (lv' := [(1, .int 2), (0, .ref (E.2.1 + k))]) hx hb dX5_goOneTurn_63 hl (k := 0) rfl (by decide) (by decide) rfl (fun ls hl => ?_)
  refine lv_goto (tgt := 53) hx hb dX5_goOneTurn_66 (by decide) ?_
  refine lv_iload_n hx hb dX5_goOneTurn_53 rfl (lv_at hl 0 rfl) ?_
  refine lv_iconst (v := 2) hx hb dX5_goOneTurn_54 (by decide) ?_
  refine lv_icmp_ge (tgt := 69) hx hb dX5_goOneTurn_55 (by decide) (fun _ => ?_) (fun c39 => absurd c39 (by decide))
  refine lv_iconst (v := 0) hx hb dX5_goOneTurn_69 (by decide) ?_
  refine lv_istore_n (lv' := [(1, .int 0), (0, .ref (E.2.1 + k))]) hx hb dX5_goOneTurn_70 rfl hl (by decide) rfl (fun ls hl => ?_)
  refine lv_iload_n hx hb dX5_goOneTurn_71 rfl (lv_at hl 0 rfl) ?_
  refine lv_iconst (v := 2) hx hb dX5_goOneTurn_72 (by decide) ?_
  refine lv_icmp_ge (tgt := 92) hx hb dX5_goOneTurn_73 (by decide) (fun c40 => absurd c40 (by decide)) (fun _ => ?_)
  refine lv_aload_n hx hb dX5_goOneTurn_76 rfl (lv_at hl 1 rfl) ?_
  refine lv_iload_n hx hb dX5_goOneTurn_77 rfl (lv_at hl 0 rfl) ?_
  refine call_v (cVt (k := k) (av := [.int 0]) (rest := []) B hP hS (c_hearPacket l E ρ k 0 h hF (Or.inl rfl)) lk_RX5_168 (hrecv (ci := 5) B hP (hk_lt (c := 5) h (by decide)) (hcc5 _ _ h) rfl) rfl rfl hl.1 (Nat.le_of_ble_eq_true rfl) ⟨Nat.le_of_ble_eq_true rfl, Nat.le_of_ble_eq_true rfl⟩ ⟨Nat.le_of_ble_eq_true rfl, Nat.le_of_ble_eq_true rfl⟩ dX5_goOneTurn_78) hS (fun ρ42 H locs q43 hP hS => ?_)
  obtain rfl := q43
  refine lv_aload_n hx hb dX5_goOneTurn_81 rfl (lv_at hl 1 rfl) ?_
  refine lv_iload_n hx hb dX5_goOneTurn_82 rfl (lv_at hl 0 rfl) ?_
  refine call_v (cVt (k := k) (av := [.int 0]) (rest := []) B hP hS (c_tuneAnswer l E ρ k 0 h hF (Or.inl rfl)) lk_RX5_171 (hrecv (ci := 5) B hP (hk_lt (c := 5) h (by decide)) (hcc5 _ _ h) rfl) rfl rfl hl.1 (Nat.le_of_ble_eq_true rfl) ⟨Nat.le_of_ble_eq_true rfl, Nat.le_of_ble_eq_true rfl⟩ ⟨Nat.le_of_ble_eq_true rfl, Nat.le_of_ble_eq_true rfl⟩ dX5_goOneTurn_83) hS (fun ρ45 H locs q46 hP hS => ?_)
  obtain rfl := q46
  refine lv_iinc (v := 1) (lv' := [(1, .int 1), (0, .ref (E.2.1 + k))]) hx hb dX5_goOneTurn_86 hl (k := 0) rfl (by decide) (by decide) rfl (fun ls hl => ?_)
  refine lv_goto (tgt := 71) hx hb dX5_goOneTurn_89 (by decide) ?_
  refine lv_iload_n hx hb dX5_goOneTurn_71 rfl (lv_at hl 0 rfl) ?_
  refine lv_iconst (v := 2) hx hb dX5_goOneTurn_72 (by decide) ?_
  refine lv_icmp_ge (tgt := 92) hx hb dX5_goOneTurn_73 (by decide) (fun c47 => absurd c47 (by decide)) (fun _ => ?_)
  refine lv_aload_n hx hb dX5_goOneTurn_76 rfl (lv_at hl 1 rfl) ?_
  refine lv_iload_n hx hb dX5_goOneTurn_77 rfl (lv_at hl 0 rfl) ?_
  refine call_v (cVt (k := k) (av := [.int 1]) (rest := []) B hP hS (c_hearPacket l E ρ k 1 h hF (Or.inr rfl)) lk_RX5_168 (hrecv (ci := 5) B hP (hk_lt (c := 5) h (by decide)) (hcc5 _ _ h) rfl) rfl rfl hl.1 (Nat.le_of_ble_eq_true rfl) ⟨Nat.le_of_ble_eq_true rfl, Nat.le_of_ble_eq_true rfl⟩ ⟨Nat.le_of_ble_eq_true rfl, Nat.le_of_ble_eq_true rfl⟩ dX5_goOneTurn_78) hS (fun ρ49 H locs q50 hP hS => ?_)
  obtain rfl := q50
  refine lv_aload_n hx hb dX5_goOneTurn_81 rfl (lv_at hl 1 rfl) ?_
  refine lv_iload_n hx hb dX5_goOneTurn_82 rfl (lv_at hl 0 rfl) ?_
  refine call_v (cVt (k := k) (av := [.int 1]) (rest := []) B hP hS (c_tuneAnswer l E ρ k 1 h hF (Or.inr rfl)) lk_RX5_171 (hrecv (ci := 5) B hP (hk_lt (c := 5) h (by decide)) (hcc5 _ _ h) rfl) rfl rfl hl.1 (Nat.le_of_ble_eq_true rfl) ⟨Nat.le_of_ble_eq_true rfl, Nat.le_of_ble_eq_true rfl⟩ ⟨Nat.le_of_ble_eq_true rfl, Nat.le_of_ble_eq_true rfl⟩ dX5_goOneTurn_83) hS (fun ρ52 H locs q53 hP hS => ?_)
  obtain rfl := q53
  refine lv_iinc (v := 2) (lv' := [(1, .int 2), (0, .ref (E.2.1 + k))]) hx hb dX5_goOneTurn_86 hl (k := 0) rfl (by decide) (by decide) rfl (fun ls hl => ?_)
  refine lv_goto (tgt := 71) hx hb dX5_goOneTurn_89 (by decide) ?_
  refine lv_iload_n hx hb dX5_goOneTurn_71 rfl (lv_at hl 0 rfl) ?_
  refine lv_iconst (v := 2) hx hb dX5_goOneTurn_72 (by decide) ?_
  refine lv_icmp_ge (tgt := 92) hx hb dX5_goOneTurn_73 (by decide) (fun _ => ?_) (fun c54 => absurd c54 (by decide))
  refine lv_iconst (v := 0) hx hb dX5_goOneTurn_92 (by decide) ?_
  refine lv_istore_n (lv' := [(1, .int 0), (0, .ref (E.2.1 + k))]) hx hb dX5_goOneTurn_93 rfl hl (by decide) rfl (fun ls hl => ?_)
  refine lv_iload_n hx hb dX5_goOneTurn_94 rfl (lv_at hl 0 rfl) ?_
  refine lv_iconst (v := 2) hx hb dX5_goOneTurn_95 (by decide) ?_
  refine lv_icmp_ge (tgt := 110) hx hb dX5_goOneTurn_96 (by decide) (fun c55 => absurd c55 (by decide)) (fun _ => ?_)
  refine lv_aload_n hx hb dX5_goOneTurn_99 rfl (lv_at hl 1 rfl) ?_
  refine lv_iload_n hx hb dX5_goOneTurn_100 rfl (lv_at hl 0 rfl) ?_
  refine call_v (cVt (k := k) (av := [.int 0]) (rest := []) B hP hS (c_sendAnswer l E ρ k 0 h hF (Or.inl rfl)) lk_RX5_174 (hrecv (ci := 5) B hP (hk_lt (c := 5) h (by decide)) (hcc5 _ _ h) rfl) rfl rfl hl.1 (Nat.le_of_ble_eq_true rfl) ⟨Nat.le_of_ble_eq_true rfl, Nat.le_of_ble_eq_true rfl⟩ ⟨Nat.le_of_ble_eq_true rfl, Nat.le_of_ble_eq_true rfl⟩ dX5_goOneTurn_101) hS (fun ρ57 H locs q58 hP hS => ?_)
  obtain rfl := q58
  refine lv_iinc (v := 1) (lv' := [(1, .int 1), (0, .ref (E.2.1 + k))]) hx hb dX5_goOneTurn_104 hl (k := 0) rfl (by decide) (by decide) rfl (fun ls hl => ?_)
  refine lv_goto (tgt := 94) hx hb dX5_goOneTurn_107 (by decide) ?_
  refine lv_iload_n hx hb dX5_goOneTurn_94 rfl (lv_at hl 0 rfl) ?_
  refine lv_iconst (v := 2) hx hb dX5_goOneTurn_95 (by decide) ?_
  refine lv_icmp_ge (tgt := 110) hx hb dX5_goOneTurn_96 (by decide) (fun c59 => absurd c59 (by decide)) (fun _ => ?_)
  refine lv_aload_n hx hb dX5_goOneTurn_99 rfl (lv_at hl 1 rfl) ?_
  refine lv_iload_n hx hb dX5_goOneTurn_100 rfl (lv_at hl 0 rfl) ?_
  refine call_v (cVt (k := k) (av := [.int 1]) (rest := []) B hP hS (c_sendAnswer l E ρ k 1 h hF (Or.inr rfl)) lk_RX5_174 (hrecv (ci := 5) B hP (hk_lt (c := 5) h (by decide)) (hcc5 _ _ h) rfl) rfl rfl hl.1 (Nat.le_of_ble_eq_true rfl) ⟨Nat.le_of_ble_eq_true rfl, Nat.le_of_ble_eq_true rfl⟩ ⟨Nat.le_of_ble_eq_true rfl, Nat.le_of_ble_eq_true rfl⟩ dX5_goOneTurn_101) hS (fun ρ61 H locs q62 hP hS => ?_)
  obtain rfl := q62
  refine lv_iinc (v := 2) (lv' := [(1, .int 2), (0, .ref (E.2.1 + k))]) hx hb dX5_goOneTurn_104 hl (k := 0) rfl (by decide) (by decide) rfl (fun ls hl => ?_)
  refine lv_goto (tgt := 94) hx hb dX5_goOneTurn_107 (by decide) ?_
  refine lv_iload_n hx hb dX5_goOneTurn_94 rfl (lv_at hl 0 rfl) ?_
  refine lv_iconst (v := 2) hx hb dX5_goOneTurn_95 (by decide) ?_
  refine lv_icmp_ge (tgt := 110) hx hb dX5_goOneTurn_96 (by decide) (fun _ => ?_) (fun c63 => absurd c63 (by decide))
  refine lv_iconst (v := 0) hx hb dX5_goOneTurn_110 (by decide) ?_
  refine lv_istore_n (lv' := [(1, .int 0), (0, .ref (E.2.1 + k))]) hx hb dX5_goOneTurn_111 rfl hl (by decide) rfl (fun ls hl => ?_)
  refine lv_iload_n hx hb dX5_goOneTurn_112 rfl (lv_at hl 0 rfl) ?_
  refine lv_iconst (v := 2) hx hb dX5_goOneTurn_113 (by decide) ?_
  refine lv_icmp_ge (tgt := 133) hx hb dX5_goOneTurn_114 (by decide) (fun c64 => absurd c64 (by decide)) (fun _ => ?_)
  refine lv_aload_n hx hb dX5_goOneTurn_117 rfl (lv_at hl 1 rfl) ?_
  refine lv_aload_n hx hb dX5_goOneTurn_118 rfl (lv_at hl 1 rfl) ?_
  refine get5 B hP h 3 (by decide) mw_377 rfl dX5_goOneTurn_119 ?_
  refine lv_iload_n hx hb dX5_goOneTurn_122 rfl (lv_at hl 0 rfl) ?_
  refine aldNn B hP (lay5 h).2.2.2.2.2.2.1 (lay5 h).2.2.2.2.2.2.2.1 rfl (by decide) dX5_goOneTurn_123 ?_
  refine call_v (cVt (k := k) (av := [.ref (E.2.1 + (k + 5))]) (rest := []) B hP hS (c_endTurn l E ρ k (k + 5) h (lay5 h).2.2.2.2.2.2.2.2.1 (show ρ (k + 5) 8 = 0 from hF.1.2.1)) lk_RX5_177 (hrecv (ci := 5) B hP (hk_lt (c := 5) h (by decide)) (hcc5 _ _ h) rfl) rfl rfl hl.1 (Nat.le_of_ble_eq_true rfl) ⟨Nat.le_of_ble_eq_true rfl, Nat.le_of_ble_eq_true rfl⟩ ⟨Nat.le_of_ble_eq_true rfl, Nat.le_of_ble_eq_true rfl⟩ dX5_goOneTurn_124) hS (fun ρ66 H locs q67 hP hS => ?_)
  obtain rfl := q67
  refine lv_iinc (v := 1) (lv' := [(1, .int 1), (0, .ref (E.2.1 + k))]) hx hb dX5_goOneTurn_127 hl (k := 0) rfl (by decide) (by decide) rfl (fun ls hl => ?_)
  refine lv_goto (tgt := 112) hx hb dX5_goOneTurn_130 (by decide) ?_
  refine lv_iload_n hx hb dX5_goOneTurn_112 rfl (lv_at hl 0 rfl) ?_
  refine lv_iconst (v := 2) hx hb dX5_goOneTurn_113 (by decide) ?_
  refine lv_icmp_ge (tgt := 133) hx hb dX5_goOneTurn_114 (by decide) (fun c68 => absurd c68 (by decide)) (fun _ => ?_)
  refine lv_aload_n hx hb dX5_goOneTurn_117 rfl (lv_at hl 1 rfl) ?_
  refine lv_aload_n hx hb dX5_goOneTurn_118 rfl (lv_at hl 1 rfl) ?_
  refine get5 B hP h 3 (by decide) mw_377 rfl dX5_goOneTurn_119 ?_
  refine lv_iload_n hx hb dX5_goOneTurn_122 rfl (lv_at hl 0 rfl) ?_
  refine aldNn B hP (lay5 h).2.2.2.2.2.2.1 (lay5 h).2.2.2.2.2.2.2.1 rfl (by decide) dX5_goOneTurn_123 ?_
  refine call_v (cVt (k := k) (av := [.ref (E.2.1 + (k + 47))]) (rest := []) B hP hS (c_endTurn l E ρ k (k + 47) h (lay5 h).2.2.2.2.2.2.2.2.2 (show ρ (k + 47) 8 = 0 from hF.2.2.1)) lk_RX5_177 (hrecv (ci := 5) B hP (hk_lt (c := 5) h (by decide)) (hcc5 _ _ h) rfl) rfl rfl hl.1 (Nat.le_of_ble_eq_true rfl) ⟨Nat.le_of_ble_eq_true rfl, Nat.le_of_ble_eq_true rfl⟩ ⟨Nat.le_of_ble_eq_true rfl, Nat.le_of_ble_eq_true rfl⟩ dX5_goOneTurn_124) hS (fun ρ70 H locs q71 hP hS => ?_)
  obtain rfl := q71
  refine lv_iinc (v := 2) (lv' := [(1, .int 2), (0, .ref (E.2.1 + k))]) hx hb dX5_goOneTurn_127 hl (k := 0) rfl (by decide) (by decide) rfl (fun ls hl => ?_)
  refine lv_goto (tgt := 112) hx hb dX5_goOneTurn_130 (by decide) ?_
  refine lv_iload_n hx hb dX5_goOneTurn_112 rfl (lv_at hl 0 rfl) ?_
  refine lv_iconst (v := 2) hx hb dX5_goOneTurn_113 (by decide) ?_
  refine lv_icmp_ge (tgt := 133) hx hb dX5_goOneTurn_114 (by decide) (fun _ => ?_) (fun c72 => absurd c72 (by decide))
  refine lv_aload_n hx hb dX5_goOneTurn_133 rfl (lv_at hl 1 rfl) ?_
  refine lv_dup hx hb dX5_goOneTurn_134 rfl ?_
  refine get5 B hP h 5 (by decide) mw_381 rfl dX5_goOneTurn_135 ?_
  refine lv_iconst (v := 2) hx hb dX5_goOneTurn_138 (by decide) ?_
  refine lv_iadd hx hb dX5_goOneTurn_139 ?_
  refine put5 B hP hS h 5 (by decide) mw_381 rfl rfl rfl (fs5_5 E k _ _) dX5_goOneTurn_140 (fun H locs hP hS => ?_)
  obtain ⟨ρ73, e74⟩ : ∃ z, z = up ρ k 5 ((ρ k 5) + 2) := ⟨_, rfl⟩
  rw [← e74] at hP
  exact ret_v B hr hlk hP hS dX5_goOneTurn_143 (e74)

theorem lk_RX5_149 : LkV RX5 149 RX5 yX5_goOneTurn cX5_goOneTurn 2 none 0 := ⟨⟨mw_658, mw_659, mw_660, mw_53, mw_661⟩, by decide +kernel⟩
set_option maxHeartbeats 4000000 in
set_option maxRecDepth 100000 in
theorem c_heardInTurns (l : Launch) (E : hE) (ρ : Nat → Nat → Int32) (k N : Nat) (h : hk k = 5) (hF : FrW ρ k) (hN : N < 2 ^ 30) : Met l yX5_heardInTurns (.code yX5_heardInTurns cX5_heardInTurns 3 (some .int) :: gw_all) (rmk 3 120) (cPre E ρ [.ref (E.2.1 + k), .int (nI N)]) (cI E (fun r ρ1 => r = 0 ∧ ∀ k', k' ≠ k → ρ1 k' = ρ k')) 0 0 (hA E) := by
  refine ent (own := RX5) (by decide) rfl (Nat.le_of_ble_eq_true rfl) ?_
  intro p e s m below meth c ls B hr hlk hl hP hS
  have hx := B.1.1
  have hb := B.1.2.1
  have hown := B.1.2.2.2.1
  have hts := B.1.2.2.2.2
  have hl : lv_has ls 3 [(0, .ref (E.2.1 + k)), (1, .int (nI N))] := hl
  refine lv_aload_n hx hb dX5_heardInTurns_0 rfl (lv_at hl 0 rfl) ?_
  refine lv_iconst (v := 0) hx hb dX5_heardInTurns_1 (by decide) ?_
  refine put5 B hP hS h 9 (by decide) mw_389 rfl rfl rfl (fs5_9 E k _ _) dX5_heardInTurns_2 (fun H locs hP hS => ?_)
  obtain ⟨ρ1, e2⟩ : ∃ z, z = up ρ k 9 0 := ⟨_, rfl⟩
  rw [← e2] at hP
  refine lv_iconst (v := 0) hx hb dX5_heardInTurns_5 (by decide) ?_
  refine lv_istore_n (lv' := [(2, .int 0), (0, .ref (E.2.1 + k)), (1, .int (nI N))]) hx hb dX5_heardInTurns_6 rfl hl (by decide) rfl (fun ls hl => ?_)
  have L : ∀ (d j : Nat) (ρ1 : Nat → Nat → Int32) (H : Heap) (locs : List Loc) (ls : Array Slot), j ≤ N → N - j < d → (∀ k', k' ≠ k → ρ1 k' = ρ k') → ρ1 k 9 = 0 → WP E ρ1 H → va_S (hA E) s.heap H locs → lv_has ls 3 [(0, .ref (E.2.1 + k)), (1, .int (nI N)), (2, .int (nI j))] → W p l e (rmk 3 120) s m ([.ref (E.2.1 + k), .int (nI N)] : List Value).toArray below meth c H locs 0 0 (MQ below (cI E (fun r ρ1 => r = 0 ∧ ∀ k', k' ≠ k → ρ1 k' = ρ k')) ([.ref (E.2.1 + k), .int (nI N)] : List Value).toArray s 0 0 (hA E)) (F0 m 7 ls []) := by
    intro d
    induction d with
    | zero => intro j ρ1 H locs ls h1 h2; exact absurd h2 (by omega)
    | succ d ih =>
      intro j ρ1 H locs ls hj hd hQ hz9 hP hS hl
      have hF1 := hF.keep hQ
      refine lv_iload_n hx hb dX5_heardInTurns_7 rfl (lv_at hl 2 rfl) ?_
      refine lv_iload_n hx hb dX5_heardInTurns_8 rfl (lv_at hl 1 rfl) ?_
      refine lv_icmp_ge (tgt := 22) hx hb dX5_heardInTurns_9 (by decide) (fun c3 => ?_) (fun c3 => ?_)
      · skip
        have cN : N ≤ j := (nI_leI (by omega) (by omega)).mp c3
        refine lv_aload_n hx hb dX5_heardInTurns_22 rfl (lv_at hl 0 rfl) ?_
        refine get5 B hP h 9 (by decide) mw_389 (v := .int 0) (show some (Value.int (ρ1 k 9)) = some (Value.int 0) from congrArg (fun z => some (Value.int z)) hz9) dX5_heardInTurns_23 ?_
        exact ret_i B hr hlk hP hS dX5_heardInTurns_26 (⟨rfl, hQ⟩)
      · skip
        have cN : j < N := Nat.not_le.mp (fun z => c3 ((nI_leI (by omega) (by omega)).mpr z))
        refine lv_aload_n hx hb dX5_heardInTurns_12 rfl (lv_at hl 0 rfl) ?_
        refine call_v (cVt (k := k) (av := []) (rest := []) B hP hS (c_goOneTurn l E ρ1 k h hF1) lk_RX5_149 (hrecv (ci := 5) B hP (hk_lt (c := 5) h (by decide)) (hcc5 _ _ h) rfl) rfl rfl hl.1 (Nat.le_of_ble_eq_true rfl) ⟨Nat.le_of_ble_eq_true rfl, Nat.le_of_ble_eq_true rfl⟩ ⟨Nat.le_of_ble_eq_true rfl, Nat.le_of_ble_eq_true rfl⟩ dX5_heardInTurns_13) hS (fun ρ5 H locs q6 hP hS => ?_)
        refine lv_iinc (v := (nI (j + 1))) (lv' := [(2, .int (nI (j + 1))), (0, .ref (E.2.1 + k)), (1, .int (nI N))]) hx hb dX5_heardInTurns_16 hl (k := 2) rfl (nI_1 j) (by decide) rfl (fun ls hl => ?_)
        refine lv_goto (tgt := 7) hx hb dX5_heardInTurns_19 (by decide) ?_
        exact ih (j + 1) ρ5 _ _ ls (by omega) (by omega) (fun k' hk' => by rw [q6, up_ne _ _ _ hk']; exact hQ k' hk') (by rw [q6]; exact up_get_ne (Or.inr (by decide)) hz9) hP hS (lv_sub hl [1, 2, 0] rfl)
  exact L (N + 1) 0 ρ1 _ _ ls (by omega) (by omega) (fun k' hk' => by rw [e2, up_ne _ _ _ hk']) (by rw [e2]; exact up_get_at) hP hS (lv_sub hl [1, 2, 0] rfl)

set_option maxHeartbeats 4000000 in
set_option maxRecDepth 100000 in
theorem c_framesMissed (l : Launch) (E : hE) (ρ : Nat → Nat → Int32) (k : Nat) (h : hk k = 5) (hF : FrW ρ k) : Met l yX5_framesMissed (.code yX5_framesMissed cX5_framesMissed 4 (some .int) :: gw_all) (rmk 0 0) (cPre E ρ [.ref (E.2.1 + k)]) (cI E (fun r ρ1 => ρ = ρ1 ∧ r = 0)) 0 0 (hA E) := by
  refine ent (own := RX5) (by decide) rfl (Nat.le_of_ble_eq_true rfl) ?_
  intro p e s m below meth c ls B hr hlk hl hP hS
  have hx := B.1.1
  have hb := B.1.2.1
  have hown := B.1.2.2.2.1
  have hts := B.1.2.2.2.2
  have hl : lv_has ls 4 [(0, .ref (E.2.1 + k))] := hl
  refine lv_iconst (v := 0) hx hb dX5_framesMissed_0 (by decide) ?_
  refine lv_istore_n (lv' := [(1, .int 0), (0, .ref (E.2.1 + k))]) hx hb dX5_framesMissed_1 rfl hl (by decide) rfl (fun ls hl => ?_)
  refine lv_iconst (v := 0) hx hb dX5_framesMissed_2 (by decide) ?_
  refine lv_istore_n (lv' := [(2, .int 0), (1, .int 0), (0, .ref (E.2.1 + k))]) hx hb dX5_framesMissed_3 rfl hl (by decide) rfl (fun ls hl => ?_)
  refine lv_iload_n hx hb dX5_framesMissed_4 rfl (lv_at hl 0 rfl) ?_
  refine lv_iconst (v := 2) hx hb dX5_framesMissed_5 (by decide) ?_
  refine lv_icmp_ge (tgt := 61) hx hb dX5_framesMissed_6 (by decide) (fun c1 => absurd c1 (by decide)) (fun _ => ?_)
  refine lv_iconst (v := 0) hx hb dX5_framesMissed_9 (by decide) ?_
  refine lv_istore_n (lv' := [(3, .int 0), (2, .int 0), (1, .int 0), (0, .ref (E.2.1 + k))]) hx hb dX5_framesMissed_10 rfl hl (by decide) rfl (fun ls hl => ?_)
  refine lv_iload_n hx hb dX5_framesMissed_11 rfl (lv_at hl 0 rfl) ?_
  refine lv_aload_n hx hb dX5_framesMissed_12 rfl (lv_at hl 3 rfl) ?_
  refine get5 B hP h 3 (by decide) mw_377 rfl dX5_framesMissed_13 ?_
  refine lv_iload_n hx hb dX5_framesMissed_16 rfl (lv_at hl 1 rfl) ?_
  refine aldNn B hP (lay5 h).2.2.2.2.2.2.1 (lay5 h).2.2.2.2.2.2.2.1 rfl (by decide) dX5_framesMissed_17 ?_
  refine get2 B hP (lay5 h).2.2.2.2.2.2.2.2.1 8 (by decide) mw_305 (v := .int 0) (show some (Value.int (ρ (k + 5) 8)) = some (Value.int 0) from congrArg (fun z => some (Value.int z)) (show ρ (k + 5) 8 = 0 from hF.1.2.1)) dX5_framesMissed_18 ?_
  refine lv_icmp_ge (tgt := 55) hx hb dX5_framesMissed_21 (by decide) (fun _ => ?_) (fun c2 => absurd c2 (by decide))
  refine lv_iinc (v := 1) (lv' := [(2, .int 1), (3, .int 0), (1, .int 0), (0, .ref (E.2.1 + k))]) hx hb dX5_framesMissed_55 hl (k := 1) rfl (by decide) (by decide) rfl (fun ls hl => ?_)
  refine lv_goto (tgt := 4) hx hb dX5_framesMissed_58 (by decide) ?_
  refine lv_iload_n hx hb dX5_framesMissed_4 rfl (lv_at hl 0 rfl) ?_
  refine lv_iconst (v := 2) hx hb dX5_framesMissed_5 (by decide) ?_
  refine lv_icmp_ge (tgt := 61) hx hb dX5_framesMissed_6 (by decide) (fun c3 => absurd c3 (by decide)) (fun _ => ?_)
  refine lv_iconst (v := 0) hx hb dX5_framesMissed_9 (by decide) ?_
  refine lv_istore_n (lv' := [(3, .int 0), (2, .int 1), (1, .int 0), (0, .ref (E.2.1 + k))]) hx hb dX5_framesMissed_10 rfl hl (by decide) rfl (fun ls hl => ?_)
  refine lv_iload_n hx hb dX5_framesMissed_11 rfl (lv_at hl 0 rfl) ?_
  refine lv_aload_n hx hb dX5_framesMissed_12 rfl (lv_at hl 3 rfl) ?_
  refine get5 B hP h 3 (by decide) mw_377 rfl dX5_framesMissed_13 ?_
  refine lv_iload_n hx hb dX5_framesMissed_16 rfl (lv_at hl 1 rfl) ?_
  refine aldNn B hP (lay5 h).2.2.2.2.2.2.1 (lay5 h).2.2.2.2.2.2.2.1 rfl (by decide) dX5_framesMissed_17 ?_
  refine get2 B hP (lay5 h).2.2.2.2.2.2.2.2.2 8 (by decide) mw_305 (v := .int 0) (show some (Value.int (ρ (k + 47) 8)) = some (Value.int 0) from congrArg (fun z => some (Value.int z)) (show ρ (k + 47) 8 = 0 from hF.2.2.1)) dX5_framesMissed_18 ?_
  refine lv_icmp_ge (tgt := 55) hx hb dX5_framesMissed_21 (by decide) (fun _ => ?_) (fun c4 => absurd c4 (by decide))
  refine lv_iinc (v := 2) (lv' := [(2, .int 2), (3, .int 0), (1, .int 0), (0, .ref (E.2.1 + k))]) hx hb dX5_framesMissed_55 hl (k := 1) rfl (by decide) (by decide) rfl (fun ls hl => ?_)
  refine lv_goto (tgt := 4) hx hb dX5_framesMissed_58 (by decide) ?_
  refine lv_iload_n hx hb dX5_framesMissed_4 rfl (lv_at hl 0 rfl) ?_
  refine lv_iconst (v := 2) hx hb dX5_framesMissed_5 (by decide) ?_
  refine lv_icmp_ge (tgt := 61) hx hb dX5_framesMissed_6 (by decide) (fun _ => ?_) (fun c5 => absurd c5 (by decide))
  refine lv_iload_n hx hb dX5_framesMissed_61 rfl (lv_at hl 2 rfl) ?_
  exact ret_i B hr hlk hP hS dX5_framesMissed_62 (⟨rfl, rfl⟩)

set_option maxHeartbeats 4000000 in
set_option maxRecDepth 100000 in
theorem c_otherMap (l : Launch) (E : hE) (ρ : Nat → Nat → Int32) (k : Nat) (h : hk k = 5) (hF : FrW ρ k) : Met l yX5_linksOfOtherMap (.code yX5_linksOfOtherMap cX5_linksOfOtherMap 4 (some .int) :: gw_all) (rmk 0 0) (cPre E ρ [.ref (E.2.1 + k)]) (cI E (fun r ρ1 => ρ = ρ1 ∧ r = 0)) 0 0 (hA E) := by
  refine ent (own := RX5) (by decide) rfl (Nat.le_of_ble_eq_true rfl) ?_
  intro p e s m below meth c ls B hr hlk hl hP hS
  have hx := B.1.1
  have hb := B.1.2.1
  have hown := B.1.2.2.2.1
  have hts := B.1.2.2.2.2
  have hl : lv_has ls 4 [(0, .ref (E.2.1 + k))] := hl
  refine lv_iconst (v := 0) hx hb dX5_linksOfOtherMap_0 (by decide) ?_
  refine lv_istore_n (lv' := [(1, .int 0), (0, .ref (E.2.1 + k))]) hx hb dX5_linksOfOtherMap_1 rfl hl (by decide) rfl (fun ls hl => ?_)
  refine lv_iconst (v := 0) hx hb dX5_linksOfOtherMap_2 (by decide) ?_
  refine lv_istore_n (lv' := [(2, .int 0), (1, .int 0), (0, .ref (E.2.1 + k))]) hx hb dX5_linksOfOtherMap_3 rfl hl (by decide) rfl (fun ls hl => ?_)
  refine lv_iload_n hx hb dX5_linksOfOtherMap_4 rfl (lv_at hl 0 rfl) ?_
  refine lv_iconst (v := 2) hx hb dX5_linksOfOtherMap_5 (by decide) ?_
  refine lv_icmp_ge (tgt := 76) hx hb dX5_linksOfOtherMap_6 (by decide) (fun c1 => absurd c1 (by decide)) (fun _ => ?_)
  refine lv_iconst (v := 0) hx hb dX5_linksOfOtherMap_9 (by decide) ?_
  refine lv_istore_n (lv' := [(3, .int 0), (2, .int 0), (1, .int 0), (0, .ref (E.2.1 + k))]) hx hb dX5_linksOfOtherMap_10 rfl hl (by decide) rfl (fun ls hl => ?_)
  refine lv_iload_n hx hb dX5_linksOfOtherMap_11 rfl (lv_at hl 0 rfl) ?_
  refine lv_aload_n hx hb dX5_linksOfOtherMap_12 rfl (lv_at hl 3 rfl) ?_
  refine get5 B hP h 3 (by decide) mw_377 rfl dX5_linksOfOtherMap_13 ?_
  refine lv_iload_n hx hb dX5_linksOfOtherMap_16 rfl (lv_at hl 1 rfl) ?_
  refine aldNn B hP (lay5 h).2.2.2.2.2.2.1 (lay5 h).2.2.2.2.2.2.2.1 rfl (by decide) dX5_linksOfOtherMap_17 ?_
  refine get2 B hP (lay5 h).2.2.2.2.2.2.2.2.1 8 (by decide) mw_305 (v := .int 0) (show some (Value.int (ρ (k + 5) 8)) = some (Value.int 0) from congrArg (fun z => some (Value.int z)) (show ρ (k + 5) 8 = 0 from hF.1.2.1)) dX5_linksOfOtherMap_18 ?_
  refine lv_icmp_ge (tgt := 70) hx hb dX5_linksOfOtherMap_21 (by decide) (fun _ => ?_) (fun c2 => absurd c2 (by decide))
  refine lv_iinc (v := 1) (lv' := [(2, .int 1), (3, .int 0), (1, .int 0), (0, .ref (E.2.1 + k))]) hx hb dX5_linksOfOtherMap_70 hl (k := 1) rfl (by decide) (by decide) rfl (fun ls hl => ?_)
  refine lv_goto (tgt := 4) hx hb dX5_linksOfOtherMap_73 (by decide) ?_
  refine lv_iload_n hx hb dX5_linksOfOtherMap_4 rfl (lv_at hl 0 rfl) ?_
  refine lv_iconst (v := 2) hx hb dX5_linksOfOtherMap_5 (by decide) ?_
  refine lv_icmp_ge (tgt := 76) hx hb dX5_linksOfOtherMap_6 (by decide) (fun c3 => absurd c3 (by decide)) (fun _ => ?_)
  refine lv_iconst (v := 0) hx hb dX5_linksOfOtherMap_9 (by decide) ?_
  refine lv_istore_n (lv' := [(3, .int 0), (2, .int 1), (1, .int 0), (0, .ref (E.2.1 + k))]) hx hb dX5_linksOfOtherMap_10 rfl hl (by decide) rfl (fun ls hl => ?_)
  refine lv_iload_n hx hb dX5_linksOfOtherMap_11 rfl (lv_at hl 0 rfl) ?_
  refine lv_aload_n hx hb dX5_linksOfOtherMap_12 rfl (lv_at hl 3 rfl) ?_
  refine get5 B hP h 3 (by decide) mw_377 rfl dX5_linksOfOtherMap_13 ?_
  refine lv_iload_n hx hb dX5_linksOfOtherMap_16 rfl (lv_at hl 1 rfl) ?_
  refine aldNn B hP (lay5 h).2.2.2.2.2.2.1 (lay5 h).2.2.2.2.2.2.2.1 rfl (by decide) dX5_linksOfOtherMap_17 ?_
  refine get2 B hP (lay5 h).2.2.2.2.2.2.2.2.2 8 (by decide) mw_305 (v := .int 0) (show some (Value.int (ρ (k + 47) 8)) = some (Value.int 0) from congrArg (fun z => some (Value.int z)) (show ρ (k + 47) 8 = 0 from hF.2.2.1)) dX5_linksOfOtherMap_18 ?_
  refine lv_icmp_ge (tgt := 70) hx hb dX5_linksOfOtherMap_21 (by decide) (fun _ => ?_) (fun c4 => absurd c4 (by decide))
  refine lv_iinc (v := 2) (lv' := [(2, .int 2), (3, .int 0), (1, .int 0), (0, .ref (E.2.1 + k))]) hx hb dX5_linksOfOtherMap_70 hl (k := 1) rfl (by decide) (by decide) rfl (fun ls hl => ?_)
  refine lv_goto (tgt := 4) hx hb dX5_linksOfOtherMap_73 (by decide) ?_
  refine lv_iload_n hx hb dX5_linksOfOtherMap_4 rfl (lv_at hl 0 rfl) ?_
  refine lv_iconst (v := 2) hx hb dX5_linksOfOtherMap_5 (by decide) ?_
  refine lv_icmp_ge (tgt := 76) hx hb dX5_linksOfOtherMap_6 (by decide) (fun _ => ?_) (fun c5 => absurd c5 (by decide))
  refine lv_iload_n hx hb dX5_linksOfOtherMap_76 rfl (lv_at hl 2 rfl) ?_
  exact ret_i B hr hlk hP hS dX5_linksOfOtherMap_77 (⟨rfl, rfl⟩)

set_option maxHeartbeats 4000000 in
set_option maxRecDepth 100000 in
theorem c_heardOfAll (l : Launch) (E : hE) (ρ : Nat → Nat → Int32) (k : Nat) (h : hk k = 5) (hF : FrW ρ k) : Met l yX5_heardOfAll (.code yX5_heardOfAll cX5_heardOfAll 4 (some .int) :: gw_all) (rmk 0 0) (cPre E ρ [.ref (E.2.1 + k)]) (cI E (fun r ρ1 => ρ = ρ1 ∧ r = 0)) 0 0 (hA E) := by
  refine ent (own := RX5) (by decide) rfl (Nat.le_of_ble_eq_true rfl) ?_
  intro p e s m below meth c ls B hr hlk hl hP hS
  have hx := B.1.1
  have hb := B.1.2.1
  have hown := B.1.2.2.2.1
  have hts := B.1.2.2.2.2
  have hl : lv_has ls 4 [(0, .ref (E.2.1 + k))] := hl
  refine lv_iconst (v := 0) hx hb dX5_heardOfAll_0 (by decide) ?_
  refine lv_istore_n (lv' := [(1, .int 0), (0, .ref (E.2.1 + k))]) hx hb dX5_heardOfAll_1 rfl hl (by decide) rfl (fun ls hl => ?_)
  refine lv_iconst (v := 0) hx hb dX5_heardOfAll_2 (by decide) ?_
  refine lv_istore_n (lv' := [(2, .int 0), (1, .int 0), (0, .ref (E.2.1 + k))]) hx hb dX5_heardOfAll_3 rfl hl (by decide) rfl (fun ls hl => ?_)
  refine lv_iload_n hx hb dX5_heardOfAll_4 rfl (lv_at hl 0 rfl) ?_
  refine lv_iconst (v := 2) hx hb dX5_heardOfAll_5 (by decide) ?_
  refine lv_icmp_ge (tgt := 79) hx hb dX5_heardOfAll_6 (by decide) (fun c1 => absurd c1 (by decide)) (fun _ => ?_)
  refine lv_iconst (v := 0) hx hb dX5_heardOfAll_9 (by decide) ?_
  refine lv_istore_n (lv' := [(3, .int 0), (2, .int 0), (1, .int 0), (0, .ref (E.2.1 + k))]) hx hb dX5_heardOfAll_10 rfl hl (by decide) rfl (fun ls hl => ?_)
  refine lv_iload_n hx hb dX5_heardOfAll_11 rfl (lv_at hl 0 rfl) ?_
  refine lv_aload_n hx hb dX5_heardOfAll_12 rfl (lv_at hl 3 rfl) ?_
  refine get5 B hP h 3 (by decide) mw_377 rfl dX5_heardOfAll_13 ?_
  refine lv_iload_n hx hb dX5_heardOfAll_16 rfl (lv_at hl 1 rfl) ?_
  refine aldNn B hP (lay5 h).2.2.2.2.2.2.1 (lay5 h).2.2.2.2.2.2.2.1 rfl (by decide) dX5_heardOfAll_17 ?_
  refine get2 B hP (lay5 h).2.2.2.2.2.2.2.2.1 8 (by decide) mw_305 (v := .int 0) (show some (Value.int (ρ (k + 5) 8)) = some (Value.int 0) from congrArg (fun z => some (Value.int z)) (show ρ (k + 5) 8 = 0 from hF.1.2.1)) dX5_heardOfAll_18 ?_
  refine lv_icmp_ge (tgt := 73) hx hb dX5_heardOfAll_21 (by decide) (fun _ => ?_) (fun c2 => absurd c2 (by decide))
  refine lv_iinc (v := 1) (lv' := [(2, .int 1), (3, .int 0), (1, .int 0), (0, .ref (E.2.1 + k))]) hx hb dX5_heardOfAll_73 hl (k := 1) rfl (by decide) (by decide) rfl (fun ls hl => ?_)
  refine lv_goto (tgt := 4) hx hb dX5_heardOfAll_76 (by decide) ?_
  refine lv_iload_n hx hb dX5_heardOfAll_4 rfl (lv_at hl 0 rfl) ?_
  refine lv_iconst (v := 2) hx hb dX5_heardOfAll_5 (by decide) ?_
  refine lv_icmp_ge (tgt := 79) hx hb dX5_heardOfAll_6 (by decide) (fun c3 => absurd c3 (by decide)) (fun _ => ?_)
  refine lv_iconst (v := 0) hx hb dX5_heardOfAll_9 (by decide) ?_
  refine lv_istore_n (lv' := [(3, .int 0), (2, .int 1), (1, .int 0), (0, .ref (E.2.1 + k))]) hx hb dX5_heardOfAll_10 rfl hl (by decide) rfl (fun ls hl => ?_)
  refine lv_iload_n hx hb dX5_heardOfAll_11 rfl (lv_at hl 0 rfl) ?_
  refine lv_aload_n hx hb dX5_heardOfAll_12 rfl (lv_at hl 3 rfl) ?_
  refine get5 B hP h 3 (by decide) mw_377 rfl dX5_heardOfAll_13 ?_
  refine lv_iload_n hx hb dX5_heardOfAll_16 rfl (lv_at hl 1 rfl) ?_
  refine aldNn B hP (lay5 h).2.2.2.2.2.2.1 (lay5 h).2.2.2.2.2.2.2.1 rfl (by decide) dX5_heardOfAll_17 ?_
  refine get2 B hP (lay5 h).2.2.2.2.2.2.2.2.2 8 (by decide) mw_305 (v := .int 0) (show some (Value.int (ρ (k + 47) 8)) = some (Value.int 0) from congrArg (fun z => some (Value.int z)) (show ρ (k + 47) 8 = 0 from hF.2.2.1)) dX5_heardOfAll_18 ?_
  refine lv_icmp_ge (tgt := 73) hx hb dX5_heardOfAll_21 (by decide) (fun _ => ?_) (fun c4 => absurd c4 (by decide))
  refine lv_iinc (v := 2) (lv' := [(2, .int 2), (3, .int 0), (1, .int 0), (0, .ref (E.2.1 + k))]) hx hb dX5_heardOfAll_73 hl (k := 1) rfl (by decide) (by decide) rfl (fun ls hl => ?_)
  refine lv_goto (tgt := 4) hx hb dX5_heardOfAll_76 (by decide) ?_
  refine lv_iload_n hx hb dX5_heardOfAll_4 rfl (lv_at hl 0 rfl) ?_
  refine lv_iconst (v := 2) hx hb dX5_heardOfAll_5 (by decide) ?_
  refine lv_icmp_ge (tgt := 79) hx hb dX5_heardOfAll_6 (by decide) (fun _ => ?_) (fun c5 => absurd c5 (by decide))
  refine lv_iload_n hx hb dX5_heardOfAll_79 rfl (lv_at hl 2 rfl) ?_
  exact ret_i B hr hlk hP hS dX5_heardOfAll_80 (⟨rfl, rfl⟩)
end
section

theorem lay5r : (List.range 1090).all (fun k => !(hk k == 5) || (List.range 89).all (fun r => hk (k + r) == hkW r && decide (k + r < 1076))) = true := by decide +kernel
theorem lay5k {k r : Nat} (h : hk k = 5) (hr : r < 89) : hk (k + r) = hkW r ∧ k + r < 1076 := by
  have q := List.all_eq_true.mp lay5r k (List.mem_range.mpr (hk_lt h (by decide)))
  simp only [h, beq_self_eq_true, Bool.not_true, Bool.false_or] at q
  have q2 := List.all_eq_true.mp q r (List.mem_range.mpr hr)
  simpa using q2
theorem hkW10 : ∀ r, r < 52 → r ≠ 10 → hkW r ≠ 10 := by decide +kernel
theorem r0_ag {k1 k2 r : Nat} (h1 : hk k1 = 5) (h2 : hk k2 = 5) (hr : r < 52) (h10 : r ≠ 10) : r0 (k1 + r) = r0 (k2 + r) := by
  obtain ⟨a1, a2⟩ := lay5k (r := r) h1 (by omega)
  obtain ⟨b1, b2⟩ := lay5k (r := r) h2 (by omega)
  exact r0_kind (a1.trans b1.symm) (by rw [a1]; exact hkW10 r hr h10) (by omega) (by omega)
theorem cpw_self {ρ : Nat → Nat → Int32} {k1 k2 : Nat} (h : ∀ j, ρ k1 j = ρ k2 j) : cpw ρ k1 k2 = ρ := by
  unfold cpw
  rw [up_self ρ (h 4), up_self ρ (h 5), up_self ρ (h 6), up_self ρ (h 7), up_self ρ (h 8)]
theorem FrW.keep4 {ρ ρ' : Nat → Nat → Int32} {k : Nat} (h : FrW ρ k) (h1 : ρ' (k + 5) = ρ (k + 5)) (h2 : ρ' (k + 6) = ρ (k + 6)) (h3 : ρ' (k + 47) = ρ (k + 47)) (h4 : ρ' (k + 48) = ρ (k + 48)) : FrW ρ' k := ⟨h.1.keep h1 h2, h.2.keep h3 h4⟩
theorem tm1 {v : Int32} : tm 1 v ↔ iR v 0 32 ∧ ev v := by
  have e : (1 : Int32).toInt = 1 := rfl
  unfold tm
  rw [e]
  constructor
  · rintro (z | z | z)
    · omega
    · exact z.2
    · omega
  · intro z
    exact Or.inr (Or.inl ⟨rfl, z.1, z.2⟩)
def tmv (w r : Int32) : Prop := (w.toInt = 0 ∧ r = 1) ∨ (w.toInt = 1 ∧ r = 16) ∨ (w.toInt = 2 ∧ r = 2)
theorem tmv_0 {w : Int32} (h : w = 0) : tmv w 1 := Or.inl ⟨by rw [h]; rfl, rfl⟩
theorem tmv_1 {w : Int32} (h : w = 1) : tmv w 16 := Or.inr (Or.inl ⟨by rw [h]; rfl, rfl⟩)
theorem tmv_2 {w v : Int32} (q : tm w v) (h0 : ¬ w = 0) (h1 : ¬ w = 1) : tmv w 2 := by
  have g0 : ¬ w.toInt = 0 := fun z => h0 (Int32.toInt_inj.mp (z.trans rfl))
  have g1 : ¬ w.toInt = 1 := fun z => h1 (Int32.toInt_inj.mp (z.trans rfl))
  rcases q with z | z | z
  · exact absurd z.1 g0
  · exact absurd z.1 g1
  · exact Or.inr (Or.inr ⟨z.1, rfl⟩)
def cnt (w : Int) : Int32 := if w = 2 then 1 else if w = 3 then 16 else if w = 18 then 2 else if 0 ≤ w ∧ w ≤ 19 then 0 else -1
theorem cnt_out {w : Int} (h : w < 0 ∨ 19 < w) : (-1 : Int32) = cnt w := by
  unfold cnt
  rw [if_neg (by omega), if_neg (by omega), if_neg (by omega), if_neg (by omega)]
/-- all cells but the paper's own are new -/
def BS (ρ : Nat → Nat → Int32) : Prop := ∀ k, k ≠ 90 → ρ k = r0 k
theorem BS.F1 {ρ : Nat → Nat → Int32} (h : BS ρ) : FrW ρ 1 := (FrW_r0 (k := 1) (by decide +kernel)).keep4 (h _ (by decide)) (h _ (by decide)) (h _ (by decide)) (h _ (by decide))
theorem BS.F90 {ρ : Nat → Nat → Int32} (h : BS ρ) : FrW ρ 90 := (FrW_r0 (k := 90) (by decide +kernel)).keep4 (h _ (by decide)) (h _ (by decide)) (h _ (by decide)) (h _ (by decide))
theorem BS_r0 : BS r0 := fun _ _ => rfl
theorem dX6_keepForUndo_0 : decode cX6_keepForUndo 0 = .ok (.aload_n 0, 1) := by decide +kernel
theorem dX6_keepForUndo_1 : decode cX6_keepForUndo 1 = .ok (.getfield 27, 3) := by decide +kernel
theorem dX6_keepForUndo_4 : decode cX6_keepForUndo 4 = .ok (.aload_n 0, 1) := by decide +kernel
theorem dX6_keepForUndo_5 : decode cX6_keepForUndo 5 = .ok (.getfield 34, 3) := by decide +kernel
theorem dX6_keepForUndo_8 : decode cX6_keepForUndo 8 = .ok (.aaload, 1) := by decide +kernel
theorem dX6_keepForUndo_9 : decode cX6_keepForUndo 9 = .ok (.aload_n 0, 1) := by decide +kernel
theorem dX6_keepForUndo_10 : decode cX6_keepForUndo 10 = .ok (.getfield 12, 3) := by decide +kernel
theorem dX6_keepForUndo_13 : decode cX6_keepForUndo 13 = .ok (.invokevirtual 219, 3) := by decide +kernel
theorem dX6_keepForUndo_16 : decode cX6_keepForUndo 16 = .ok (.aload_n 0, 1) := by decide +kernel
theorem dX6_keepForUndo_17 : decode cX6_keepForUndo 17 = .ok (.getfield 30, 3) := by decide +kernel
theorem dX6_keepForUndo_20 : decode cX6_keepForUndo 20 = .ok (.aload_n 0, 1) := by decide +kernel
theorem dX6_keepForUndo_21 : decode cX6_keepForUndo 21 = .ok (.getfield 34, 3) := by decide +kernel
theorem dX6_keepForUndo_24 : decode cX6_keepForUndo 24 = .ok (.iload_n 1, 1) := by decide +kernel
theorem dX6_keepForUndo_25 : decode cX6_keepForUndo 25 = .ok (.iastore, 1) := by decide +kernel
theorem dX6_keepForUndo_26 : decode cX6_keepForUndo 26 = .ok (.aload_n 0, 1) := by decide +kernel
theorem dX6_keepForUndo_27 : decode cX6_keepForUndo 27 = .ok (.aload_n 0, 1) := by decide +kernel
theorem dX6_keepForUndo_28 : decode cX6_keepForUndo 28 = .ok (.getfield 34, 3) := by decide +kernel
theorem dX6_keepForUndo_31 : decode cX6_keepForUndo 31 = .ok (.iconst 1, 1) := by decide +kernel
theorem dX6_keepForUndo_32 : decode cX6_keepForUndo 32 = .ok (.iadd, 1) := by decide +kernel
theorem dX6_keepForUndo_33 : decode cX6_keepForUndo 33 = .ok (.bipush 8, 2) := by decide +kernel
theorem dX6_keepForUndo_35 : decode cX6_keepForUndo 35 = .ok (.irem, 1) := by decide +kernel
theorem dX6_keepForUndo_36 : decode cX6_keepForUndo 36 = .ok (.putfield 34, 3) := by decide +kernel
theorem dX6_keepForUndo_39 : decode cX6_keepForUndo 39 = .ok (.aload_n 0, 1) := by decide +kernel
theorem dX6_keepForUndo_40 : decode cX6_keepForUndo 40 = .ok (.aload_n 0, 1) := by decide +kernel
theorem dX6_keepForUndo_41 : decode cX6_keepForUndo 41 = .ok (.getfield 38, 3) := by decide +kernel
theorem dX6_keepForUndo_44 : decode cX6_keepForUndo 44 = .ok (.iconst 1, 1) := by decide +kernel
theorem dX6_keepForUndo_45 : decode cX6_keepForUndo 45 = .ok (.iadd, 1) := by decide +kernel
theorem dX6_keepForUndo_46 : decode cX6_keepForUndo 46 = .ok (.bipush 8, 2) := by decide +kernel
theorem dX6_keepForUndo_48 : decode cX6_keepForUndo 48 = .ok (.invokestatic 388, 3) := by decide +kernel
theorem dX6_keepForUndo_51 : decode cX6_keepForUndo 51 = .ok (.putfield 38, 3) := by decide +kernel
theorem dX6_keepForUndo_54 : decode cX6_keepForUndo 54 = .ok (.return_, 1) := by decide +kernel
theorem dX6_radio_0 : decode cX6_radio 0 = .ok (.iload_n 1, 1) := by decide +kernel
theorem dX6_radio_1 : decode cX6_radio 1 = .ok (.iconst 0, 1) := by decide +kernel
theorem dX6_radio_2 : decode cX6_radio 2 = .ok (.ldc 53, 2) := by decide +kernel
theorem dX6_radio_4 : decode cX6_radio 4 = .ok (.invokestatic 54, 3) := by decide +kernel
theorem dX6_radio_7 : decode cX6_radio 7 = .ok (.ifCond .ne 9, 3) := by decide +kernel
theorem dX6_radio_10 : decode cX6_radio 10 = .ok (.aload_n 0, 1) := by decide +kernel
theorem dX6_radio_11 : decode cX6_radio 11 = .ok (.iconst (-1), 1) := by decide +kernel
theorem dX6_radio_12 : decode cX6_radio 12 = .ok (.invokevirtual 58, 3) := by decide +kernel
theorem dX6_radio_15 : decode cX6_radio 15 = .ok (.ireturn, 1) := by decide +kernel
theorem dX6_radio_16 : decode cX6_radio 16 = .ok (.aload_n 0, 1) := by decide +kernel
theorem dX6_radio_17 : decode cX6_radio 17 = .ok (.getfield 12, 3) := by decide +kernel
theorem dX6_radio_20 : decode cX6_radio 20 = .ok (.getfield 62, 3) := by decide +kernel
theorem dX6_radio_23 : decode cX6_radio 23 = .ok (.bipush 6, 2) := by decide +kernel
theorem dX6_radio_25 : decode cX6_radio 25 = .ok (.if_icmp .lt 10, 3) := by decide +kernel
theorem dX6_radio_28 : decode cX6_radio 28 = .ok (.aload_n 0, 1) := by decide +kernel
theorem dX6_radio_29 : decode cX6_radio 29 = .ok (.bipush (-5), 2) := by decide +kernel
theorem dX6_radio_31 : decode cX6_radio 31 = .ok (.invokevirtual 58, 3) := by decide +kernel
theorem dX6_radio_34 : decode cX6_radio 34 = .ok (.ireturn, 1) := by decide +kernel
theorem dX6_radio_35 : decode cX6_radio 35 = .ok (.aload_n 0, 1) := by decide +kernel
theorem dX6_radio_36 : decode cX6_radio 36 = .ok (.iconst 0, 1) := by decide +kernel
theorem dX6_radio_37 : decode cX6_radio 37 = .ok (.invokevirtual 65, 3) := by decide +kernel
theorem dX6_radio_40 : decode cX6_radio 40 = .ok (.aload_n 0, 1) := by decide +kernel
theorem dX6_radio_41 : decode cX6_radio 41 = .ok (.getfield 12, 3) := by decide +kernel
theorem dX6_radio_44 : decode cX6_radio 44 = .ok (.getfield 69, 3) := by decide +kernel
theorem dX6_radio_47 : decode cX6_radio 47 = .ok (.aload_n 0, 1) := by decide +kernel
theorem dX6_radio_48 : decode cX6_radio 48 = .ok (.getfield 12, 3) := by decide +kernel
theorem dX6_radio_51 : decode cX6_radio 51 = .ok (.getfield 62, 3) := by decide +kernel
theorem dX6_radio_54 : decode cX6_radio 54 = .ok (.iload_n 1, 1) := by decide +kernel
theorem dX6_radio_55 : decode cX6_radio 55 = .ok (.iastore, 1) := by decide +kernel
theorem dX6_radio_56 : decode cX6_radio 56 = .ok (.aload_n 0, 1) := by decide +kernel
theorem dX6_radio_57 : decode cX6_radio 57 = .ok (.getfield 12, 3) := by decide +kernel
theorem dX6_radio_60 : decode cX6_radio 60 = .ok (.dup, 1) := by decide +kernel
theorem dX6_radio_61 : decode cX6_radio 61 = .ok (.getfield 62, 3) := by decide +kernel
theorem dX6_radio_64 : decode cX6_radio 64 = .ok (.iconst 1, 1) := by decide +kernel
theorem dX6_radio_65 : decode cX6_radio 65 = .ok (.iadd, 1) := by decide +kernel
theorem dX6_radio_66 : decode cX6_radio 66 = .ok (.putfield 62, 3) := by decide +kernel
theorem dX6_radio_69 : decode cX6_radio 69 = .ok (.aload_n 0, 1) := by decide +kernel
theorem dX6_radio_70 : decode cX6_radio 70 = .ok (.aload_n 0, 1) := by decide +kernel
theorem dX6_radio_71 : decode cX6_radio 71 = .ok (.getfield 12, 3) := by decide +kernel
theorem dX6_radio_74 : decode cX6_radio 74 = .ok (.getfield 62, 3) := by decide +kernel
theorem dX6_radio_77 : decode cX6_radio 77 = .ok (.iconst 1, 1) := by decide +kernel
theorem dX6_radio_78 : decode cX6_radio 78 = .ok (.isub, 1) := by decide +kernel
theorem dX6_radio_79 : decode cX6_radio 79 = .ok (.invokevirtual 72, 3) := by decide +kernel
theorem dX6_radio_82 : decode cX6_radio 82 = .ok (.ireturn, 1) := by decide +kernel
theorem dX6_net_0 : decode cX6_net 0 = .ok (.iload_n 1, 1) := by decide +kernel
theorem dX6_net_1 : decode cX6_net 1 = .ok (.iconst 0, 1) := by decide +kernel
theorem dX6_net_2 : decode cX6_net 2 = .ok (.iconst 1, 1) := by decide +kernel
theorem dX6_net_3 : decode cX6_net 3 = .ok (.invokestatic 54, 3) := by decide +kernel
theorem dX6_net_6 : decode cX6_net 6 = .ok (.ifCond .eq 13, 3) := by decide +kernel
theorem dX6_net_9 : decode cX6_net 9 = .ok (.iload_n 3, 1) := by decide +kernel
theorem dX6_net_10 : decode cX6_net 10 = .ok (.iconst 0, 1) := by decide +kernel
theorem dX6_net_11 : decode cX6_net 11 = .ok (.ldc 75, 2) := by decide +kernel
theorem dX6_net_13 : decode cX6_net 13 = .ok (.invokestatic 54, 3) := by decide +kernel
theorem dX6_net_16 : decode cX6_net 16 = .ok (.ifCond .ne 9, 3) := by decide +kernel
theorem dX6_net_19 : decode cX6_net 19 = .ok (.aload_n 0, 1) := by decide +kernel
theorem dX6_net_20 : decode cX6_net 20 = .ok (.iconst (-1), 1) := by decide +kernel
theorem dX6_net_21 : decode cX6_net 21 = .ok (.invokevirtual 58, 3) := by decide +kernel
theorem dX6_net_24 : decode cX6_net 24 = .ok (.ireturn, 1) := by decide +kernel
theorem dX6_net_25 : decode cX6_net 25 = .ok (.aload_n 0, 1) := by decide +kernel
theorem dX6_net_26 : decode cX6_net 26 = .ok (.getfield 12, 3) := by decide +kernel
theorem dX6_net_29 : decode cX6_net 29 = .ok (.iload_n 2, 1) := by decide +kernel
theorem dX6_net_30 : decode cX6_net 30 = .ok (.invokevirtual 76, 3) := by decide +kernel
theorem dX6_net_33 : decode cX6_net 33 = .ok (.ifCond .ne 10, 3) := by decide +kernel
theorem dX6_net_36 : decode cX6_net 36 = .ok (.aload_n 0, 1) := by decide +kernel
theorem dX6_net_37 : decode cX6_net 37 = .ok (.bipush (-2), 2) := by decide +kernel
theorem dX6_net_39 : decode cX6_net 39 = .ok (.invokevirtual 58, 3) := by decide +kernel
theorem dX6_net_42 : decode cX6_net 42 = .ok (.ireturn, 1) := by decide +kernel
theorem dX6_net_43 : decode cX6_net 43 = .ok (.aload_n 0, 1) := by decide +kernel
theorem dX6_net_44 : decode cX6_net 44 = .ok (.getfield 12, 3) := by decide +kernel
theorem dX6_net_47 : decode cX6_net 47 = .ok (.getfield 80, 3) := by decide +kernel
theorem dX6_net_50 : decode cX6_net 50 = .ok (.iload_n 1, 1) := by decide +kernel
theorem dX6_net_51 : decode cX6_net 51 = .ok (.aaload, 1) := by decide +kernel
theorem dX6_net_52 : decode cX6_net 52 = .ok (.getfield 84, 3) := by decide +kernel
theorem dX6_net_55 : decode cX6_net 55 = .ok (.iconst (-1), 1) := by decide +kernel
theorem dX6_net_56 : decode cX6_net 56 = .ok (.if_icmp .ne 21, 3) := by decide +kernel
theorem dX6_net_59 : decode cX6_net 59 = .ok (.aload_n 0, 1) := by decide +kernel
theorem dX6_net_60 : decode cX6_net 60 = .ok (.getfield 12, 3) := by decide +kernel
theorem dX6_net_63 : decode cX6_net 63 = .ok (.getfield 80, 3) := by decide +kernel
theorem dX6_net_66 : decode cX6_net 66 = .ok (.iconst 1, 1) := by decide +kernel
theorem dX6_net_67 : decode cX6_net 67 = .ok (.iload_n 1, 1) := by decide +kernel
theorem dX6_net_68 : decode cX6_net 68 = .ok (.isub, 1) := by decide +kernel
theorem dX6_net_69 : decode cX6_net 69 = .ok (.aaload, 1) := by decide +kernel
theorem dX6_net_70 : decode cX6_net 70 = .ok (.getfield 84, 3) := by decide +kernel
theorem dX6_net_73 : decode cX6_net 73 = .ok (.iload_n 2, 1) := by decide +kernel
theorem dX6_net_74 : decode cX6_net 74 = .ok (.if_icmp .ne 10, 3) := by decide +kernel
theorem dX6_net_77 : decode cX6_net 77 = .ok (.aload_n 0, 1) := by decide +kernel
theorem dX6_net_78 : decode cX6_net 78 = .ok (.bipush (-4), 2) := by decide +kernel
theorem dX6_net_80 : decode cX6_net 80 = .ok (.invokevirtual 58, 3) := by decide +kernel
theorem dX6_net_83 : decode cX6_net 83 = .ok (.ireturn, 1) := by decide +kernel
theorem dX6_net_84 : decode cX6_net 84 = .ok (.aload_n 0, 1) := by decide +kernel
theorem dX6_net_85 : decode cX6_net 85 = .ok (.iconst 1, 1) := by decide +kernel
theorem dX6_net_86 : decode cX6_net 86 = .ok (.invokevirtual 65, 3) := by decide +kernel
theorem dX6_net_89 : decode cX6_net 89 = .ok (.aload_n 0, 1) := by decide +kernel
theorem dX6_net_90 : decode cX6_net 90 = .ok (.getfield 12, 3) := by decide +kernel
theorem dX6_net_93 : decode cX6_net 93 = .ok (.getfield 80, 3) := by decide +kernel
theorem dX6_net_96 : decode cX6_net 96 = .ok (.iload_n 1, 1) := by decide +kernel
theorem dX6_net_97 : decode cX6_net 97 = .ok (.aaload, 1) := by decide +kernel
theorem dX6_net_98 : decode cX6_net 98 = .ok (.iload_n 2, 1) := by decide +kernel
theorem dX6_net_99 : decode cX6_net 99 = .ok (.putfield 84, 3) := by decide +kernel
theorem dX6_net_102 : decode cX6_net 102 = .ok (.aload_n 0, 1) := by decide +kernel
theorem dX6_net_103 : decode cX6_net 103 = .ok (.getfield 12, 3) := by decide +kernel
theorem dX6_net_106 : decode cX6_net 106 = .ok (.getfield 80, 3) := by decide +kernel
theorem dX6_net_109 : decode cX6_net 109 = .ok (.iload_n 1, 1) := by decide +kernel
theorem dX6_net_110 : decode cX6_net 110 = .ok (.aaload, 1) := by decide +kernel
theorem dX6_net_111 : decode cX6_net 111 = .ok (.iload_n 3, 1) := by decide +kernel
theorem dX6_net_112 : decode cX6_net 112 = .ok (.putfield 89, 3) := by decide +kernel
theorem dX6_net_115 : decode cX6_net 115 = .ok (.aload_n 0, 1) := by decide +kernel
theorem dX6_net_116 : decode cX6_net 116 = .ok (.aload_n 0, 1) := by decide +kernel
theorem dX6_net_117 : decode cX6_net 117 = .ok (.getfield 12, 3) := by decide +kernel
theorem dX6_net_120 : decode cX6_net 120 = .ok (.getfield 80, 3) := by decide +kernel
theorem dX6_net_123 : decode cX6_net 123 = .ok (.iload_n 1, 1) := by decide +kernel
theorem dX6_net_124 : decode cX6_net 124 = .ok (.aaload, 1) := by decide +kernel
theorem dX6_net_125 : decode cX6_net 125 = .ok (.getfield 92, 3) := by decide +kernel
theorem dX6_net_128 : decode cX6_net 128 = .ok (.invokevirtual 72, 3) := by decide +kernel
theorem dX6_net_131 : decode cX6_net 131 = .ok (.ireturn, 1) := by decide +kernel
theorem dX6_join_0 : decode cX6_join 0 = .ok (.aload_n 0, 1) := by decide +kernel
theorem dX6_join_1 : decode cX6_join 1 = .ok (.getfield 12, 3) := by decide +kernel
theorem dX6_join_4 : decode cX6_join 4 = .ok (.iload_n 1, 1) := by decide +kernel
theorem dX6_join_5 : decode cX6_join 5 = .ok (.invokevirtual 95, 3) := by decide +kernel
theorem dX6_join_8 : decode cX6_join 8 = .ok (.astore_n 3, 1) := by decide +kernel
theorem dX6_join_9 : decode cX6_join 9 = .ok (.aload_n 3, 1) := by decide +kernel
theorem dX6_join_10 : decode cX6_join 10 = .ok (.ifnull 14, 3) := by decide +kernel
theorem dX6_join_13 : decode cX6_join 13 = .ok (.aload_n 0, 1) := by decide +kernel
theorem dX6_join_14 : decode cX6_join 14 = .ok (.getfield 12, 3) := by decide +kernel
theorem dX6_join_17 : decode cX6_join 17 = .ok (.iload_n 2, 1) := by decide +kernel
theorem dX6_join_18 : decode cX6_join 18 = .ok (.invokevirtual 76, 3) := by decide +kernel
theorem dX6_join_21 : decode cX6_join 21 = .ok (.ifCond .ne 10, 3) := by decide +kernel
theorem dX6_join_24 : decode cX6_join 24 = .ok (.aload_n 0, 1) := by decide +kernel
theorem dX6_join_25 : decode cX6_join 25 = .ok (.bipush (-2), 2) := by decide +kernel
theorem dX6_join_27 : decode cX6_join 27 = .ok (.invokevirtual 58, 3) := by decide +kernel
theorem dX6_join_30 : decode cX6_join 30 = .ok (.ireturn, 1) := by decide +kernel
theorem dX6_join_31 : decode cX6_join 31 = .ok (.aload_n 3, 1) := by decide +kernel
theorem dX6_join_32 : decode cX6_join 32 = .ok (.iload_n 2, 1) := by decide +kernel
theorem dX6_join_33 : decode cX6_join 33 = .ok (.invokevirtual 99, 3) := by decide +kernel
theorem dX6_join_36 : decode cX6_join 36 = .ok (.ifCond .eq 10, 3) := by decide +kernel
theorem dX6_join_39 : decode cX6_join 39 = .ok (.aload_n 0, 1) := by decide +kernel
theorem dX6_join_40 : decode cX6_join 40 = .ok (.bipush (-4), 2) := by decide +kernel
theorem dX6_join_42 : decode cX6_join 42 = .ok (.invokevirtual 58, 3) := by decide +kernel
theorem dX6_join_45 : decode cX6_join 45 = .ok (.ireturn, 1) := by decide +kernel
theorem dX6_join_46 : decode cX6_join 46 = .ok (.aload_n 3, 1) := by decide +kernel
theorem dX6_join_47 : decode cX6_join 47 = .ok (.getfield 92, 3) := by decide +kernel
theorem dX6_join_50 : decode cX6_join 50 = .ok (.iconst 4, 1) := by decide +kernel
theorem dX6_join_51 : decode cX6_join 51 = .ok (.if_icmp .lt 10, 3) := by decide +kernel
theorem dX6_join_54 : decode cX6_join 54 = .ok (.aload_n 0, 1) := by decide +kernel
theorem dX6_join_55 : decode cX6_join 55 = .ok (.bipush (-5), 2) := by decide +kernel
theorem dX6_join_57 : decode cX6_join 57 = .ok (.invokevirtual 58, 3) := by decide +kernel
theorem dX6_join_60 : decode cX6_join 60 = .ok (.ireturn, 1) := by decide +kernel
theorem dX6_join_61 : decode cX6_join 61 = .ok (.aload_n 0, 1) := by decide +kernel
theorem dX6_join_62 : decode cX6_join 62 = .ok (.iconst 2, 1) := by decide +kernel
theorem dX6_join_63 : decode cX6_join 63 = .ok (.invokevirtual 65, 3) := by decide +kernel
theorem dX6_join_66 : decode cX6_join 66 = .ok (.aload_n 3, 1) := by decide +kernel
theorem dX6_join_67 : decode cX6_join 67 = .ok (.iload_n 2, 1) := by decide +kernel
theorem dX6_join_68 : decode cX6_join 68 = .ok (.aload_n 0, 1) := by decide +kernel
theorem dX6_join_69 : decode cX6_join 69 = .ok (.getfield 12, 3) := by decide +kernel
theorem dX6_join_72 : decode cX6_join 72 = .ok (.getfield 102, 3) := by decide +kernel
theorem dX6_join_75 : decode cX6_join 75 = .ok (.invokevirtual 105, 3) := by decide +kernel
theorem dX6_join_78 : decode cX6_join 78 = .ok (.aload_n 0, 1) := by decide +kernel
theorem dX6_join_79 : decode cX6_join 79 = .ok (.aload_n 3, 1) := by decide +kernel
theorem dX6_join_80 : decode cX6_join 80 = .ok (.getfield 92, 3) := by decide +kernel
theorem dX6_join_83 : decode cX6_join 83 = .ok (.iconst 1, 1) := by decide +kernel
theorem dX6_join_84 : decode cX6_join 84 = .ok (.isub, 1) := by decide +kernel
theorem dX6_join_85 : decode cX6_join 85 = .ok (.invokevirtual 72, 3) := by decide +kernel
theorem dX6_join_88 : decode cX6_join 88 = .ok (.ireturn, 1) := by decide +kernel
theorem dX6_leave_0 : decode cX6_leave 0 = .ok (.aload_n 0, 1) := by decide +kernel
theorem dX6_leave_1 : decode cX6_leave 1 = .ok (.getfield 12, 3) := by decide +kernel
theorem dX6_leave_4 : decode cX6_leave 4 = .ok (.iload_n 1, 1) := by decide +kernel
theorem dX6_leave_5 : decode cX6_leave 5 = .ok (.invokevirtual 95, 3) := by decide +kernel
theorem dX6_leave_8 : decode cX6_leave 8 = .ok (.astore_n 3, 1) := by decide +kernel
theorem dX6_leave_9 : decode cX6_leave 9 = .ok (.aload_n 3, 1) := by decide +kernel
theorem dX6_leave_10 : decode cX6_leave 10 = .ok (.ifnull 11, 3) := by decide +kernel
theorem dX6_leave_13 : decode cX6_leave 13 = .ok (.aload_n 3, 1) := by decide +kernel
theorem dX6_leave_14 : decode cX6_leave 14 = .ok (.iload_n 2, 1) := by decide +kernel
theorem dX6_leave_15 : decode cX6_leave 15 = .ok (.invokevirtual 109, 3) := by decide +kernel
theorem dX6_leave_18 : decode cX6_leave 18 = .ok (.ifnonnull 10, 3) := by decide +kernel
theorem dX6_leave_21 : decode cX6_leave 21 = .ok (.aload_n 0, 1) := by decide +kernel
theorem dX6_leave_22 : decode cX6_leave 22 = .ok (.bipush (-2), 2) := by decide +kernel
theorem dX6_leave_24 : decode cX6_leave 24 = .ok (.invokevirtual 58, 3) := by decide +kernel
theorem dX6_leave_27 : decode cX6_leave 27 = .ok (.ireturn, 1) := by decide +kernel
theorem dX6_leave_28 : decode cX6_leave 28 = .ok (.aload_n 0, 1) := by decide +kernel
theorem dX6_leave_29 : decode cX6_leave 29 = .ok (.iconst 3, 1) := by decide +kernel
theorem dX6_leave_30 : decode cX6_leave 30 = .ok (.invokevirtual 65, 3) := by decide +kernel
theorem dX6_leave_33 : decode cX6_leave 33 = .ok (.aload_n 3, 1) := by decide +kernel
theorem dX6_leave_34 : decode cX6_leave 34 = .ok (.iload_n 2, 1) := by decide +kernel
theorem dX6_leave_35 : decode cX6_leave 35 = .ok (.invokevirtual 113, 3) := by decide +kernel
theorem dX6_leave_38 : decode cX6_leave 38 = .ok (.aload_n 0, 1) := by decide +kernel
theorem dX6_leave_39 : decode cX6_leave 39 = .ok (.aload_n 3, 1) := by decide +kernel
theorem dX6_leave_40 : decode cX6_leave 40 = .ok (.getfield 92, 3) := by decide +kernel
theorem dX6_leave_43 : decode cX6_leave 43 = .ok (.invokevirtual 72, 3) := by decide +kernel
theorem dX6_leave_46 : decode cX6_leave 46 = .ok (.ireturn, 1) := by decide +kernel
theorem dX6_noise_0 : decode cX6_noise 0 = .ok (.iload_n 1, 1) := by decide +kernel
theorem dX6_noise_1 : decode cX6_noise 1 = .ok (.iconst 0, 1) := by decide +kernel
theorem dX6_noise_2 : decode cX6_noise 2 = .ok (.bipush 22, 2) := by decide +kernel
theorem dX6_noise_4 : decode cX6_noise 4 = .ok (.invokestatic 54, 3) := by decide +kernel
theorem dX6_noise_7 : decode cX6_noise 7 = .ok (.ifCond .eq 13, 3) := by decide +kernel
theorem dX6_noise_10 : decode cX6_noise 10 = .ok (.iload_n 2, 1) := by decide +kernel
theorem dX6_noise_11 : decode cX6_noise 11 = .ok (.iconst 0, 1) := by decide +kernel
theorem dX6_noise_12 : decode cX6_noise 12 = .ok (.bipush 16, 2) := by decide +kernel
theorem dX6_noise_14 : decode cX6_noise 14 = .ok (.invokestatic 54, 3) := by decide +kernel
theorem dX6_noise_17 : decode cX6_noise 17 = .ok (.ifCond .ne 9, 3) := by decide +kernel
theorem dX6_noise_20 : decode cX6_noise 20 = .ok (.aload_n 0, 1) := by decide +kernel
theorem dX6_noise_21 : decode cX6_noise 21 = .ok (.iconst (-1), 1) := by decide +kernel
theorem dX6_noise_22 : decode cX6_noise 22 = .ok (.invokevirtual 58, 3) := by decide +kernel
theorem dX6_noise_25 : decode cX6_noise 25 = .ok (.ireturn, 1) := by decide +kernel
theorem dX6_noise_26 : decode cX6_noise 26 = .ok (.aload_n 0, 1) := by decide +kernel
theorem dX6_noise_27 : decode cX6_noise 27 = .ok (.iconst 4, 1) := by decide +kernel
theorem dX6_noise_28 : decode cX6_noise 28 = .ok (.invokevirtual 65, 3) := by decide +kernel
theorem dX6_noise_31 : decode cX6_noise 31 = .ok (.aload_n 0, 1) := by decide +kernel
theorem dX6_noise_32 : decode cX6_noise 32 = .ok (.getfield 12, 3) := by decide +kernel
theorem dX6_noise_35 : decode cX6_noise 35 = .ok (.getfield 116, 3) := by decide +kernel
theorem dX6_noise_38 : decode cX6_noise 38 = .ok (.iload_n 1, 1) := by decide +kernel
theorem dX6_noise_39 : decode cX6_noise 39 = .ok (.iaload, 1) := by decide +kernel
theorem dX6_noise_40 : decode cX6_noise 40 = .ok (.istore_n 3, 1) := by decide +kernel
theorem dX6_noise_41 : decode cX6_noise 41 = .ok (.aload_n 0, 1) := by decide +kernel
theorem dX6_noise_42 : decode cX6_noise 42 = .ok (.getfield 12, 3) := by decide +kernel
theorem dX6_noise_45 : decode cX6_noise 45 = .ok (.getfield 116, 3) := by decide +kernel
theorem dX6_noise_48 : decode cX6_noise 48 = .ok (.iload_n 1, 1) := by decide +kernel
theorem dX6_noise_49 : decode cX6_noise 49 = .ok (.iload_n 2, 1) := by decide +kernel
theorem dX6_noise_50 : decode cX6_noise 50 = .ok (.iastore, 1) := by decide +kernel
theorem dX6_noise_51 : decode cX6_noise 51 = .ok (.aload_n 0, 1) := by decide +kernel
theorem dX6_noise_52 : decode cX6_noise 52 = .ok (.iload_n 3, 1) := by decide +kernel
theorem dX6_noise_53 : decode cX6_noise 53 = .ok (.invokevirtual 72, 3) := by decide +kernel
theorem dX6_noise_56 : decode cX6_noise 56 = .ok (.ireturn, 1) := by decide +kernel
theorem dX6_terms_0 : decode cX6_terms 0 = .ok (.iload_n 1, 1) := by decide +kernel
theorem dX6_terms_1 : decode cX6_terms 1 = .ok (.iload_n 2, 1) := by decide +kernel
theorem dX6_terms_2 : decode cX6_terms 2 = .ok (.invokestatic 119, 3) := by decide +kernel
theorem dX6_terms_5 : decode cX6_terms 5 = .ok (.ifCond .ne 9, 3) := by decide +kernel
theorem dX6_terms_8 : decode cX6_terms 8 = .ok (.aload_n 0, 1) := by decide +kernel
theorem dX6_terms_9 : decode cX6_terms 9 = .ok (.iconst (-1), 1) := by decide +kernel
theorem dX6_terms_10 : decode cX6_terms 10 = .ok (.invokevirtual 58, 3) := by decide +kernel
theorem dX6_terms_13 : decode cX6_terms 13 = .ok (.ireturn, 1) := by decide +kernel
theorem dX6_terms_14 : decode cX6_terms 14 = .ok (.aload_n 0, 1) := by decide +kernel
theorem dX6_terms_15 : decode cX6_terms 15 = .ok (.iconst 5, 1) := by decide +kernel
theorem dX6_terms_16 : decode cX6_terms 16 = .ok (.invokevirtual 65, 3) := by decide +kernel
theorem dX6_terms_19 : decode cX6_terms 19 = .ok (.iload_n 1, 1) := by decide +kernel
theorem dX6_terms_20 : decode cX6_terms 20 = .ok (.ifCond .ne 22, 3) := by decide +kernel
theorem dX6_terms_23 : decode cX6_terms 23 = .ok (.aload_n 0, 1) := by decide +kernel
theorem dX6_terms_24 : decode cX6_terms 24 = .ok (.getfield 12, 3) := by decide +kernel
theorem dX6_terms_27 : decode cX6_terms 27 = .ok (.getfield 123, 3) := by decide +kernel
theorem dX6_terms_30 : decode cX6_terms 30 = .ok (.istore_n 3, 1) := by decide +kernel
theorem dX6_terms_31 : decode cX6_terms 31 = .ok (.aload_n 0, 1) := by decide +kernel
theorem dX6_terms_32 : decode cX6_terms 32 = .ok (.getfield 12, 3) := by decide +kernel
theorem dX6_terms_35 : decode cX6_terms 35 = .ok (.iload_n 2, 1) := by decide +kernel
theorem dX6_terms_36 : decode cX6_terms 36 = .ok (.putfield 123, 3) := by decide +kernel
theorem dX6_terms_39 : decode cX6_terms 39 = .ok (.goto 43, 3) := by decide +kernel
theorem dX6_terms_42 : decode cX6_terms 42 = .ok (.iload_n 1, 1) := by decide +kernel
theorem dX6_terms_43 : decode cX6_terms 43 = .ok (.iconst 1, 1) := by decide +kernel
theorem dX6_terms_44 : decode cX6_terms 44 = .ok (.if_icmp .ne 22, 3) := by decide +kernel
theorem dX6_terms_47 : decode cX6_terms 47 = .ok (.aload_n 0, 1) := by decide +kernel
theorem dX6_terms_48 : decode cX6_terms 48 = .ok (.getfield 12, 3) := by decide +kernel
theorem dX6_terms_51 : decode cX6_terms 51 = .ok (.getfield 126, 3) := by decide +kernel
theorem dX6_terms_54 : decode cX6_terms 54 = .ok (.istore_n 3, 1) := by decide +kernel
theorem dX6_terms_55 : decode cX6_terms 55 = .ok (.aload_n 0, 1) := by decide +kernel
theorem dX6_terms_56 : decode cX6_terms 56 = .ok (.getfield 12, 3) := by decide +kernel
theorem dX6_terms_59 : decode cX6_terms 59 = .ok (.iload_n 2, 1) := by decide +kernel
theorem dX6_terms_60 : decode cX6_terms 60 = .ok (.putfield 126, 3) := by decide +kernel
theorem dX6_terms_63 : decode cX6_terms 63 = .ok (.goto 19, 3) := by decide +kernel
theorem dX6_terms_66 : decode cX6_terms 66 = .ok (.aload_n 0, 1) := by decide +kernel
theorem dX6_terms_67 : decode cX6_terms 67 = .ok (.getfield 12, 3) := by decide +kernel
theorem dX6_terms_70 : decode cX6_terms 70 = .ok (.getfield 129, 3) := by decide +kernel
theorem dX6_terms_73 : decode cX6_terms 73 = .ok (.istore_n 3, 1) := by decide +kernel
theorem dX6_terms_74 : decode cX6_terms 74 = .ok (.aload_n 0, 1) := by decide +kernel
theorem dX6_terms_75 : decode cX6_terms 75 = .ok (.getfield 12, 3) := by decide +kernel
theorem dX6_terms_78 : decode cX6_terms 78 = .ok (.iload_n 2, 1) := by decide +kernel
theorem dX6_terms_79 : decode cX6_terms 79 = .ok (.putfield 129, 3) := by decide +kernel
theorem dX6_terms_82 : decode cX6_terms 82 = .ok (.aload_n 0, 1) := by decide +kernel
theorem dX6_terms_83 : decode cX6_terms 83 = .ok (.iload_n 3, 1) := by decide +kernel
theorem dX6_terms_84 : decode cX6_terms 84 = .ok (.invokevirtual 72, 3) := by decide +kernel
theorem dX6_terms_87 : decode cX6_terms 87 = .ok (.ireturn, 1) := by decide +kernel
theorem dX6_put_0 : decode cX6_put 0 = .ok (.iload_n 3, 1) := by decide +kernel
theorem dX6_put_1 : decode cX6_put 1 = .ok (.iconst 0, 1) := by decide +kernel
theorem dX6_put_2 : decode cX6_put 2 = .ok (.iconst 1, 1) := by decide +kernel
theorem dX6_put_3 : decode cX6_put 3 = .ok (.invokestatic 54, 3) := by decide +kernel
theorem dX6_put_6 : decode cX6_put 6 = .ok (.ifCond .eq 15, 3) := by decide +kernel
theorem dX6_put_9 : decode cX6_put 9 = .ok (.iload 4, 2) := by decide +kernel
theorem dX6_put_11 : decode cX6_put 11 = .ok (.iconst 0, 1) := by decide +kernel
theorem dX6_put_12 : decode cX6_put 12 = .ok (.sipush 255, 3) := by decide +kernel
theorem dX6_put_15 : decode cX6_put 15 = .ok (.invokestatic 54, 3) := by decide +kernel
theorem dX6_put_18 : decode cX6_put 18 = .ok (.ifCond .ne 9, 3) := by decide +kernel
theorem dX6_put_21 : decode cX6_put 21 = .ok (.aload_n 0, 1) := by decide +kernel
theorem dX6_put_22 : decode cX6_put 22 = .ok (.iconst (-1), 1) := by decide +kernel
theorem dX6_put_23 : decode cX6_put 23 = .ok (.invokevirtual 58, 3) := by decide +kernel
theorem dX6_put_26 : decode cX6_put 26 = .ok (.ireturn, 1) := by decide +kernel
theorem dX6_put_27 : decode cX6_put 27 = .ok (.aload_n 0, 1) := by decide +kernel
theorem dX6_put_28 : decode cX6_put 28 = .ok (.getfield 12, 3) := by decide +kernel
theorem dX6_put_31 : decode cX6_put 31 = .ok (.iload_n 1, 1) := by decide +kernel
theorem dX6_put_32 : decode cX6_put 32 = .ok (.iload_n 2, 1) := by decide +kernel
theorem dX6_put_33 : decode cX6_put 33 = .ok (.invokevirtual 132, 3) := by decide +kernel
theorem dX6_put_36 : decode cX6_put 36 = .ok (.astore 5, 2) := by decide +kernel
theorem dX6_put_38 : decode cX6_put 38 = .ok (.aload 5, 2) := by decide +kernel
theorem dX6_put_40 : decode cX6_put 40 = .ok (.ifnonnull 10, 3) := by decide +kernel
theorem dX6_put_43 : decode cX6_put 43 = .ok (.aload_n 0, 1) := by decide +kernel
theorem dX6_put_44 : decode cX6_put 44 = .ok (.bipush (-2), 2) := by decide +kernel
theorem dX6_put_46 : decode cX6_put 46 = .ok (.invokevirtual 58, 3) := by decide +kernel
theorem dX6_put_49 : decode cX6_put 49 = .ok (.ireturn, 1) := by decide +kernel
theorem dX6_put_50 : decode cX6_put 50 = .ok (.iload_n 3, 1) := by decide +kernel
theorem dX6_put_51 : decode cX6_put 51 = .ok (.ifCond .ne 11, 3) := by decide +kernel
theorem dX6_put_54 : decode cX6_put 54 = .ok (.aload 5, 2) := by decide +kernel
theorem dX6_put_56 : decode cX6_put 56 = .ok (.getfield 135, 3) := by decide +kernel
theorem dX6_put_59 : decode cX6_put 59 = .ok (.goto 8, 3) := by decide +kernel
theorem dX6_put_62 : decode cX6_put 62 = .ok (.aload 5, 2) := by decide +kernel
theorem dX6_put_64 : decode cX6_put 64 = .ok (.getfield 141, 3) := by decide +kernel
theorem dX6_put_67 : decode cX6_put 67 = .ok (.astore 6, 2) := by decide +kernel
theorem dX6_put_69 : decode cX6_put 69 = .ok (.aload 6, 2) := by decide +kernel
theorem dX6_put_71 : decode cX6_put 71 = .ok (.invokevirtual 144, 3) := by decide +kernel
theorem dX6_put_74 : decode cX6_put 74 = .ok (.ifCond .eq 10, 3) := by decide +kernel
theorem dX6_put_77 : decode cX6_put 77 = .ok (.aload_n 0, 1) := by decide +kernel
theorem dX6_put_78 : decode cX6_put 78 = .ok (.bipush (-5), 2) := by decide +kernel
theorem dX6_put_80 : decode cX6_put 80 = .ok (.invokevirtual 58, 3) := by decide +kernel
theorem dX6_put_83 : decode cX6_put 83 = .ok (.ireturn, 1) := by decide +kernel
theorem dX6_put_84 : decode cX6_put 84 = .ok (.aload_n 0, 1) := by decide +kernel
theorem dX6_put_85 : decode cX6_put 85 = .ok (.bipush 6, 2) := by decide +kernel
theorem dX6_put_87 : decode cX6_put 87 = .ok (.invokevirtual 65, 3) := by decide +kernel
theorem dX6_put_90 : decode cX6_put 90 = .ok (.aload 6, 2) := by decide +kernel
theorem dX6_put_92 : decode cX6_put 92 = .ok (.iload 4, 2) := by decide +kernel
theorem dX6_put_94 : decode cX6_put 94 = .ok (.aload_n 0, 1) := by decide +kernel
theorem dX6_put_95 : decode cX6_put 95 = .ok (.getfield 12, 3) := by decide +kernel
theorem dX6_put_98 : decode cX6_put 98 = .ok (.getfield 102, 3) := by decide +kernel
theorem dX6_put_101 : decode cX6_put 101 = .ok (.invokevirtual 150, 3) := by decide +kernel
theorem dX6_put_104 : decode cX6_put 104 = .ok (.aload_n 0, 1) := by decide +kernel
theorem dX6_put_105 : decode cX6_put 105 = .ok (.aload 6, 2) := by decide +kernel
theorem dX6_put_107 : decode cX6_put 107 = .ok (.getfield 153, 3) := by decide +kernel
theorem dX6_put_110 : decode cX6_put 110 = .ok (.invokevirtual 72, 3) := by decide +kernel
theorem dX6_put_113 : decode cX6_put 113 = .ok (.ireturn, 1) := by decide +kernel
theorem dX6_reserve_0 : decode cX6_reserve 0 = .ok (.iload_n 3, 1) := by decide +kernel
theorem dX6_reserve_1 : decode cX6_reserve 1 = .ok (.ifCond .eq 36, 3) := by decide +kernel
theorem dX6_reserve_4 : decode cX6_reserve 4 = .ok (.iload_n 3, 1) := by decide +kernel
theorem dX6_reserve_5 : decode cX6_reserve 5 = .ok (.bipush 6, 2) := by decide +kernel
theorem dX6_reserve_7 : decode cX6_reserve 7 = .ok (.bipush 40, 2) := by decide +kernel
theorem dX6_reserve_9 : decode cX6_reserve 9 = .ok (.invokestatic 156, 3) := by decide +kernel
theorem dX6_reserve_12 : decode cX6_reserve 12 = .ok (.ifCond .eq 29, 3) := by decide +kernel
theorem dX6_reserve_15 : decode cX6_reserve 15 = .ok (.iload 4, 2) := by decide +kernel
theorem dX6_reserve_17 : decode cX6_reserve 17 = .ok (.iconst 0, 1) := by decide +kernel
theorem dX6_reserve_18 : decode cX6_reserve 18 = .ok (.iload_n 3, 1) := by decide +kernel
theorem dX6_reserve_19 : decode cX6_reserve 19 = .ok (.iconst 1, 1) := by decide +kernel
theorem dX6_reserve_20 : decode cX6_reserve 20 = .ok (.isub, 1) := by decide +kernel
theorem dX6_reserve_21 : decode cX6_reserve 21 = .ok (.invokestatic 156, 3) := by decide +kernel
theorem dX6_reserve_24 : decode cX6_reserve 24 = .ok (.ifCond .eq 17, 3) := by decide +kernel
theorem dX6_reserve_27 : decode cX6_reserve 27 = .ok (.iload 5, 2) := by decide +kernel
theorem dX6_reserve_29 : decode cX6_reserve 29 = .ok (.iconst 1, 1) := by decide +kernel
theorem dX6_reserve_30 : decode cX6_reserve 30 = .ok (.iconst 3, 1) := by decide +kernel
theorem dX6_reserve_31 : decode cX6_reserve 31 = .ok (.invokestatic 54, 3) := by decide +kernel
theorem dX6_reserve_34 : decode cX6_reserve 34 = .ok (.ifCond .eq 7, 3) := by decide +kernel
theorem dX6_reserve_37 : decode cX6_reserve 37 = .ok (.iconst 1, 1) := by decide +kernel
theorem dX6_reserve_38 : decode cX6_reserve 38 = .ok (.goto 4, 3) := by decide +kernel
theorem dX6_reserve_41 : decode cX6_reserve 41 = .ok (.iconst 0, 1) := by decide +kernel
theorem dX6_reserve_42 : decode cX6_reserve 42 = .ok (.istore 6, 2) := by decide +kernel
theorem dX6_reserve_44 : decode cX6_reserve 44 = .ok (.iload 6, 2) := by decide +kernel
theorem dX6_reserve_46 : decode cX6_reserve 46 = .ok (.ifCond .ne 9, 3) := by decide +kernel
theorem dX6_reserve_49 : decode cX6_reserve 49 = .ok (.aload_n 0, 1) := by decide +kernel
theorem dX6_reserve_50 : decode cX6_reserve 50 = .ok (.iconst (-1), 1) := by decide +kernel
theorem dX6_reserve_51 : decode cX6_reserve 51 = .ok (.invokevirtual 58, 3) := by decide +kernel
theorem dX6_reserve_54 : decode cX6_reserve 54 = .ok (.ireturn, 1) := by decide +kernel
theorem dX6_reserve_55 : decode cX6_reserve 55 = .ok (.aload_n 0, 1) := by decide +kernel
theorem dX6_reserve_56 : decode cX6_reserve 56 = .ok (.getfield 12, 3) := by decide +kernel
theorem dX6_reserve_59 : decode cX6_reserve 59 = .ok (.iload_n 1, 1) := by decide +kernel
theorem dX6_reserve_60 : decode cX6_reserve 60 = .ok (.iload_n 2, 1) := by decide +kernel
theorem dX6_reserve_61 : decode cX6_reserve 61 = .ok (.invokevirtual 132, 3) := by decide +kernel
theorem dX6_reserve_64 : decode cX6_reserve 64 = .ok (.astore 7, 2) := by decide +kernel
theorem dX6_reserve_66 : decode cX6_reserve 66 = .ok (.aload 7, 2) := by decide +kernel
theorem dX6_reserve_68 : decode cX6_reserve 68 = .ok (.ifnonnull 10, 3) := by decide +kernel
theorem dX6_reserve_71 : decode cX6_reserve 71 = .ok (.aload_n 0, 1) := by decide +kernel
theorem dX6_reserve_72 : decode cX6_reserve 72 = .ok (.bipush (-2), 2) := by decide +kernel
theorem dX6_reserve_74 : decode cX6_reserve 74 = .ok (.invokevirtual 58, 3) := by decide +kernel
theorem dX6_reserve_77 : decode cX6_reserve 77 = .ok (.ireturn, 1) := by decide +kernel
theorem dX6_reserve_78 : decode cX6_reserve 78 = .ok (.aload_n 0, 1) := by decide +kernel
theorem dX6_reserve_79 : decode cX6_reserve 79 = .ok (.bipush 7, 2) := by decide +kernel
theorem dX6_reserve_81 : decode cX6_reserve 81 = .ok (.invokevirtual 65, 3) := by decide +kernel
theorem dX6_reserve_84 : decode cX6_reserve 84 = .ok (.aload 7, 2) := by decide +kernel
theorem dX6_reserve_86 : decode cX6_reserve 86 = .ok (.getfield 159, 3) := by decide +kernel
theorem dX6_reserve_89 : decode cX6_reserve 89 = .ok (.getfield 163, 3) := by decide +kernel
theorem dX6_reserve_92 : decode cX6_reserve 92 = .ok (.ifCond .ne 7, 3) := by decide +kernel
theorem dX6_reserve_95 : decode cX6_reserve 95 = .ok (.iconst 0, 1) := by decide +kernel
theorem dX6_reserve_96 : decode cX6_reserve 96 = .ok (.goto 4, 3) := by decide +kernel
theorem dX6_reserve_99 : decode cX6_reserve 99 = .ok (.iconst 1, 1) := by decide +kernel
theorem dX6_reserve_100 : decode cX6_reserve 100 = .ok (.istore 8, 2) := by decide +kernel
theorem dX6_reserve_102 : decode cX6_reserve 102 = .ok (.iload_n 3, 1) := by decide +kernel
theorem dX6_reserve_103 : decode cX6_reserve 103 = .ok (.ifCond .ne 17, 3) := by decide +kernel
theorem dX6_reserve_106 : decode cX6_reserve 106 = .ok (.aload 7, 2) := by decide +kernel
theorem dX6_reserve_108 : decode cX6_reserve 108 = .ok (.getfield 159, 3) := by decide +kernel
theorem dX6_reserve_111 : decode cX6_reserve 111 = .ok (.iconst 0, 1) := by decide +kernel
theorem dX6_reserve_112 : decode cX6_reserve 112 = .ok (.iconst 0, 1) := by decide +kernel
theorem dX6_reserve_113 : decode cX6_reserve 113 = .ok (.iconst 0, 1) := by decide +kernel
theorem dX6_reserve_114 : decode cX6_reserve 114 = .ok (.invokevirtual 168, 3) := by decide +kernel
theorem dX6_reserve_117 : decode cX6_reserve 117 = .ok (.goto 16, 3) := by decide +kernel
theorem dX6_reserve_120 : decode cX6_reserve 120 = .ok (.aload 7, 2) := by decide +kernel
theorem dX6_reserve_122 : decode cX6_reserve 122 = .ok (.getfield 159, 3) := by decide +kernel
theorem dX6_reserve_125 : decode cX6_reserve 125 = .ok (.iload_n 3, 1) := by decide +kernel
theorem dX6_reserve_126 : decode cX6_reserve 126 = .ok (.iload 4, 2) := by decide +kernel
theorem dX6_reserve_128 : decode cX6_reserve 128 = .ok (.iload 5, 2) := by decide +kernel
theorem dX6_reserve_130 : decode cX6_reserve 130 = .ok (.invokevirtual 168, 3) := by decide +kernel
theorem dX6_reserve_133 : decode cX6_reserve 133 = .ok (.aload_n 0, 1) := by decide +kernel
theorem dX6_reserve_134 : decode cX6_reserve 134 = .ok (.iload 8, 2) := by decide +kernel
theorem dX6_reserve_136 : decode cX6_reserve 136 = .ok (.invokevirtual 72, 3) := by decide +kernel
theorem dX6_reserve_139 : decode cX6_reserve 139 = .ok (.ireturn, 1) := by decide +kernel
theorem dX6_sniff_0 : decode cX6_sniff 0 = .ok (.iload_n 3, 1) := by decide +kernel
theorem dX6_sniff_1 : decode cX6_sniff 1 = .ok (.ifCond .eq 24, 3) := by decide +kernel
theorem dX6_sniff_4 : decode cX6_sniff 4 = .ok (.iload_n 3, 1) := by decide +kernel
theorem dX6_sniff_5 : decode cX6_sniff 5 = .ok (.bipush 8, 2) := by decide +kernel
theorem dX6_sniff_7 : decode cX6_sniff 7 = .ok (.bipush 64, 2) := by decide +kernel
theorem dX6_sniff_9 : decode cX6_sniff 9 = .ok (.invokestatic 156, 3) := by decide +kernel
theorem dX6_sniff_12 : decode cX6_sniff 12 = .ok (.ifCond .eq 17, 3) := by decide +kernel
theorem dX6_sniff_15 : decode cX6_sniff 15 = .ok (.iload 4, 2) := by decide +kernel
theorem dX6_sniff_17 : decode cX6_sniff 17 = .ok (.iconst 1, 1) := by decide +kernel
theorem dX6_sniff_18 : decode cX6_sniff 18 = .ok (.iconst 4, 1) := by decide +kernel
theorem dX6_sniff_19 : decode cX6_sniff 19 = .ok (.invokestatic 54, 3) := by decide +kernel
theorem dX6_sniff_22 : decode cX6_sniff 22 = .ok (.ifCond .eq 7, 3) := by decide +kernel
theorem dX6_sniff_25 : decode cX6_sniff 25 = .ok (.iconst 1, 1) := by decide +kernel
theorem dX6_sniff_26 : decode cX6_sniff 26 = .ok (.goto 4, 3) := by decide +kernel
theorem dX6_sniff_29 : decode cX6_sniff 29 = .ok (.iconst 0, 1) := by decide +kernel
theorem dX6_sniff_30 : decode cX6_sniff 30 = .ok (.istore 5, 2) := by decide +kernel
theorem dX6_sniff_32 : decode cX6_sniff 32 = .ok (.iload 5, 2) := by decide +kernel
theorem dX6_sniff_34 : decode cX6_sniff 34 = .ok (.ifCond .ne 9, 3) := by decide +kernel
theorem dX6_sniff_37 : decode cX6_sniff 37 = .ok (.aload_n 0, 1) := by decide +kernel
theorem dX6_sniff_38 : decode cX6_sniff 38 = .ok (.iconst (-1), 1) := by decide +kernel
theorem dX6_sniff_39 : decode cX6_sniff 39 = .ok (.invokevirtual 58, 3) := by decide +kernel
theorem dX6_sniff_42 : decode cX6_sniff 42 = .ok (.ireturn, 1) := by decide +kernel
theorem dX6_sniff_43 : decode cX6_sniff 43 = .ok (.aload_n 0, 1) := by decide +kernel
theorem dX6_sniff_44 : decode cX6_sniff 44 = .ok (.getfield 12, 3) := by decide +kernel
theorem dX6_sniff_47 : decode cX6_sniff 47 = .ok (.iload_n 1, 1) := by decide +kernel
theorem dX6_sniff_48 : decode cX6_sniff 48 = .ok (.iload_n 2, 1) := by decide +kernel
theorem dX6_sniff_49 : decode cX6_sniff 49 = .ok (.invokevirtual 132, 3) := by decide +kernel
theorem dX6_sniff_52 : decode cX6_sniff 52 = .ok (.astore 6, 2) := by decide +kernel
theorem dX6_sniff_54 : decode cX6_sniff 54 = .ok (.aload 6, 2) := by decide +kernel
theorem dX6_sniff_56 : decode cX6_sniff 56 = .ok (.ifnonnull 10, 3) := by decide +kernel
theorem dX6_sniff_59 : decode cX6_sniff 59 = .ok (.aload_n 0, 1) := by decide +kernel
theorem dX6_sniff_60 : decode cX6_sniff 60 = .ok (.bipush (-2), 2) := by decide +kernel
theorem dX6_sniff_62 : decode cX6_sniff 62 = .ok (.invokevirtual 58, 3) := by decide +kernel
theorem dX6_sniff_65 : decode cX6_sniff 65 = .ok (.ireturn, 1) := by decide +kernel
theorem dX6_sniff_66 : decode cX6_sniff 66 = .ok (.aload_n 0, 1) := by decide +kernel
theorem dX6_sniff_67 : decode cX6_sniff 67 = .ok (.bipush 10, 2) := by decide +kernel
theorem dX6_sniff_69 : decode cX6_sniff 69 = .ok (.invokevirtual 65, 3) := by decide +kernel
theorem dX6_sniff_72 : decode cX6_sniff 72 = .ok (.aload 6, 2) := by decide +kernel
theorem dX6_sniff_74 : decode cX6_sniff 74 = .ok (.getfield 172, 3) := by decide +kernel
theorem dX6_sniff_77 : decode cX6_sniff 77 = .ok (.istore 7, 2) := by decide +kernel
theorem dX6_sniff_79 : decode cX6_sniff 79 = .ok (.aload 6, 2) := by decide +kernel
theorem dX6_sniff_81 : decode cX6_sniff 81 = .ok (.iload_n 3, 1) := by decide +kernel
theorem dX6_sniff_82 : decode cX6_sniff 82 = .ok (.putfield 172, 3) := by decide +kernel
theorem dX6_sniff_85 : decode cX6_sniff 85 = .ok (.aload 6, 2) := by decide +kernel
theorem dX6_sniff_87 : decode cX6_sniff 87 = .ok (.iload_n 3, 1) := by decide +kernel
theorem dX6_sniff_88 : decode cX6_sniff 88 = .ok (.ifCond .ne 7, 3) := by decide +kernel
theorem dX6_sniff_91 : decode cX6_sniff 91 = .ok (.iconst 0, 1) := by decide +kernel
theorem dX6_sniff_92 : decode cX6_sniff 92 = .ok (.goto 5, 3) := by decide +kernel
theorem dX6_sniff_95 : decode cX6_sniff 95 = .ok (.iload 4, 2) := by decide +kernel
theorem dX6_sniff_97 : decode cX6_sniff 97 = .ok (.putfield 175, 3) := by decide +kernel
theorem dX6_sniff_100 : decode cX6_sniff 100 = .ok (.aload_n 0, 1) := by decide +kernel
theorem dX6_sniff_101 : decode cX6_sniff 101 = .ok (.iload 7, 2) := by decide +kernel
theorem dX6_sniff_103 : decode cX6_sniff 103 = .ok (.invokevirtual 72, 3) := by decide +kernel
theorem dX6_sniff_106 : decode cX6_sniff 106 = .ok (.ireturn, 1) := by decide +kernel
theorem dX6_weigh_0 : decode cX6_weigh 0 = .ok (.iload_n 3, 1) := by decide +kernel
theorem dX6_weigh_1 : decode cX6_weigh 1 = .ok (.iconst 1, 1) := by decide +kernel
theorem dX6_weigh_2 : decode cX6_weigh 2 = .ok (.iconst 4, 1) := by decide +kernel
theorem dX6_weigh_3 : decode cX6_weigh 3 = .ok (.invokestatic 54, 3) := by decide +kernel
theorem dX6_weigh_6 : decode cX6_weigh 6 = .ok (.ifCond .ne 9, 3) := by decide +kernel
theorem dX6_weigh_9 : decode cX6_weigh 9 = .ok (.aload_n 0, 1) := by decide +kernel
theorem dX6_weigh_10 : decode cX6_weigh 10 = .ok (.iconst (-1), 1) := by decide +kernel
theorem dX6_weigh_11 : decode cX6_weigh 11 = .ok (.invokevirtual 58, 3) := by decide +kernel
theorem dX6_weigh_14 : decode cX6_weigh 14 = .ok (.ireturn, 1) := by decide +kernel
theorem dX6_weigh_15 : decode cX6_weigh 15 = .ok (.aload_n 0, 1) := by decide +kernel
theorem dX6_weigh_16 : decode cX6_weigh 16 = .ok (.getfield 12, 3) := by decide +kernel
theorem dX6_weigh_19 : decode cX6_weigh 19 = .ok (.iload_n 1, 1) := by decide +kernel
theorem dX6_weigh_20 : decode cX6_weigh 20 = .ok (.iload_n 2, 1) := by decide +kernel
theorem dX6_weigh_21 : decode cX6_weigh 21 = .ok (.invokevirtual 132, 3) := by decide +kernel
theorem dX6_weigh_24 : decode cX6_weigh 24 = .ok (.astore 4, 2) := by decide +kernel
theorem dX6_weigh_26 : decode cX6_weigh 26 = .ok (.aload 4, 2) := by decide +kernel
theorem dX6_weigh_28 : decode cX6_weigh 28 = .ok (.ifnonnull 10, 3) := by decide +kernel
theorem dX6_weigh_31 : decode cX6_weigh 31 = .ok (.aload_n 0, 1) := by decide +kernel
theorem dX6_weigh_32 : decode cX6_weigh 32 = .ok (.bipush (-2), 2) := by decide +kernel
theorem dX6_weigh_34 : decode cX6_weigh 34 = .ok (.invokevirtual 58, 3) := by decide +kernel
theorem dX6_weigh_37 : decode cX6_weigh 37 = .ok (.ireturn, 1) := by decide +kernel
theorem dX6_weigh_38 : decode cX6_weigh 38 = .ok (.aload_n 0, 1) := by decide +kernel
theorem dX6_weigh_39 : decode cX6_weigh 39 = .ok (.bipush 12, 2) := by decide +kernel
theorem dX6_weigh_41 : decode cX6_weigh 41 = .ok (.invokevirtual 65, 3) := by decide +kernel
theorem dX6_weigh_44 : decode cX6_weigh 44 = .ok (.aload 4, 2) := by decide +kernel
theorem dX6_weigh_46 : decode cX6_weigh 46 = .ok (.getfield 178, 3) := by decide +kernel
theorem dX6_weigh_49 : decode cX6_weigh 49 = .ok (.istore 5, 2) := by decide +kernel
theorem dX6_weigh_51 : decode cX6_weigh 51 = .ok (.aload 4, 2) := by decide +kernel
theorem dX6_weigh_53 : decode cX6_weigh 53 = .ok (.iload_n 3, 1) := by decide +kernel
theorem dX6_weigh_54 : decode cX6_weigh 54 = .ok (.putfield 178, 3) := by decide +kernel
theorem dX6_weigh_57 : decode cX6_weigh 57 = .ok (.aload_n 0, 1) := by decide +kernel
theorem dX6_weigh_58 : decode cX6_weigh 58 = .ok (.iload 5, 2) := by decide +kernel
theorem dX6_weigh_60 : decode cX6_weigh 60 = .ok (.invokevirtual 72, 3) := by decide +kernel
theorem dX6_weigh_63 : decode cX6_weigh 63 = .ok (.ireturn, 1) := by decide +kernel
theorem dX6_cast_0 : decode cX6_cast 0 = .ok (.iload_n 2, 1) := by decide +kernel
theorem dX6_cast_1 : decode cX6_cast 1 = .ok (.iconst 0, 1) := by decide +kernel
theorem dX6_cast_2 : decode cX6_cast 2 = .ok (.sipush 255, 3) := by decide +kernel
theorem dX6_cast_5 : decode cX6_cast 5 = .ok (.invokestatic 54, 3) := by decide +kernel
theorem dX6_cast_8 : decode cX6_cast 8 = .ok (.ifCond .ne 9, 3) := by decide +kernel
theorem dX6_cast_11 : decode cX6_cast 11 = .ok (.aload_n 0, 1) := by decide +kernel
theorem dX6_cast_12 : decode cX6_cast 12 = .ok (.iconst (-1), 1) := by decide +kernel
theorem dX6_cast_13 : decode cX6_cast 13 = .ok (.invokevirtual 58, 3) := by decide +kernel
theorem dX6_cast_16 : decode cX6_cast 16 = .ok (.ireturn, 1) := by decide +kernel
theorem dX6_cast_17 : decode cX6_cast 17 = .ok (.aload_n 0, 1) := by decide +kernel
theorem dX6_cast_18 : decode cX6_cast 18 = .ok (.getfield 12, 3) := by decide +kernel
theorem dX6_cast_21 : decode cX6_cast 21 = .ok (.iload_n 1, 1) := by decide +kernel
theorem dX6_cast_22 : decode cX6_cast 22 = .ok (.invokevirtual 95, 3) := by decide +kernel
theorem dX6_cast_25 : decode cX6_cast 25 = .ok (.astore_n 3, 1) := by decide +kernel
theorem dX6_cast_26 : decode cX6_cast 26 = .ok (.aload_n 3, 1) := by decide +kernel
theorem dX6_cast_27 : decode cX6_cast 27 = .ok (.ifnonnull 10, 3) := by decide +kernel
theorem dX6_cast_30 : decode cX6_cast 30 = .ok (.aload_n 0, 1) := by decide +kernel
theorem dX6_cast_31 : decode cX6_cast 31 = .ok (.bipush (-2), 2) := by decide +kernel
theorem dX6_cast_33 : decode cX6_cast 33 = .ok (.invokevirtual 58, 3) := by decide +kernel
theorem dX6_cast_36 : decode cX6_cast 36 = .ok (.ireturn, 1) := by decide +kernel
theorem dX6_cast_37 : decode cX6_cast 37 = .ok (.aload_n 3, 1) := by decide +kernel
theorem dX6_cast_38 : decode cX6_cast 38 = .ok (.getfield 181, 3) := by decide +kernel
theorem dX6_cast_41 : decode cX6_cast 41 = .ok (.iconst 4, 1) := by decide +kernel
theorem dX6_cast_42 : decode cX6_cast 42 = .ok (.if_icmp .lt 10, 3) := by decide +kernel
theorem dX6_cast_45 : decode cX6_cast 45 = .ok (.aload_n 0, 1) := by decide +kernel
theorem dX6_cast_46 : decode cX6_cast 46 = .ok (.bipush (-5), 2) := by decide +kernel
theorem dX6_cast_48 : decode cX6_cast 48 = .ok (.invokevirtual 58, 3) := by decide +kernel
theorem dX6_cast_51 : decode cX6_cast 51 = .ok (.ireturn, 1) := by decide +kernel
theorem dX6_cast_52 : decode cX6_cast 52 = .ok (.aload_n 0, 1) := by decide +kernel
theorem dX6_cast_53 : decode cX6_cast 53 = .ok (.bipush 11, 2) := by decide +kernel
theorem dX6_cast_55 : decode cX6_cast 55 = .ok (.invokevirtual 65, 3) := by decide +kernel
theorem dX6_cast_58 : decode cX6_cast 58 = .ok (.aload_n 3, 1) := by decide +kernel
theorem dX6_cast_59 : decode cX6_cast 59 = .ok (.getfield 184, 3) := by decide +kernel
theorem dX6_cast_62 : decode cX6_cast 62 = .ok (.aload_n 3, 1) := by decide +kernel
theorem dX6_cast_63 : decode cX6_cast 63 = .ok (.getfield 181, 3) := by decide +kernel
theorem dX6_cast_66 : decode cX6_cast 66 = .ok (.iload_n 2, 1) := by decide +kernel
theorem dX6_cast_67 : decode cX6_cast 67 = .ok (.iastore, 1) := by decide +kernel
theorem dX6_cast_68 : decode cX6_cast 68 = .ok (.aload_n 3, 1) := by decide +kernel
theorem dX6_cast_69 : decode cX6_cast 69 = .ok (.dup, 1) := by decide +kernel
theorem dX6_cast_70 : decode cX6_cast 70 = .ok (.getfield 181, 3) := by decide +kernel
theorem dX6_cast_73 : decode cX6_cast 73 = .ok (.iconst 1, 1) := by decide +kernel
theorem dX6_cast_74 : decode cX6_cast 74 = .ok (.iadd, 1) := by decide +kernel
theorem dX6_cast_75 : decode cX6_cast 75 = .ok (.putfield 181, 3) := by decide +kernel
theorem dX6_cast_78 : decode cX6_cast 78 = .ok (.aload_n 0, 1) := by decide +kernel
theorem dX6_cast_79 : decode cX6_cast 79 = .ok (.aload_n 3, 1) := by decide +kernel
theorem dX6_cast_80 : decode cX6_cast 80 = .ok (.getfield 181, 3) := by decide +kernel
theorem dX6_cast_83 : decode cX6_cast 83 = .ok (.invokevirtual 72, 3) := by decide +kernel
theorem dX6_cast_86 : decode cX6_cast 86 = .ok (.ireturn, 1) := by decide +kernel
theorem dX6_adapt_0 : decode cX6_adapt 0 = .ok (.iload_n 2, 1) := by decide +kernel
theorem dX6_adapt_1 : decode cX6_adapt 1 = .ok (.iconst 1, 1) := by decide +kernel
theorem dX6_adapt_2 : decode cX6_adapt 2 = .ok (.bipush 99, 2) := by decide +kernel
theorem dX6_adapt_4 : decode cX6_adapt 4 = .ok (.invokestatic 54, 3) := by decide +kernel
theorem dX6_adapt_7 : decode cX6_adapt 7 = .ok (.ifCond .eq 13, 3) := by decide +kernel
theorem dX6_adapt_10 : decode cX6_adapt 10 = .ok (.iload_n 3, 1) := by decide +kernel
theorem dX6_adapt_11 : decode cX6_adapt 11 = .ok (.iconst 1, 1) := by decide +kernel
theorem dX6_adapt_12 : decode cX6_adapt 12 = .ok (.bipush 100, 2) := by decide +kernel
theorem dX6_adapt_14 : decode cX6_adapt 14 = .ok (.invokestatic 54, 3) := by decide +kernel
theorem dX6_adapt_17 : decode cX6_adapt 17 = .ok (.ifCond .ne 9, 3) := by decide +kernel
theorem dX6_adapt_20 : decode cX6_adapt 20 = .ok (.aload_n 0, 1) := by decide +kernel
theorem dX6_adapt_21 : decode cX6_adapt 21 = .ok (.iconst (-1), 1) := by decide +kernel
theorem dX6_adapt_22 : decode cX6_adapt 22 = .ok (.invokevirtual 58, 3) := by decide +kernel
theorem dX6_adapt_25 : decode cX6_adapt 25 = .ok (.ireturn, 1) := by decide +kernel
theorem dX6_adapt_26 : decode cX6_adapt 26 = .ok (.aload_n 0, 1) := by decide +kernel
theorem dX6_adapt_27 : decode cX6_adapt 27 = .ok (.getfield 12, 3) := by decide +kernel
theorem dX6_adapt_30 : decode cX6_adapt 30 = .ok (.iload_n 1, 1) := by decide +kernel
theorem dX6_adapt_31 : decode cX6_adapt 31 = .ok (.invokevirtual 95, 3) := by decide +kernel
theorem dX6_adapt_34 : decode cX6_adapt 34 = .ok (.astore 4, 2) := by decide +kernel
theorem dX6_adapt_36 : decode cX6_adapt 36 = .ok (.aload 4, 2) := by decide +kernel
theorem dX6_adapt_38 : decode cX6_adapt 38 = .ok (.ifnonnull 10, 3) := by decide +kernel
theorem dX6_adapt_41 : decode cX6_adapt 41 = .ok (.aload_n 0, 1) := by decide +kernel
theorem dX6_adapt_42 : decode cX6_adapt 42 = .ok (.bipush (-2), 2) := by decide +kernel
theorem dX6_adapt_44 : decode cX6_adapt 44 = .ok (.invokevirtual 58, 3) := by decide +kernel
theorem dX6_adapt_47 : decode cX6_adapt 47 = .ok (.ireturn, 1) := by decide +kernel
theorem dX6_adapt_48 : decode cX6_adapt 48 = .ok (.aload 4, 2) := by decide +kernel
theorem dX6_adapt_50 : decode cX6_adapt 50 = .ok (.iload_n 2, 1) := by decide +kernel
theorem dX6_adapt_51 : decode cX6_adapt 51 = .ok (.invokevirtual 203, 3) := by decide +kernel
theorem dX6_adapt_54 : decode cX6_adapt 54 = .ok (.istore 5, 2) := by decide +kernel
theorem dX6_adapt_56 : decode cX6_adapt 56 = .ok (.aload 4, 2) := by decide +kernel
theorem dX6_adapt_58 : decode cX6_adapt 58 = .ok (.getfield 190, 3) := by decide +kernel
theorem dX6_adapt_61 : decode cX6_adapt 61 = .ok (.invokevirtual 194, 3) := by decide +kernel
theorem dX6_adapt_64 : decode cX6_adapt 64 = .ok (.ifCond .ne 8, 3) := by decide +kernel
theorem dX6_adapt_67 : decode cX6_adapt 67 = .ok (.iload 5, 2) := by decide +kernel
theorem dX6_adapt_69 : decode cX6_adapt 69 = .ok (.ifCond .ne 10, 3) := by decide +kernel
theorem dX6_adapt_72 : decode cX6_adapt 72 = .ok (.aload_n 0, 1) := by decide +kernel
theorem dX6_adapt_73 : decode cX6_adapt 73 = .ok (.bipush (-4), 2) := by decide +kernel
theorem dX6_adapt_75 : decode cX6_adapt 75 = .ok (.invokevirtual 58, 3) := by decide +kernel
theorem dX6_adapt_78 : decode cX6_adapt 78 = .ok (.ireturn, 1) := by decide +kernel
theorem dX6_adapt_79 : decode cX6_adapt 79 = .ok (.aload 4, 2) := by decide +kernel
theorem dX6_adapt_81 : decode cX6_adapt 81 = .ok (.getfield 190, 3) := by decide +kernel
theorem dX6_adapt_84 : decode cX6_adapt 84 = .ok (.getfield 206, 3) := by decide +kernel
theorem dX6_adapt_87 : decode cX6_adapt 87 = .ok (.iload 5, 2) := by decide +kernel
theorem dX6_adapt_89 : decode cX6_adapt 89 = .ok (.iconst (-1), 1) := by decide +kernel
theorem dX6_adapt_90 : decode cX6_adapt 90 = .ok (.ixor, 1) := by decide +kernel
theorem dX6_adapt_91 : decode cX6_adapt 91 = .ok (.iand, 1) := by decide +kernel
theorem dX6_adapt_92 : decode cX6_adapt 92 = .ok (.istore 6, 2) := by decide +kernel
theorem dX6_adapt_94 : decode cX6_adapt 94 = .ok (.aload_n 0, 1) := by decide +kernel
theorem dX6_adapt_95 : decode cX6_adapt 95 = .ok (.aload 4, 2) := by decide +kernel
theorem dX6_adapt_97 : decode cX6_adapt 97 = .ok (.iload 6, 2) := by decide +kernel
theorem dX6_adapt_99 : decode cX6_adapt 99 = .ok (.invokestatic 187, 3) := by decide +kernel
theorem dX6_adapt_102 : decode cX6_adapt 102 = .ok (.ifCond .eq 8, 3) := by decide +kernel
theorem dX6_adapt_105 : decode cX6_adapt 105 = .ok (.iload 6, 2) := by decide +kernel
theorem dX6_adapt_107 : decode cX6_adapt 107 = .ok (.goto 8, 3) := by decide +kernel
theorem dX6_adapt_110 : decode cX6_adapt 110 = .ok (.aload 4, 2) := by decide +kernel
theorem dX6_adapt_112 : decode cX6_adapt 112 = .ok (.invokevirtual 209, 3) := by decide +kernel
theorem dX6_adapt_115 : decode cX6_adapt 115 = .ok (.iload_n 3, 1) := by decide +kernel
theorem dX6_adapt_116 : decode cX6_adapt 116 = .ok (.invokevirtual 199, 3) := by decide +kernel
theorem dX6_adapt_119 : decode cX6_adapt 119 = .ok (.ireturn, 1) := by decide +kernel
theorem dX6_run_0 : decode cX6_run 0 = .ok (.iload_n 1, 1) := by decide +kernel
theorem dX6_run_1 : decode cX6_run 1 = .ok (.iconst 1, 1) := by decide +kernel
theorem dX6_run_2 : decode cX6_run 2 = .ok (.sipush 200, 3) := by decide +kernel
theorem dX6_run_5 : decode cX6_run 5 = .ok (.invokestatic 54, 3) := by decide +kernel
theorem dX6_run_8 : decode cX6_run 8 = .ok (.ifCond .ne 9, 3) := by decide +kernel
theorem dX6_run_11 : decode cX6_run 11 = .ok (.aload_n 0, 1) := by decide +kernel
theorem dX6_run_12 : decode cX6_run 12 = .ok (.iconst (-1), 1) := by decide +kernel
theorem dX6_run_13 : decode cX6_run 13 = .ok (.invokevirtual 58, 3) := by decide +kernel
theorem dX6_run_16 : decode cX6_run 16 = .ok (.ireturn, 1) := by decide +kernel
theorem dX6_run_17 : decode cX6_run 17 = .ok (.aload_n 0, 1) := by decide +kernel
theorem dX6_run_18 : decode cX6_run 18 = .ok (.iload_n 1, 1) := by decide +kernel
theorem dX6_run_19 : decode cX6_run 19 = .ok (.invokevirtual 213, 3) := by decide +kernel
theorem dX6_run_22 : decode cX6_run 22 = .ok (.ifCond .ne 10, 3) := by decide +kernel
theorem dX6_run_25 : decode cX6_run 25 = .ok (.aload_n 0, 1) := by decide +kernel
theorem dX6_run_26 : decode cX6_run 26 = .ok (.bipush (-4), 2) := by decide +kernel
theorem dX6_run_28 : decode cX6_run 28 = .ok (.invokevirtual 58, 3) := by decide +kernel
theorem dX6_run_31 : decode cX6_run 31 = .ok (.ireturn, 1) := by decide +kernel
theorem dX6_run_32 : decode cX6_run 32 = .ok (.aload_n 0, 1) := by decide +kernel
theorem dX6_run_33 : decode cX6_run 33 = .ok (.bipush 9, 2) := by decide +kernel
theorem dX6_run_35 : decode cX6_run 35 = .ok (.invokevirtual 65, 3) := by decide +kernel
theorem dX6_run_38 : decode cX6_run 38 = .ok (.aload_n 0, 1) := by decide +kernel
theorem dX6_run_39 : decode cX6_run 39 = .ok (.aload_n 0, 1) := by decide +kernel
theorem dX6_run_40 : decode cX6_run 40 = .ok (.getfield 12, 3) := by decide +kernel
theorem dX6_run_43 : decode cX6_run 43 = .ok (.iload_n 1, 1) := by decide +kernel
theorem dX6_run_44 : decode cX6_run 44 = .ok (.invokevirtual 216, 3) := by decide +kernel
theorem dX6_run_47 : decode cX6_run 47 = .ok (.invokevirtual 72, 3) := by decide +kernel
theorem dX6_run_50 : decode cX6_run 50 = .ok (.ireturn, 1) := by decide +kernel
theorem dX6_undo_0 : decode cX6_undo 0 = .ok (.aload_n 0, 1) := by decide +kernel
theorem dX6_undo_1 : decode cX6_undo 1 = .ok (.getfield 38, 3) := by decide +kernel
theorem dX6_undo_4 : decode cX6_undo 4 = .ok (.ifCond .ne 10, 3) := by decide +kernel
theorem dX6_undo_7 : decode cX6_undo 7 = .ok (.aload_n 0, 1) := by decide +kernel
theorem dX6_undo_8 : decode cX6_undo 8 = .ok (.bipush (-4), 2) := by decide +kernel
theorem dX6_undo_10 : decode cX6_undo 10 = .ok (.invokevirtual 58, 3) := by decide +kernel
theorem dX6_undo_13 : decode cX6_undo 13 = .ok (.ireturn, 1) := by decide +kernel
theorem dX6_undo_14 : decode cX6_undo 14 = .ok (.aload_n 0, 1) := by decide +kernel
theorem dX6_undo_15 : decode cX6_undo 15 = .ok (.aload_n 0, 1) := by decide +kernel
theorem dX6_undo_16 : decode cX6_undo 16 = .ok (.getfield 34, 3) := by decide +kernel
theorem dX6_undo_19 : decode cX6_undo 19 = .ok (.bipush 8, 2) := by decide +kernel
theorem dX6_undo_21 : decode cX6_undo 21 = .ok (.iadd, 1) := by decide +kernel
theorem dX6_undo_22 : decode cX6_undo 22 = .ok (.iconst 1, 1) := by decide +kernel
theorem dX6_undo_23 : decode cX6_undo 23 = .ok (.isub, 1) := by decide +kernel
theorem dX6_undo_24 : decode cX6_undo 24 = .ok (.bipush 8, 2) := by decide +kernel
theorem dX6_undo_26 : decode cX6_undo 26 = .ok (.irem, 1) := by decide +kernel
theorem dX6_undo_27 : decode cX6_undo 27 = .ok (.putfield 34, 3) := by decide +kernel
theorem dX6_undo_30 : decode cX6_undo 30 = .ok (.aload_n 0, 1) := by decide +kernel
theorem dX6_undo_31 : decode cX6_undo 31 = .ok (.dup, 1) := by decide +kernel
theorem dX6_undo_32 : decode cX6_undo 32 = .ok (.getfield 38, 3) := by decide +kernel
theorem dX6_undo_35 : decode cX6_undo 35 = .ok (.iconst 1, 1) := by decide +kernel
theorem dX6_undo_36 : decode cX6_undo 36 = .ok (.isub, 1) := by decide +kernel
theorem dX6_undo_37 : decode cX6_undo 37 = .ok (.putfield 38, 3) := by decide +kernel
theorem dX6_undo_40 : decode cX6_undo 40 = .ok (.aload_n 0, 1) := by decide +kernel
theorem dX6_undo_41 : decode cX6_undo 41 = .ok (.getfield 12, 3) := by decide +kernel
theorem dX6_undo_44 : decode cX6_undo 44 = .ok (.aload_n 0, 1) := by decide +kernel
theorem dX6_undo_45 : decode cX6_undo 45 = .ok (.getfield 27, 3) := by decide +kernel
theorem dX6_undo_48 : decode cX6_undo 48 = .ok (.aload_n 0, 1) := by decide +kernel
theorem dX6_undo_49 : decode cX6_undo 49 = .ok (.getfield 34, 3) := by decide +kernel
theorem dX6_undo_52 : decode cX6_undo 52 = .ok (.aaload, 1) := by decide +kernel
theorem dX6_undo_53 : decode cX6_undo 53 = .ok (.invokevirtual 219, 3) := by decide +kernel
theorem dX6_undo_56 : decode cX6_undo 56 = .ok (.aload_n 0, 1) := by decide +kernel
theorem dX6_undo_57 : decode cX6_undo 57 = .ok (.aload_n 0, 1) := by decide +kernel
theorem dX6_undo_58 : decode cX6_undo 58 = .ok (.getfield 30, 3) := by decide +kernel
theorem dX6_undo_61 : decode cX6_undo 61 = .ok (.aload_n 0, 1) := by decide +kernel
theorem dX6_undo_62 : decode cX6_undo 62 = .ok (.getfield 34, 3) := by decide +kernel
theorem dX6_undo_65 : decode cX6_undo 65 = .ok (.iaload, 1) := by decide +kernel
theorem dX6_undo_66 : decode cX6_undo 66 = .ok (.invokevirtual 72, 3) := by decide +kernel
theorem dX6_undo_69 : decode cX6_undo 69 = .ok (.ireturn, 1) := by decide +kernel
theorem dX6_image_0 : decode cX6_image 0 = .ok (.iload_n 1, 1) := by decide +kernel
theorem dX6_image_1 : decode cX6_image 1 = .ok (.iconst 0, 1) := by decide +kernel
theorem dX6_image_2 : decode cX6_image 2 = .ok (.iconst 1, 1) := by decide +kernel
theorem dX6_image_3 : decode cX6_image 3 = .ok (.invokestatic 54, 3) := by decide +kernel
theorem dX6_image_6 : decode cX6_image 6 = .ok (.ifCond .ne 9, 3) := by decide +kernel
theorem dX6_image_9 : decode cX6_image 9 = .ok (.aload_n 0, 1) := by decide +kernel
theorem dX6_image_10 : decode cX6_image 10 = .ok (.iconst (-1), 1) := by decide +kernel
theorem dX6_image_11 : decode cX6_image 11 = .ok (.invokevirtual 58, 3) := by decide +kernel
theorem dX6_image_14 : decode cX6_image 14 = .ok (.ireturn, 1) := by decide +kernel
theorem dX6_image_15 : decode cX6_image 15 = .ok (.aload_n 0, 1) := by decide +kernel
theorem dX6_image_16 : decode cX6_image 16 = .ok (.getfield 19, 3) := by decide +kernel
theorem dX6_image_19 : decode cX6_image 19 = .ok (.iload_n 1, 1) := by decide +kernel
theorem dX6_image_20 : decode cX6_image 20 = .ok (.aaload, 1) := by decide +kernel
theorem dX6_image_21 : decode cX6_image 21 = .ok (.aload_n 0, 1) := by decide +kernel
theorem dX6_image_22 : decode cX6_image 22 = .ok (.getfield 12, 3) := by decide +kernel
theorem dX6_image_25 : decode cX6_image 25 = .ok (.invokevirtual 219, 3) := by decide +kernel
theorem dX6_image_28 : decode cX6_image 28 = .ok (.aload_n 0, 1) := by decide +kernel
theorem dX6_image_29 : decode cX6_image 29 = .ok (.getfield 23, 3) := by decide +kernel
theorem dX6_image_32 : decode cX6_image 32 = .ok (.iload_n 1, 1) := by decide +kernel
theorem dX6_image_33 : decode cX6_image 33 = .ok (.iconst 1, 1) := by decide +kernel
theorem dX6_image_34 : decode cX6_image 34 = .ok (.bastore, 1) := by decide +kernel
theorem dX6_image_35 : decode cX6_image 35 = .ok (.aload_n 0, 1) := by decide +kernel
theorem dX6_image_36 : decode cX6_image 36 = .ok (.aload_n 0, 1) := by decide +kernel
theorem dX6_image_37 : decode cX6_image 37 = .ok (.getfield 12, 3) := by decide +kernel
theorem dX6_image_40 : decode cX6_image 40 = .ok (.getfield 102, 3) := by decide +kernel
theorem dX6_image_43 : decode cX6_image 43 = .ok (.invokevirtual 72, 3) := by decide +kernel
theorem dX6_image_46 : decode cX6_image 46 = .ok (.ireturn, 1) := by decide +kernel
theorem dX6_back_0 : decode cX6_back 0 = .ok (.iload_n 1, 1) := by decide +kernel
theorem dX6_back_1 : decode cX6_back 1 = .ok (.iconst 0, 1) := by decide +kernel
theorem dX6_back_2 : decode cX6_back 2 = .ok (.iconst 1, 1) := by decide +kernel
theorem dX6_back_3 : decode cX6_back 3 = .ok (.invokestatic 54, 3) := by decide +kernel
theorem dX6_back_6 : decode cX6_back 6 = .ok (.ifCond .ne 9, 3) := by decide +kernel
theorem dX6_back_9 : decode cX6_back 9 = .ok (.aload_n 0, 1) := by decide +kernel
theorem dX6_back_10 : decode cX6_back 10 = .ok (.iconst (-1), 1) := by decide +kernel
theorem dX6_back_11 : decode cX6_back 11 = .ok (.invokevirtual 58, 3) := by decide +kernel
theorem dX6_back_14 : decode cX6_back 14 = .ok (.ireturn, 1) := by decide +kernel
theorem dX6_back_15 : decode cX6_back 15 = .ok (.aload_n 0, 1) := by decide +kernel
theorem dX6_back_16 : decode cX6_back 16 = .ok (.getfield 23, 3) := by decide +kernel
theorem dX6_back_19 : decode cX6_back 19 = .ok (.iload_n 1, 1) := by decide +kernel
theorem dX6_back_20 : decode cX6_back 20 = .ok (.baload, 1) := by decide +kernel
theorem dX6_back_21 : decode cX6_back 21 = .ok (.ifCond .ne 10, 3) := by decide +kernel
theorem dX6_back_24 : decode cX6_back 24 = .ok (.aload_n 0, 1) := by decide +kernel
theorem dX6_back_25 : decode cX6_back 25 = .ok (.bipush (-4), 2) := by decide +kernel
theorem dX6_back_27 : decode cX6_back 27 = .ok (.invokevirtual 58, 3) := by decide +kernel
theorem dX6_back_30 : decode cX6_back 30 = .ok (.ireturn, 1) := by decide +kernel
theorem dX6_back_31 : decode cX6_back 31 = .ok (.aload_n 0, 1) := by decide +kernel
theorem dX6_back_32 : decode cX6_back 32 = .ok (.getfield 12, 3) := by decide +kernel
theorem dX6_back_35 : decode cX6_back 35 = .ok (.aload_n 0, 1) := by decide +kernel
theorem dX6_back_36 : decode cX6_back 36 = .ok (.getfield 19, 3) := by decide +kernel
theorem dX6_back_39 : decode cX6_back 39 = .ok (.iload_n 1, 1) := by decide +kernel
theorem dX6_back_40 : decode cX6_back 40 = .ok (.aaload, 1) := by decide +kernel
theorem dX6_back_41 : decode cX6_back 41 = .ok (.invokevirtual 219, 3) := by decide +kernel
theorem dX6_back_44 : decode cX6_back 44 = .ok (.aload_n 0, 1) := by decide +kernel
theorem dX6_back_45 : decode cX6_back 45 = .ok (.iconst 0, 1) := by decide +kernel
theorem dX6_back_46 : decode cX6_back 46 = .ok (.putfield 38, 3) := by decide +kernel
theorem dX6_back_49 : decode cX6_back 49 = .ok (.aload_n 0, 1) := by decide +kernel
theorem dX6_back_50 : decode cX6_back 50 = .ok (.aload_n 0, 1) := by decide +kernel
theorem dX6_back_51 : decode cX6_back 51 = .ok (.getfield 12, 3) := by decide +kernel
theorem dX6_back_54 : decode cX6_back 54 = .ok (.getfield 102, 3) := by decide +kernel
theorem dX6_back_57 : decode cX6_back 57 = .ok (.invokevirtual 72, 3) := by decide +kernel
theorem dX6_back_60 : decode cX6_back 60 = .ok (.ireturn, 1) := by decide +kernel
theorem dX6_hop_0 : decode cX6_hop 0 = .ok (.aload_n 0, 1) := by decide +kernel
theorem dX6_hop_1 : decode cX6_hop 1 = .ok (.iload_n 1, 1) := by decide +kernel
theorem dX6_hop_2 : decode cX6_hop 2 = .ok (.iload_n 2, 1) := by decide +kernel
theorem dX6_hop_3 : decode cX6_hop 3 = .ok (.invokevirtual 228, 3) := by decide +kernel
theorem dX6_hop_6 : decode cX6_hop 6 = .ok (.astore 4, 2) := by decide +kernel
theorem dX6_hop_8 : decode cX6_hop 8 = .ok (.aload 4, 2) := by decide +kernel
theorem dX6_hop_10 : decode cX6_hop 10 = .ok (.ifnull 13, 3) := by decide +kernel
theorem dX6_hop_13 : decode cX6_hop 13 = .ok (.iload_n 3, 1) := by decide +kernel
theorem dX6_hop_14 : decode cX6_hop 14 = .ok (.iconst 0, 1) := by decide +kernel
theorem dX6_hop_15 : decode cX6_hop 15 = .ok (.ldc 232, 2) := by decide +kernel
theorem dX6_hop_17 : decode cX6_hop 17 = .ok (.invokestatic 54, 3) := by decide +kernel
theorem dX6_hop_20 : decode cX6_hop 20 = .ok (.ifCond .ne 5, 3) := by decide +kernel
theorem dX6_hop_23 : decode cX6_hop 23 = .ok (.iconst (-1), 1) := by decide +kernel
theorem dX6_hop_24 : decode cX6_hop 24 = .ok (.ireturn, 1) := by decide +kernel
theorem dX6_hop_25 : decode cX6_hop 25 = .ok (.aload_n 0, 1) := by decide +kernel
theorem dX6_hop_26 : decode cX6_hop 26 = .ok (.getfield 12, 3) := by decide +kernel
theorem dX6_hop_29 : decode cX6_hop 29 = .ok (.iload_n 1, 1) := by decide +kernel
theorem dX6_hop_30 : decode cX6_hop 30 = .ok (.aload 4, 2) := by decide +kernel
theorem dX6_hop_32 : decode cX6_hop 32 = .ok (.getfield 206, 3) := by decide +kernel
theorem dX6_hop_35 : decode cX6_hop 35 = .ok (.iload_n 3, 1) := by decide +kernel
theorem dX6_hop_36 : decode cX6_hop 36 = .ok (.invokevirtual 233, 3) := by decide +kernel
theorem dX6_hop_39 : decode cX6_hop 39 = .ok (.ireturn, 1) := by decide +kernel
theorem dX6_alike_0 : decode cX6_alike 0 = .ok (.aload_n 0, 1) := by decide +kernel
theorem dX6_alike_1 : decode cX6_alike 1 = .ok (.getfield 12, 3) := by decide +kernel
theorem dX6_alike_4 : decode cX6_alike 4 = .ok (.iload_n 1, 1) := by decide +kernel
theorem dX6_alike_5 : decode cX6_alike 5 = .ok (.iload_n 2, 1) := by decide +kernel
theorem dX6_alike_6 : decode cX6_alike 6 = .ok (.invokevirtual 132, 3) := by decide +kernel
theorem dX6_alike_9 : decode cX6_alike 9 = .ok (.astore 4, 2) := by decide +kernel
theorem dX6_alike_11 : decode cX6_alike 11 = .ok (.aload 4, 2) := by decide +kernel
theorem dX6_alike_13 : decode cX6_alike 13 = .ok (.ifnonnull 5, 3) := by decide +kernel
theorem dX6_alike_16 : decode cX6_alike 16 = .ok (.iconst (-1), 1) := by decide +kernel
theorem dX6_alike_17 : decode cX6_alike 17 = .ok (.ireturn, 1) := by decide +kernel
theorem dX6_alike_18 : decode cX6_alike 18 = .ok (.aload_n 0, 1) := by decide +kernel
theorem dX6_alike_19 : decode cX6_alike 19 = .ok (.getfield 12, 3) := by decide +kernel
theorem dX6_alike_22 : decode cX6_alike 22 = .ok (.getfield 80, 3) := by decide +kernel
theorem dX6_alike_25 : decode cX6_alike 25 = .ok (.iload_n 1, 1) := by decide +kernel
theorem dX6_alike_26 : decode cX6_alike 26 = .ok (.aaload, 1) := by decide +kernel
theorem dX6_alike_27 : decode cX6_alike 27 = .ok (.getfield 190, 3) := by decide +kernel
theorem dX6_alike_30 : decode cX6_alike 30 = .ok (.astore 5, 2) := by decide +kernel
theorem dX6_alike_32 : decode cX6_alike 32 = .ok (.iload_n 3, 1) := by decide +kernel
theorem dX6_alike_33 : decode cX6_alike 33 = .ok (.tableswitch 75 0 2 #[27, 41, 66], 27) := by decide +kernel
theorem dX6_alike_60 : decode cX6_alike 60 = .ok (.aload 4, 2) := by decide +kernel
theorem dX6_alike_62 : decode cX6_alike 62 = .ok (.getfield 237, 3) := by decide +kernel
theorem dX6_alike_65 : decode cX6_alike 65 = .ok (.aload 5, 2) := by decide +kernel
theorem dX6_alike_67 : decode cX6_alike 67 = .ok (.invokevirtual 238, 3) := by decide +kernel
theorem dX6_alike_70 : decode cX6_alike 70 = .ok (.invokestatic 242, 3) := by decide +kernel
theorem dX6_alike_73 : decode cX6_alike 73 = .ok (.ireturn, 1) := by decide +kernel
theorem dX6_alike_74 : decode cX6_alike 74 = .ok (.aload 4, 2) := by decide +kernel
theorem dX6_alike_76 : decode cX6_alike 76 = .ok (.getfield 237, 3) := by decide +kernel
theorem dX6_alike_79 : decode cX6_alike 79 = .ok (.getfield 206, 3) := by decide +kernel
theorem dX6_alike_82 : decode cX6_alike 82 = .ok (.aload 5, 2) := by decide +kernel
theorem dX6_alike_84 : decode cX6_alike 84 = .ok (.getfield 206, 3) := by decide +kernel
theorem dX6_alike_87 : decode cX6_alike 87 = .ok (.if_icmp .ne 7, 3) := by decide +kernel
theorem dX6_alike_90 : decode cX6_alike 90 = .ok (.iconst 1, 1) := by decide +kernel
theorem dX6_alike_91 : decode cX6_alike 91 = .ok (.goto 4, 3) := by decide +kernel
theorem dX6_alike_94 : decode cX6_alike 94 = .ok (.iconst 0, 1) := by decide +kernel
theorem dX6_alike_95 : decode cX6_alike 95 = .ok (.invokestatic 242, 3) := by decide +kernel
theorem dX6_alike_98 : decode cX6_alike 98 = .ok (.ireturn, 1) := by decide +kernel
theorem dX6_alike_99 : decode cX6_alike 99 = .ok (.aload 4, 2) := by decide +kernel
theorem dX6_alike_101 : decode cX6_alike 101 = .ok (.getfield 246, 3) := by decide +kernel
theorem dX6_alike_104 : decode cX6_alike 104 = .ok (.invokestatic 242, 3) := by decide +kernel
theorem dX6_alike_107 : decode cX6_alike 107 = .ok (.ireturn, 1) := by decide +kernel
theorem dX6_alike_108 : decode cX6_alike 108 = .ok (.iconst (-1), 1) := by decide +kernel
theorem dX6_alike_109 : decode cX6_alike 109 = .ok (.ireturn, 1) := by decide +kernel
theorem dX6_mapOf_0 : decode cX6_mapOf 0 = .ok (.aload_n 0, 1) := by decide +kernel
theorem dX6_mapOf_1 : decode cX6_mapOf 1 = .ok (.iload_n 1, 1) := by decide +kernel
theorem dX6_mapOf_2 : decode cX6_mapOf 2 = .ok (.iload_n 2, 1) := by decide +kernel
theorem dX6_mapOf_3 : decode cX6_mapOf 3 = .ok (.invokevirtual 228, 3) := by decide +kernel
theorem dX6_mapOf_6 : decode cX6_mapOf 6 = .ok (.astore 4, 2) := by decide +kernel
theorem dX6_mapOf_8 : decode cX6_mapOf 8 = .ok (.aload 4, 2) := by decide +kernel
theorem dX6_mapOf_10 : decode cX6_mapOf 10 = .ok (.ifnonnull 5, 3) := by decide +kernel
theorem dX6_mapOf_13 : decode cX6_mapOf 13 = .ok (.iconst (-1), 1) := by decide +kernel
theorem dX6_mapOf_14 : decode cX6_mapOf 14 = .ok (.ireturn, 1) := by decide +kernel
theorem dX6_mapOf_15 : decode cX6_mapOf 15 = .ok (.iload_n 3, 1) := by decide +kernel
theorem dX6_mapOf_16 : decode cX6_mapOf 16 = .ok (.tableswitch 72 0 3 #[32, 38, 44, 50], 32) := by decide +kernel
theorem dX6_mapOf_48 : decode cX6_mapOf 48 = .ok (.aload 4, 2) := by decide +kernel
theorem dX6_mapOf_50 : decode cX6_mapOf 50 = .ok (.getfield 206, 3) := by decide +kernel
theorem dX6_mapOf_53 : decode cX6_mapOf 53 = .ok (.ireturn, 1) := by decide +kernel
theorem dX6_mapOf_54 : decode cX6_mapOf 54 = .ok (.aload 4, 2) := by decide +kernel
theorem dX6_mapOf_56 : decode cX6_mapOf 56 = .ok (.getfield 250, 3) := by decide +kernel
theorem dX6_mapOf_59 : decode cX6_mapOf 59 = .ok (.ireturn, 1) := by decide +kernel
theorem dX6_mapOf_60 : decode cX6_mapOf 60 = .ok (.aload 4, 2) := by decide +kernel
theorem dX6_mapOf_62 : decode cX6_mapOf 62 = .ok (.getfield 253, 3) := by decide +kernel
theorem dX6_mapOf_65 : decode cX6_mapOf 65 = .ok (.ireturn, 1) := by decide +kernel
theorem dX6_mapOf_66 : decode cX6_mapOf 66 = .ok (.iload_n 2, 1) := by decide +kernel
theorem dX6_mapOf_67 : decode cX6_mapOf 67 = .ok (.iconst (-1), 1) := by decide +kernel
theorem dX6_mapOf_68 : decode cX6_mapOf 68 = .ok (.if_icmp .ne 18, 3) := by decide +kernel
theorem dX6_mapOf_71 : decode cX6_mapOf 71 = .ok (.aload_n 0, 1) := by decide +kernel
theorem dX6_mapOf_72 : decode cX6_mapOf 72 = .ok (.getfield 12, 3) := by decide +kernel
theorem dX6_mapOf_75 : decode cX6_mapOf 75 = .ok (.getfield 80, 3) := by decide +kernel
theorem dX6_mapOf_78 : decode cX6_mapOf 78 = .ok (.iload_n 1, 1) := by decide +kernel
theorem dX6_mapOf_79 : decode cX6_mapOf 79 = .ok (.aaload, 1) := by decide +kernel
theorem dX6_mapOf_80 : decode cX6_mapOf 80 = .ok (.getfield 256, 3) := by decide +kernel
theorem dX6_mapOf_83 : decode cX6_mapOf 83 = .ok (.goto 4, 3) := by decide +kernel
theorem dX6_mapOf_86 : decode cX6_mapOf 86 = .ok (.iconst (-1), 1) := by decide +kernel
theorem dX6_mapOf_87 : decode cX6_mapOf 87 = .ok (.ireturn, 1) := by decide +kernel
theorem dX6_mapOf_88 : decode cX6_mapOf 88 = .ok (.iconst (-1), 1) := by decide +kernel
theorem dX6_mapOf_89 : decode cX6_mapOf 89 = .ok (.ireturn, 1) := by decide +kernel
theorem dX6_meets_0 : decode cX6_meets 0 = .ok (.aload_n 0, 1) := by decide +kernel
theorem dX6_meets_1 : decode cX6_meets 1 = .ok (.getfield 12, 3) := by decide +kernel
theorem dX6_meets_4 : decode cX6_meets 4 = .ok (.invokevirtual 259, 3) := by decide +kernel
theorem dX6_meets_7 : decode cX6_meets 7 = .ok (.ifCond .ne 5, 3) := by decide +kernel
theorem dX6_meets_10 : decode cX6_meets 10 = .ok (.iconst (-1), 1) := by decide +kernel
theorem dX6_meets_11 : decode cX6_meets 11 = .ok (.ireturn, 1) := by decide +kernel
theorem dX6_meets_12 : decode cX6_meets 12 = .ok (.iconst 0, 1) := by decide +kernel
theorem dX6_meets_13 : decode cX6_meets 13 = .ok (.istore_n 1, 1) := by decide +kernel
theorem dX6_meets_14 : decode cX6_meets 14 = .ok (.iload_n 1, 1) := by decide +kernel
theorem dX6_meets_15 : decode cX6_meets 15 = .ok (.sipush 4000, 3) := by decide +kernel
theorem dX6_meets_18 : decode cX6_meets 18 = .ok (.if_icmp .ge 38, 3) := by decide +kernel
theorem dX6_meets_21 : decode cX6_meets 21 = .ok (.aload_n 0, 1) := by decide +kernel
theorem dX6_meets_22 : decode cX6_meets 22 = .ok (.getfield 12, 3) := by decide +kernel
theorem dX6_meets_25 : decode cX6_meets 25 = .ok (.aload_n 0, 1) := by decide +kernel
theorem dX6_meets_26 : decode cX6_meets 26 = .ok (.getfield 12, 3) := by decide +kernel
theorem dX6_meets_29 : decode cX6_meets 29 = .ok (.getfield 102, 3) := by decide +kernel
theorem dX6_meets_32 : decode cX6_meets 32 = .ok (.iload_n 1, 1) := by decide +kernel
theorem dX6_meets_33 : decode cX6_meets 33 = .ok (.iadd, 1) := by decide +kernel
theorem dX6_meets_34 : decode cX6_meets 34 = .ok (.invokevirtual 262, 3) := by decide +kernel
theorem dX6_meets_37 : decode cX6_meets 37 = .ok (.ifCond .eq 13, 3) := by decide +kernel
theorem dX6_meets_40 : decode cX6_meets 40 = .ok (.aload_n 0, 1) := by decide +kernel
theorem dX6_meets_41 : decode cX6_meets 41 = .ok (.getfield 12, 3) := by decide +kernel
theorem dX6_meets_44 : decode cX6_meets 44 = .ok (.getfield 102, 3) := by decide +kernel
theorem dX6_meets_47 : decode cX6_meets 47 = .ok (.iload_n 1, 1) := by decide +kernel
theorem dX6_meets_48 : decode cX6_meets 48 = .ok (.iadd, 1) := by decide +kernel
theorem dX6_meets_49 : decode cX6_meets 49 = .ok (.ireturn, 1) := by decide +kernel
theorem dX6_meets_50 : decode cX6_meets 50 = .ok (.iinc 1 1, 3) := by decide +kernel
theorem dX6_meets_53 : decode cX6_meets 53 = .ok (.goto (-39), 3) := by decide +kernel
theorem dX6_meets_56 : decode cX6_meets 56 = .ok (.iconst (-1), 1) := by decide +kernel
theorem dX6_meets_57 : decode cX6_meets 57 = .ok (.ireturn, 1) := by decide +kernel
theorem dX6_used_0 : decode cX6_used 0 = .ok (.aload_n 0, 1) := by decide +kernel
theorem dX6_used_1 : decode cX6_used 1 = .ok (.getfield 12, 3) := by decide +kernel
theorem dX6_used_4 : decode cX6_used 4 = .ok (.iload_n 1, 1) := by decide +kernel
theorem dX6_used_5 : decode cX6_used 5 = .ok (.invokevirtual 95, 3) := by decide +kernel
theorem dX6_used_8 : decode cX6_used 8 = .ok (.astore 4, 2) := by decide +kernel
theorem dX6_used_10 : decode cX6_used 10 = .ok (.aload 4, 2) := by decide +kernel
theorem dX6_used_12 : decode cX6_used 12 = .ok (.ifnull 24, 3) := by decide +kernel
theorem dX6_used_15 : decode cX6_used 15 = .ok (.iload_n 2, 1) := by decide +kernel
theorem dX6_used_16 : decode cX6_used 16 = .ok (.iconst 0, 1) := by decide +kernel
theorem dX6_used_17 : decode cX6_used 17 = .ok (.bipush 22, 2) := by decide +kernel
theorem dX6_used_19 : decode cX6_used 19 = .ok (.invokestatic 54, 3) := by decide +kernel
theorem dX6_used_22 : decode cX6_used 22 = .ok (.ifCond .eq 14, 3) := by decide +kernel
theorem dX6_used_25 : decode cX6_used 25 = .ok (.iload_n 3, 1) := by decide +kernel
theorem dX6_used_26 : decode cX6_used 26 = .ok (.iconst 1, 1) := by decide +kernel
theorem dX6_used_27 : decode cX6_used 27 = .ok (.sipush 512, 3) := by decide +kernel
theorem dX6_used_30 : decode cX6_used 30 = .ok (.invokestatic 54, 3) := by decide +kernel
theorem dX6_used_33 : decode cX6_used 33 = .ok (.ifCond .ne 5, 3) := by decide +kernel
theorem dX6_used_36 : decode cX6_used 36 = .ok (.iconst (-1), 1) := by decide +kernel
theorem dX6_used_37 : decode cX6_used 37 = .ok (.ireturn, 1) := by decide +kernel
theorem dX6_used_38 : decode cX6_used 38 = .ok (.iconst 0, 1) := by decide +kernel
theorem dX6_used_39 : decode cX6_used 39 = .ok (.istore 5, 2) := by decide +kernel
theorem dX6_used_41 : decode cX6_used 41 = .ok (.iconst 0, 1) := by decide +kernel
theorem dX6_used_42 : decode cX6_used 42 = .ok (.istore 6, 2) := by decide +kernel
theorem dX6_used_44 : decode cX6_used 44 = .ok (.iload 6, 2) := by decide +kernel
theorem dX6_used_46 : decode cX6_used 46 = .ok (.iload_n 3, 1) := by decide +kernel
theorem dX6_used_47 : decode cX6_used 47 = .ok (.if_icmp .ge 42, 3) := by decide +kernel
theorem dX6_used_50 : decode cX6_used 50 = .ok (.aload_n 0, 1) := by decide +kernel
theorem dX6_used_51 : decode cX6_used 51 = .ok (.getfield 12, 3) := by decide +kernel
theorem dX6_used_54 : decode cX6_used 54 = .ok (.iload_n 1, 1) := by decide +kernel
theorem dX6_used_55 : decode cX6_used 55 = .ok (.aload 4, 2) := by decide +kernel
theorem dX6_used_57 : decode cX6_used 57 = .ok (.getfield 190, 3) := by decide +kernel
theorem dX6_used_60 : decode cX6_used 60 = .ok (.getfield 206, 3) := by decide +kernel
theorem dX6_used_63 : decode cX6_used 63 = .ok (.aload_n 0, 1) := by decide +kernel
theorem dX6_used_64 : decode cX6_used 64 = .ok (.getfield 12, 3) := by decide +kernel
theorem dX6_used_67 : decode cX6_used 67 = .ok (.getfield 102, 3) := by decide +kernel
theorem dX6_used_70 : decode cX6_used 70 = .ok (.iload 6, 2) := by decide +kernel
theorem dX6_used_72 : decode cX6_used 72 = .ok (.iadd, 1) := by decide +kernel
theorem dX6_used_73 : decode cX6_used 73 = .ok (.invokevirtual 233, 3) := by decide +kernel
theorem dX6_used_76 : decode cX6_used 76 = .ok (.iload_n 2, 1) := by decide +kernel
theorem dX6_used_77 : decode cX6_used 77 = .ok (.if_icmp .ne 6, 3) := by decide +kernel
theorem dX6_used_80 : decode cX6_used 80 = .ok (.iinc 5 1, 3) := by decide +kernel
theorem dX6_used_83 : decode cX6_used 83 = .ok (.iinc 6 1, 3) := by decide +kernel
theorem dX6_used_86 : decode cX6_used 86 = .ok (.goto (-42), 3) := by decide +kernel
theorem dX6_used_89 : decode cX6_used 89 = .ok (.iload 5, 2) := by decide +kernel
theorem dX6_used_91 : decode cX6_used 91 = .ok (.ireturn, 1) := by decide +kernel
theorem dX6_bad_0 : decode cX6_bad 0 = .ok (.aload_n 0, 1) := by decide +kernel
theorem dX6_bad_1 : decode cX6_bad 1 = .ok (.getfield 12, 3) := by decide +kernel
theorem dX6_bad_4 : decode cX6_bad 4 = .ok (.iload_n 1, 1) := by decide +kernel
theorem dX6_bad_5 : decode cX6_bad 5 = .ok (.invokevirtual 95, 3) := by decide +kernel
theorem dX6_bad_8 : decode cX6_bad 8 = .ok (.astore_n 3, 1) := by decide +kernel
theorem dX6_bad_9 : decode cX6_bad 9 = .ok (.aload_n 3, 1) := by decide +kernel
theorem dX6_bad_10 : decode cX6_bad 10 = .ok (.ifnull 13, 3) := by decide +kernel
theorem dX6_bad_13 : decode cX6_bad 13 = .ok (.iload_n 2, 1) := by decide +kernel
theorem dX6_bad_14 : decode cX6_bad 14 = .ok (.iconst 1, 1) := by decide +kernel
theorem dX6_bad_15 : decode cX6_bad 15 = .ok (.bipush 99, 2) := by decide +kernel
theorem dX6_bad_17 : decode cX6_bad 17 = .ok (.invokestatic 54, 3) := by decide +kernel
theorem dX6_bad_20 : decode cX6_bad 20 = .ok (.ifCond .ne 7, 3) := by decide +kernel
theorem dX6_bad_23 : decode cX6_bad 23 = .ok (.iconst (-1), 1) := by decide +kernel
theorem dX6_bad_24 : decode cX6_bad 24 = .ok (.goto 8, 3) := by decide +kernel
theorem dX6_bad_27 : decode cX6_bad 27 = .ok (.aload_n 3, 1) := by decide +kernel
theorem dX6_bad_28 : decode cX6_bad 28 = .ok (.iload_n 2, 1) := by decide +kernel
theorem dX6_bad_29 : decode cX6_bad 29 = .ok (.invokevirtual 203, 3) := by decide +kernel
theorem dX6_bad_32 : decode cX6_bad 32 = .ok (.ireturn, 1) := by decide +kernel
theorem dX6_sent_0 : decode cX6_sent 0 = .ok (.aload_n 0, 1) := by decide +kernel
theorem dX6_sent_1 : decode cX6_sent 1 = .ok (.getfield 12, 3) := by decide +kernel
theorem dX6_sent_4 : decode cX6_sent 4 = .ok (.iload_n 1, 1) := by decide +kernel
theorem dX6_sent_5 : decode cX6_sent 5 = .ok (.invokevirtual 95, 3) := by decide +kernel
theorem dX6_sent_8 : decode cX6_sent 8 = .ok (.astore 4, 2) := by decide +kernel
theorem dX6_sent_10 : decode cX6_sent 10 = .ok (.aload 4, 2) := by decide +kernel
theorem dX6_sent_12 : decode cX6_sent 12 = .ok (.ifnull 13, 3) := by decide +kernel
theorem dX6_sent_15 : decode cX6_sent 15 = .ok (.iload_n 2, 1) := by decide +kernel
theorem dX6_sent_16 : decode cX6_sent 16 = .ok (.iconst 0, 1) := by decide +kernel
theorem dX6_sent_17 : decode cX6_sent 17 = .ok (.bipush 22, 2) := by decide +kernel
theorem dX6_sent_19 : decode cX6_sent 19 = .ok (.invokestatic 54, 3) := by decide +kernel
theorem dX6_sent_22 : decode cX6_sent 22 = .ok (.ifCond .ne 5, 3) := by decide +kernel
theorem dX6_sent_25 : decode cX6_sent 25 = .ok (.iconst (-1), 1) := by decide +kernel
theorem dX6_sent_26 : decode cX6_sent 26 = .ok (.ireturn, 1) := by decide +kernel
theorem dX6_sent_27 : decode cX6_sent 27 = .ok (.iload_n 3, 1) := by decide +kernel
theorem dX6_sent_28 : decode cX6_sent 28 = .ok (.lookupswitch 44 #[(0, 28), (1, 36)], 28) := by decide +kernel
theorem dX6_sent_56 : decode cX6_sent 56 = .ok (.aload 4, 2) := by decide +kernel
theorem dX6_sent_58 : decode cX6_sent 58 = .ok (.getfield 265, 3) := by decide +kernel
theorem dX6_sent_61 : decode cX6_sent 61 = .ok (.iload_n 2, 1) := by decide +kernel
theorem dX6_sent_62 : decode cX6_sent 62 = .ok (.iaload, 1) := by decide +kernel
theorem dX6_sent_63 : decode cX6_sent 63 = .ok (.ireturn, 1) := by decide +kernel
theorem dX6_sent_64 : decode cX6_sent 64 = .ok (.aload 4, 2) := by decide +kernel
theorem dX6_sent_66 : decode cX6_sent 66 = .ok (.getfield 268, 3) := by decide +kernel
theorem dX6_sent_69 : decode cX6_sent 69 = .ok (.iload_n 2, 1) := by decide +kernel
theorem dX6_sent_70 : decode cX6_sent 70 = .ok (.iaload, 1) := by decide +kernel
theorem dX6_sent_71 : decode cX6_sent 71 = .ok (.ireturn, 1) := by decide +kernel
theorem dX6_sent_72 : decode cX6_sent 72 = .ok (.iconst (-1), 1) := by decide +kernel
theorem dX6_sent_73 : decode cX6_sent 73 = .ok (.ireturn, 1) := by decide +kernel
theorem dX6_link_0 : decode cX6_link 0 = .ok (.aload_n 0, 1) := by decide +kernel
theorem dX6_link_1 : decode cX6_link 1 = .ok (.getfield 12, 3) := by decide +kernel
theorem dX6_link_4 : decode cX6_link 4 = .ok (.iload_n 1, 1) := by decide +kernel
theorem dX6_link_5 : decode cX6_link 5 = .ok (.iload_n 2, 1) := by decide +kernel
theorem dX6_link_6 : decode cX6_link 6 = .ok (.invokevirtual 132, 3) := by decide +kernel
theorem dX6_link_9 : decode cX6_link 9 = .ok (.astore 4, 2) := by decide +kernel
theorem dX6_link_11 : decode cX6_link 11 = .ok (.aload 4, 2) := by decide +kernel
theorem dX6_link_13 : decode cX6_link 13 = .ok (.ifnonnull 5, 3) := by decide +kernel
theorem dX6_link_16 : decode cX6_link 16 = .ok (.iconst (-1), 1) := by decide +kernel
theorem dX6_link_17 : decode cX6_link 17 = .ok (.ireturn, 1) := by decide +kernel
theorem dX6_link_18 : decode cX6_link 18 = .ok (.iload_n 3, 1) := by decide +kernel
theorem dX6_link_19 : decode cX6_link 19 = .ok (.tableswitch 213 0 16 #[81, 87, 96, 105, 114, 123, 129, 138, 147, 156, 165, 171, 177, 183, 189, 198, 207], 81) := by decide +kernel
theorem dX6_link_100 : decode cX6_link 100 = .ok (.aload 4, 2) := by decide +kernel
theorem dX6_link_102 : decode cX6_link 102 = .ok (.getfield 271, 3) := by decide +kernel
theorem dX6_link_105 : decode cX6_link 105 = .ok (.ireturn, 1) := by decide +kernel
theorem dX6_link_106 : decode cX6_link 106 = .ok (.aload 4, 2) := by decide +kernel
theorem dX6_link_108 : decode cX6_link 108 = .ok (.getfield 135, 3) := by decide +kernel
theorem dX6_link_111 : decode cX6_link 111 = .ok (.getfield 153, 3) := by decide +kernel
theorem dX6_link_114 : decode cX6_link 114 = .ok (.ireturn, 1) := by decide +kernel
theorem dX6_link_115 : decode cX6_link 115 = .ok (.aload 4, 2) := by decide +kernel
theorem dX6_link_117 : decode cX6_link 117 = .ok (.getfield 141, 3) := by decide +kernel
theorem dX6_link_120 : decode cX6_link 120 = .ok (.getfield 153, 3) := by decide +kernel
theorem dX6_link_123 : decode cX6_link 123 = .ok (.ireturn, 1) := by decide +kernel
theorem dX6_link_124 : decode cX6_link 124 = .ok (.aload 4, 2) := by decide +kernel
theorem dX6_link_126 : decode cX6_link 126 = .ok (.getfield 135, 3) := by decide +kernel
theorem dX6_link_129 : decode cX6_link 129 = .ok (.getfield 274, 3) := by decide +kernel
theorem dX6_link_132 : decode cX6_link 132 = .ok (.ireturn, 1) := by decide +kernel
theorem dX6_link_133 : decode cX6_link 133 = .ok (.aload 4, 2) := by decide +kernel
theorem dX6_link_135 : decode cX6_link 135 = .ok (.getfield 141, 3) := by decide +kernel
theorem dX6_link_138 : decode cX6_link 138 = .ok (.getfield 274, 3) := by decide +kernel
theorem dX6_link_141 : decode cX6_link 141 = .ok (.ireturn, 1) := by decide +kernel
theorem dX6_link_142 : decode cX6_link 142 = .ok (.aload 4, 2) := by decide +kernel
theorem dX6_link_144 : decode cX6_link 144 = .ok (.getfield 277, 3) := by decide +kernel
theorem dX6_link_147 : decode cX6_link 147 = .ok (.ireturn, 1) := by decide +kernel
theorem dX6_link_148 : decode cX6_link 148 = .ok (.aload 4, 2) := by decide +kernel
theorem dX6_link_150 : decode cX6_link 150 = .ok (.getfield 135, 3) := by decide +kernel
theorem dX6_link_153 : decode cX6_link 153 = .ok (.getfield 280, 3) := by decide +kernel
theorem dX6_link_156 : decode cX6_link 156 = .ok (.ireturn, 1) := by decide +kernel
theorem dX6_link_157 : decode cX6_link 157 = .ok (.aload 4, 2) := by decide +kernel
theorem dX6_link_159 : decode cX6_link 159 = .ok (.getfield 135, 3) := by decide +kernel
theorem dX6_link_162 : decode cX6_link 162 = .ok (.getfield 283, 3) := by decide +kernel
theorem dX6_link_165 : decode cX6_link 165 = .ok (.ireturn, 1) := by decide +kernel
theorem dX6_link_166 : decode cX6_link 166 = .ok (.aload 4, 2) := by decide +kernel
theorem dX6_link_168 : decode cX6_link 168 = .ok (.getfield 141, 3) := by decide +kernel
theorem dX6_link_171 : decode cX6_link 171 = .ok (.getfield 280, 3) := by decide +kernel
theorem dX6_link_174 : decode cX6_link 174 = .ok (.ireturn, 1) := by decide +kernel
theorem dX6_link_175 : decode cX6_link 175 = .ok (.aload 4, 2) := by decide +kernel
theorem dX6_link_177 : decode cX6_link 177 = .ok (.getfield 141, 3) := by decide +kernel
theorem dX6_link_180 : decode cX6_link 180 = .ok (.getfield 283, 3) := by decide +kernel
theorem dX6_link_183 : decode cX6_link 183 = .ok (.ireturn, 1) := by decide +kernel
theorem dX6_link_184 : decode cX6_link 184 = .ok (.aload 4, 2) := by decide +kernel
theorem dX6_link_186 : decode cX6_link 186 = .ok (.getfield 286, 3) := by decide +kernel
theorem dX6_link_189 : decode cX6_link 189 = .ok (.ireturn, 1) := by decide +kernel
theorem dX6_link_190 : decode cX6_link 190 = .ok (.aload 4, 2) := by decide +kernel
theorem dX6_link_192 : decode cX6_link 192 = .ok (.getfield 289, 3) := by decide +kernel
theorem dX6_link_195 : decode cX6_link 195 = .ok (.ireturn, 1) := by decide +kernel
theorem dX6_link_196 : decode cX6_link 196 = .ok (.aload 4, 2) := by decide +kernel
theorem dX6_link_198 : decode cX6_link 198 = .ok (.getfield 292, 3) := by decide +kernel
theorem dX6_link_201 : decode cX6_link 201 = .ok (.ireturn, 1) := by decide +kernel
theorem dX6_link_202 : decode cX6_link 202 = .ok (.aload 4, 2) := by decide +kernel
theorem dX6_link_204 : decode cX6_link 204 = .ok (.getfield 295, 3) := by decide +kernel
theorem dX6_link_207 : decode cX6_link 207 = .ok (.ireturn, 1) := by decide +kernel
theorem dX6_link_208 : decode cX6_link 208 = .ok (.aload 4, 2) := by decide +kernel
theorem dX6_link_210 : decode cX6_link 210 = .ok (.getfield 135, 3) := by decide +kernel
theorem dX6_link_213 : decode cX6_link 213 = .ok (.getfield 298, 3) := by decide +kernel
theorem dX6_link_216 : decode cX6_link 216 = .ok (.ireturn, 1) := by decide +kernel
theorem dX6_link_217 : decode cX6_link 217 = .ok (.aload 4, 2) := by decide +kernel
theorem dX6_link_219 : decode cX6_link 219 = .ok (.getfield 141, 3) := by decide +kernel
theorem dX6_link_222 : decode cX6_link 222 = .ok (.getfield 298, 3) := by decide +kernel
theorem dX6_link_225 : decode cX6_link 225 = .ok (.ireturn, 1) := by decide +kernel
theorem dX6_link_226 : decode cX6_link 226 = .ok (.aload 4, 2) := by decide +kernel
theorem dX6_link_228 : decode cX6_link 228 = .ok (.getfield 178, 3) := by decide +kernel
theorem dX6_link_231 : decode cX6_link 231 = .ok (.ireturn, 1) := by decide +kernel
theorem dX6_link_232 : decode cX6_link 232 = .ok (.iconst (-1), 1) := by decide +kernel
theorem dX6_link_233 : decode cX6_link 233 = .ok (.ireturn, 1) := by decide +kernel
theorem dX6_reserved_0 : decode cX6_reserved 0 = .ok (.aload_n 0, 1) := by decide +kernel
theorem dX6_reserved_1 : decode cX6_reserved 1 = .ok (.getfield 12, 3) := by decide +kernel
theorem dX6_reserved_4 : decode cX6_reserved 4 = .ok (.iload_n 1, 1) := by decide +kernel
theorem dX6_reserved_5 : decode cX6_reserved 5 = .ok (.iload_n 2, 1) := by decide +kernel
theorem dX6_reserved_6 : decode cX6_reserved 6 = .ok (.invokevirtual 132, 3) := by decide +kernel
theorem dX6_reserved_9 : decode cX6_reserved 9 = .ok (.astore 4, 2) := by decide +kernel
theorem dX6_reserved_11 : decode cX6_reserved 11 = .ok (.aload 4, 2) := by decide +kernel
theorem dX6_reserved_13 : decode cX6_reserved 13 = .ok (.ifnull 14, 3) := by decide +kernel
theorem dX6_reserved_16 : decode cX6_reserved 16 = .ok (.aload 4, 2) := by decide +kernel
theorem dX6_reserved_18 : decode cX6_reserved 18 = .ok (.getfield 159, 3) := by decide +kernel
theorem dX6_reserved_21 : decode cX6_reserved 21 = .ok (.getfield 163, 3) := by decide +kernel
theorem dX6_reserved_24 : decode cX6_reserved 24 = .ok (.ifCond .ne 5, 3) := by decide +kernel
theorem dX6_reserved_27 : decode cX6_reserved 27 = .ok (.iconst (-1), 1) := by decide +kernel
theorem dX6_reserved_28 : decode cX6_reserved 28 = .ok (.ireturn, 1) := by decide +kernel
theorem dX6_reserved_29 : decode cX6_reserved 29 = .ok (.iload_n 3, 1) := by decide +kernel
theorem dX6_reserved_30 : decode cX6_reserved 30 = .ok (.tableswitch 92 0 5 #[38, 47, 56, 65, 74, 83], 38) := by decide +kernel
theorem dX6_reserved_68 : decode cX6_reserved 68 = .ok (.aload 4, 2) := by decide +kernel
theorem dX6_reserved_70 : decode cX6_reserved 70 = .ok (.getfield 159, 3) := by decide +kernel
theorem dX6_reserved_73 : decode cX6_reserved 73 = .ok (.getfield 163, 3) := by decide +kernel
theorem dX6_reserved_76 : decode cX6_reserved 76 = .ok (.ireturn, 1) := by decide +kernel
theorem dX6_reserved_77 : decode cX6_reserved 77 = .ok (.aload 4, 2) := by decide +kernel
theorem dX6_reserved_79 : decode cX6_reserved 79 = .ok (.getfield 159, 3) := by decide +kernel
theorem dX6_reserved_82 : decode cX6_reserved 82 = .ok (.getfield 307, 3) := by decide +kernel
theorem dX6_reserved_85 : decode cX6_reserved 85 = .ok (.ireturn, 1) := by decide +kernel
theorem dX6_reserved_86 : decode cX6_reserved 86 = .ok (.aload 4, 2) := by decide +kernel
theorem dX6_reserved_88 : decode cX6_reserved 88 = .ok (.getfield 159, 3) := by decide +kernel
theorem dX6_reserved_91 : decode cX6_reserved 91 = .ok (.getfield 310, 3) := by decide +kernel
theorem dX6_reserved_94 : decode cX6_reserved 94 = .ok (.ireturn, 1) := by decide +kernel
theorem dX6_reserved_95 : decode cX6_reserved 95 = .ok (.aload 4, 2) := by decide +kernel
theorem dX6_reserved_97 : decode cX6_reserved 97 = .ok (.getfield 159, 3) := by decide +kernel
theorem dX6_reserved_100 : decode cX6_reserved 100 = .ok (.getfield 313, 3) := by decide +kernel
theorem dX6_reserved_103 : decode cX6_reserved 103 = .ok (.ireturn, 1) := by decide +kernel
theorem dX6_reserved_104 : decode cX6_reserved 104 = .ok (.aload 4, 2) := by decide +kernel
theorem dX6_reserved_106 : decode cX6_reserved 106 = .ok (.getfield 159, 3) := by decide +kernel
theorem dX6_reserved_109 : decode cX6_reserved 109 = .ok (.getfield 316, 3) := by decide +kernel
theorem dX6_reserved_112 : decode cX6_reserved 112 = .ok (.ireturn, 1) := by decide +kernel
theorem dX6_reserved_113 : decode cX6_reserved 113 = .ok (.aload 4, 2) := by decide +kernel
theorem dX6_reserved_115 : decode cX6_reserved 115 = .ok (.getfield 159, 3) := by decide +kernel
theorem dX6_reserved_118 : decode cX6_reserved 118 = .ok (.getfield 319, 3) := by decide +kernel
theorem dX6_reserved_121 : decode cX6_reserved 121 = .ok (.ireturn, 1) := by decide +kernel
theorem dX6_reserved_122 : decode cX6_reserved 122 = .ok (.iconst (-1), 1) := by decide +kernel
theorem dX6_reserved_123 : decode cX6_reserved 123 = .ok (.ireturn, 1) := by decide +kernel
theorem dX6_odds_0 : decode cX6_odds 0 = .ok (.aload_n 0, 1) := by decide +kernel
theorem dX6_odds_1 : decode cX6_odds 1 = .ok (.getfield 12, 3) := by decide +kernel
theorem dX6_odds_4 : decode cX6_odds 4 = .ok (.iload_n 1, 1) := by decide +kernel
theorem dX6_odds_5 : decode cX6_odds 5 = .ok (.iload_n 2, 1) := by decide +kernel
theorem dX6_odds_6 : decode cX6_odds 6 = .ok (.invokevirtual 132, 3) := by decide +kernel
theorem dX6_odds_9 : decode cX6_odds 9 = .ok (.astore 5, 2) := by decide +kernel
theorem dX6_odds_11 : decode cX6_odds 11 = .ok (.aload 5, 2) := by decide +kernel
theorem dX6_odds_13 : decode cX6_odds 13 = .ok (.ifnull 23, 3) := by decide +kernel
theorem dX6_odds_16 : decode cX6_odds 16 = .ok (.iload_n 3, 1) := by decide +kernel
theorem dX6_odds_17 : decode cX6_odds 17 = .ok (.iconst 1, 1) := by decide +kernel
theorem dX6_odds_18 : decode cX6_odds 18 = .ok (.bipush 64, 2) := by decide +kernel
theorem dX6_odds_20 : decode cX6_odds 20 = .ok (.invokestatic 54, 3) := by decide +kernel
theorem dX6_odds_23 : decode cX6_odds 23 = .ok (.ifCond .eq 13, 3) := by decide +kernel
theorem dX6_odds_26 : decode cX6_odds 26 = .ok (.iload 4, 2) := by decide +kernel
theorem dX6_odds_28 : decode cX6_odds 28 = .ok (.iconst 0, 1) := by decide +kernel
theorem dX6_odds_29 : decode cX6_odds 29 = .ok (.iconst 1, 1) := by decide +kernel
theorem dX6_odds_30 : decode cX6_odds 30 = .ok (.invokestatic 54, 3) := by decide +kernel
theorem dX6_odds_33 : decode cX6_odds 33 = .ok (.ifCond .ne 5, 3) := by decide +kernel
theorem dX6_odds_36 : decode cX6_odds 36 = .ok (.iconst (-1), 1) := by decide +kernel
theorem dX6_odds_37 : decode cX6_odds 37 = .ok (.ireturn, 1) := by decide +kernel
theorem dX6_odds_38 : decode cX6_odds 38 = .ok (.iconst 0, 1) := by decide +kernel
theorem dX6_odds_39 : decode cX6_odds 39 = .ok (.istore 6, 2) := by decide +kernel
theorem dX6_odds_41 : decode cX6_odds 41 = .ok (.iconst 0, 1) := by decide +kernel
theorem dX6_odds_42 : decode cX6_odds 42 = .ok (.istore 7, 2) := by decide +kernel
theorem dX6_odds_44 : decode cX6_odds 44 = .ok (.iload 7, 2) := by decide +kernel
theorem dX6_odds_46 : decode cX6_odds 46 = .ok (.iload_n 3, 1) := by decide +kernel
theorem dX6_odds_47 : decode cX6_odds 47 = .ok (.if_icmp .ge 55, 3) := by decide +kernel
theorem dX6_odds_50 : decode cX6_odds 50 = .ok (.aload_n 0, 1) := by decide +kernel
theorem dX6_odds_51 : decode cX6_odds 51 = .ok (.getfield 12, 3) := by decide +kernel
theorem dX6_odds_54 : decode cX6_odds 54 = .ok (.getfield 102, 3) := by decide +kernel
theorem dX6_odds_57 : decode cX6_odds 57 = .ok (.iconst 2, 1) := by decide +kernel
theorem dX6_odds_58 : decode cX6_odds 58 = .ok (.iload 7, 2) := by decide +kernel
theorem dX6_odds_60 : decode cX6_odds 60 = .ok (.imul, 1) := by decide +kernel
theorem dX6_odds_61 : decode cX6_odds 61 = .ok (.iadd, 1) := by decide +kernel
theorem dX6_odds_62 : decode cX6_odds 62 = .ok (.istore 8, 2) := by decide +kernel
theorem dX6_odds_64 : decode cX6_odds 64 = .ok (.iload 6, 2) := by decide +kernel
theorem dX6_odds_66 : decode cX6_odds 66 = .ok (.aload_n 0, 1) := by decide +kernel
theorem dX6_odds_67 : decode cX6_odds 67 = .ok (.getfield 12, 3) := by decide +kernel
theorem dX6_odds_70 : decode cX6_odds 70 = .ok (.iload_n 1, 1) := by decide +kernel
theorem dX6_odds_71 : decode cX6_odds 71 = .ok (.aload 5, 2) := by decide +kernel
theorem dX6_odds_73 : decode cX6_odds 73 = .ok (.iload 8, 2) := by decide +kernel
theorem dX6_odds_75 : decode cX6_odds 75 = .ok (.invokevirtual 325, 3) := by decide +kernel
theorem dX6_odds_78 : decode cX6_odds 78 = .ok (.aload_n 0, 1) := by decide +kernel
theorem dX6_odds_79 : decode cX6_odds 79 = .ok (.getfield 12, 3) := by decide +kernel
theorem dX6_odds_82 : decode cX6_odds 82 = .ok (.iload_n 1, 1) := by decide +kernel
theorem dX6_odds_83 : decode cX6_odds 83 = .ok (.aload 5, 2) := by decide +kernel
theorem dX6_odds_85 : decode cX6_odds 85 = .ok (.iload 8, 2) := by decide +kernel
theorem dX6_odds_87 : decode cX6_odds 87 = .ok (.iconst 1, 1) := by decide +kernel
theorem dX6_odds_88 : decode cX6_odds 88 = .ok (.iadd, 1) := by decide +kernel
theorem dX6_odds_89 : decode cX6_odds 89 = .ok (.invokevirtual 325, 3) := by decide +kernel
theorem dX6_odds_92 : decode cX6_odds 92 = .ok (.imul, 1) := by decide +kernel
theorem dX6_odds_93 : decode cX6_odds 93 = .ok (.iadd, 1) := by decide +kernel
theorem dX6_odds_94 : decode cX6_odds 94 = .ok (.istore 6, 2) := by decide +kernel
theorem dX6_odds_96 : decode cX6_odds 96 = .ok (.iinc 7 1, 3) := by decide +kernel
theorem dX6_odds_99 : decode cX6_odds 99 = .ok (.goto (-55), 3) := by decide +kernel
theorem dX6_odds_102 : decode cX6_odds 102 = .ok (.sipush 256, 3) := by decide +kernel
theorem dX6_odds_105 : decode cX6_odds 105 = .ok (.iload_n 3, 1) := by decide +kernel
theorem dX6_odds_106 : decode cX6_odds 106 = .ok (.imul, 1) := by decide +kernel
theorem dX6_odds_107 : decode cX6_odds 107 = .ok (.istore 7, 2) := by decide +kernel
theorem dX6_odds_109 : decode cX6_odds 109 = .ok (.iload 7, 2) := by decide +kernel
theorem dX6_odds_111 : decode cX6_odds 111 = .ok (.iload 6, 2) := by decide +kernel
theorem dX6_odds_113 : decode cX6_odds 113 = .ok (.invokestatic 329, 3) := by decide +kernel
theorem dX6_odds_116 : decode cX6_odds 116 = .ok (.istore 8, 2) := by decide +kernel
theorem dX6_odds_118 : decode cX6_odds 118 = .ok (.iload 8, 2) := by decide +kernel
theorem dX6_odds_120 : decode cX6_odds 120 = .ok (.ifCond .ne 7, 3) := by decide +kernel
theorem dX6_odds_123 : decode cX6_odds 123 = .ok (.iconst (-1), 1) := by decide +kernel
theorem dX6_odds_124 : decode cX6_odds 124 = .ok (.goto 18, 3) := by decide +kernel
theorem dX6_odds_127 : decode cX6_odds 127 = .ok (.iload 4, 2) := by decide +kernel
theorem dX6_odds_129 : decode cX6_odds 129 = .ok (.ifCond .ne 8, 3) := by decide +kernel
theorem dX6_odds_132 : decode cX6_odds 132 = .ok (.iload 6, 2) := by decide +kernel
theorem dX6_odds_134 : decode cX6_odds 134 = .ok (.goto 5, 3) := by decide +kernel
theorem dX6_odds_137 : decode cX6_odds 137 = .ok (.iload 7, 2) := by decide +kernel
theorem dX6_odds_139 : decode cX6_odds 139 = .ok (.iload 8, 2) := by decide +kernel
theorem dX6_odds_141 : decode cX6_odds 141 = .ok (.idiv, 1) := by decide +kernel
theorem dX6_odds_142 : decode cX6_odds 142 = .ok (.ireturn, 1) := by decide +kernel
theorem dX6_clashes_0 : decode cX6_clashes 0 = .ok (.aload_n 0, 1) := by decide +kernel
theorem dX6_clashes_1 : decode cX6_clashes 1 = .ok (.getfield 12, 3) := by decide +kernel
theorem dX6_clashes_4 : decode cX6_clashes 4 = .ok (.invokevirtual 259, 3) := by decide +kernel
theorem dX6_clashes_7 : decode cX6_clashes 7 = .ok (.ifCond .eq 14, 3) := by decide +kernel
theorem dX6_clashes_10 : decode cX6_clashes 10 = .ok (.iload_n 1, 1) := by decide +kernel
theorem dX6_clashes_11 : decode cX6_clashes 11 = .ok (.iconst 1, 1) := by decide +kernel
theorem dX6_clashes_12 : decode cX6_clashes 12 = .ok (.sipush 512, 3) := by decide +kernel
theorem dX6_clashes_15 : decode cX6_clashes 15 = .ok (.invokestatic 54, 3) := by decide +kernel
theorem dX6_clashes_18 : decode cX6_clashes 18 = .ok (.ifCond .ne 5, 3) := by decide +kernel
theorem dX6_clashes_21 : decode cX6_clashes 21 = .ok (.iconst (-1), 1) := by decide +kernel
theorem dX6_clashes_22 : decode cX6_clashes 22 = .ok (.ireturn, 1) := by decide +kernel
theorem dX6_clashes_23 : decode cX6_clashes 23 = .ok (.iconst 0, 1) := by decide +kernel
theorem dX6_clashes_24 : decode cX6_clashes 24 = .ok (.istore_n 2, 1) := by decide +kernel
theorem dX6_clashes_25 : decode cX6_clashes 25 = .ok (.iconst 0, 1) := by decide +kernel
theorem dX6_clashes_26 : decode cX6_clashes 26 = .ok (.istore_n 3, 1) := by decide +kernel
theorem dX6_clashes_27 : decode cX6_clashes 27 = .ok (.iload_n 3, 1) := by decide +kernel
theorem dX6_clashes_28 : decode cX6_clashes 28 = .ok (.iload_n 1, 1) := by decide +kernel
theorem dX6_clashes_29 : decode cX6_clashes 29 = .ok (.if_icmp .ge 31, 3) := by decide +kernel
theorem dX6_clashes_32 : decode cX6_clashes 32 = .ok (.aload_n 0, 1) := by decide +kernel
theorem dX6_clashes_33 : decode cX6_clashes 33 = .ok (.getfield 12, 3) := by decide +kernel
theorem dX6_clashes_36 : decode cX6_clashes 36 = .ok (.aload_n 0, 1) := by decide +kernel
theorem dX6_clashes_37 : decode cX6_clashes 37 = .ok (.getfield 12, 3) := by decide +kernel
theorem dX6_clashes_40 : decode cX6_clashes 40 = .ok (.getfield 102, 3) := by decide +kernel
theorem dX6_clashes_43 : decode cX6_clashes 43 = .ok (.iload_n 3, 1) := by decide +kernel
theorem dX6_clashes_44 : decode cX6_clashes 44 = .ok (.iadd, 1) := by decide +kernel
theorem dX6_clashes_45 : decode cX6_clashes 45 = .ok (.invokevirtual 262, 3) := by decide +kernel
theorem dX6_clashes_48 : decode cX6_clashes 48 = .ok (.ifCond .eq 6, 3) := by decide +kernel
theorem dX6_clashes_51 : decode cX6_clashes 51 = .ok (.iinc 2 1, 3) := by decide +kernel
theorem dX6_clashes_54 : decode cX6_clashes 54 = .ok (.iinc 3 1, 3) := by decide +kernel
theorem dX6_clashes_57 : decode cX6_clashes 57 = .ok (.goto (-30), 3) := by decide +kernel
theorem dX6_clashes_60 : decode cX6_clashes 60 = .ok (.iload_n 2, 1) := by decide +kernel
theorem dX6_clashes_61 : decode cX6_clashes 61 = .ok (.ireturn, 1) := by decide +kernel
theorem dX6_bestOffset_0 : decode cX6_bestOffset 0 = .ok (.aload_n 0, 1) := by decide +kernel
theorem dX6_bestOffset_1 : decode cX6_bestOffset 1 = .ok (.getfield 12, 3) := by decide +kernel
theorem dX6_bestOffset_4 : decode cX6_bestOffset 4 = .ok (.invokevirtual 259, 3) := by decide +kernel
theorem dX6_bestOffset_7 : decode cX6_bestOffset 7 = .ok (.ifCond .eq 14, 3) := by decide +kernel
theorem dX6_bestOffset_10 : decode cX6_bestOffset 10 = .ok (.iload_n 1, 1) := by decide +kernel
theorem dX6_bestOffset_11 : decode cX6_bestOffset 11 = .ok (.iconst 1, 1) := by decide +kernel
theorem dX6_bestOffset_12 : decode cX6_bestOffset 12 = .ok (.sipush 512, 3) := by decide +kernel
theorem dX6_bestOffset_15 : decode cX6_bestOffset 15 = .ok (.invokestatic 54, 3) := by decide +kernel
theorem dX6_bestOffset_18 : decode cX6_bestOffset 18 = .ok (.ifCond .ne 5, 3) := by decide +kernel
theorem dX6_bestOffset_21 : decode cX6_bestOffset 21 = .ok (.iconst (-1), 1) := by decide +kernel
theorem dX6_bestOffset_22 : decode cX6_bestOffset 22 = .ok (.ireturn, 1) := by decide +kernel
theorem dX6_bestOffset_23 : decode cX6_bestOffset 23 = .ok (.aload_n 0, 1) := by decide +kernel
theorem dX6_bestOffset_24 : decode cX6_bestOffset 24 = .ok (.iload_n 1, 1) := by decide +kernel
theorem dX6_bestOffset_25 : decode cX6_bestOffset 25 = .ok (.invokevirtual 332, 3) := by decide +kernel
theorem dX6_bestOffset_28 : decode cX6_bestOffset 28 = .ok (.iconst 0, 1) := by decide +kernel
theorem dX6_bestOffset_29 : decode cX6_bestOffset 29 = .ok (.istore_n 2, 1) := by decide +kernel
theorem dX6_bestOffset_30 : decode cX6_bestOffset 30 = .ok (.aload_n 0, 1) := by decide +kernel
theorem dX6_bestOffset_31 : decode cX6_bestOffset 31 = .ok (.iconst 0, 1) := by decide +kernel
theorem dX6_bestOffset_32 : decode cX6_bestOffset 32 = .ok (.iload_n 1, 1) := by decide +kernel
theorem dX6_bestOffset_33 : decode cX6_bestOffset 33 = .ok (.invokevirtual 335, 3) := by decide +kernel
theorem dX6_bestOffset_36 : decode cX6_bestOffset 36 = .ok (.istore_n 3, 1) := by decide +kernel
theorem dX6_bestOffset_37 : decode cX6_bestOffset 37 = .ok (.iconst 1, 1) := by decide +kernel
theorem dX6_bestOffset_38 : decode cX6_bestOffset 38 = .ok (.istore 4, 2) := by decide +kernel
theorem dX6_bestOffset_40 : decode cX6_bestOffset 40 = .ok (.iload 4, 2) := by decide +kernel
theorem dX6_bestOffset_42 : decode cX6_bestOffset 42 = .ok (.bipush 64, 2) := by decide +kernel
theorem dX6_bestOffset_44 : decode cX6_bestOffset 44 = .ok (.if_icmp .ge 30, 3) := by decide +kernel
theorem dX6_bestOffset_47 : decode cX6_bestOffset 47 = .ok (.aload_n 0, 1) := by decide +kernel
theorem dX6_bestOffset_48 : decode cX6_bestOffset 48 = .ok (.iload 4, 2) := by decide +kernel
theorem dX6_bestOffset_50 : decode cX6_bestOffset 50 = .ok (.iload_n 1, 1) := by decide +kernel
theorem dX6_bestOffset_51 : decode cX6_bestOffset 51 = .ok (.invokevirtual 335, 3) := by decide +kernel
theorem dX6_bestOffset_54 : decode cX6_bestOffset 54 = .ok (.istore 5, 2) := by decide +kernel
theorem dX6_bestOffset_56 : decode cX6_bestOffset 56 = .ok (.iload 5, 2) := by decide +kernel
theorem dX6_bestOffset_58 : decode cX6_bestOffset 58 = .ok (.iload_n 3, 1) := by decide +kernel
theorem dX6_bestOffset_59 : decode cX6_bestOffset 59 = .ok (.if_icmp .ge 9, 3) := by decide +kernel
theorem dX6_bestOffset_62 : decode cX6_bestOffset 62 = .ok (.iload 5, 2) := by decide +kernel
theorem dX6_bestOffset_64 : decode cX6_bestOffset 64 = .ok (.istore_n 3, 1) := by decide +kernel
theorem dX6_bestOffset_65 : decode cX6_bestOffset 65 = .ok (.iload 4, 2) := by decide +kernel
theorem dX6_bestOffset_67 : decode cX6_bestOffset 67 = .ok (.istore_n 2, 1) := by decide +kernel
theorem dX6_bestOffset_68 : decode cX6_bestOffset 68 = .ok (.iinc 4 1, 3) := by decide +kernel
theorem dX6_bestOffset_71 : decode cX6_bestOffset 71 = .ok (.goto (-31), 3) := by decide +kernel
theorem dX6_bestOffset_74 : decode cX6_bestOffset 74 = .ok (.iload_n 2, 1) := by decide +kernel
theorem dX6_bestOffset_75 : decode cX6_bestOffset 75 = .ok (.ireturn, 1) := by decide +kernel
theorem dX6_drain_0 : decode cX6_drain 0 = .ok (.aload_n 0, 1) := by decide +kernel
theorem dX6_drain_1 : decode cX6_drain 1 = .ok (.getfield 12, 3) := by decide +kernel
theorem dX6_drain_4 : decode cX6_drain 4 = .ok (.iload_n 1, 1) := by decide +kernel
theorem dX6_drain_5 : decode cX6_drain 5 = .ok (.iload_n 2, 1) := by decide +kernel
theorem dX6_drain_6 : decode cX6_drain 6 = .ok (.invokevirtual 132, 3) := by decide +kernel
theorem dX6_drain_9 : decode cX6_drain 9 = .ok (.ifnonnull 5, 3) := by decide +kernel
theorem dX6_drain_12 : decode cX6_drain 12 = .ok (.iconst (-1), 1) := by decide +kernel
theorem dX6_drain_13 : decode cX6_drain 13 = .ok (.ireturn, 1) := by decide +kernel
theorem dX6_drain_14 : decode cX6_drain 14 = .ok (.aload_n 0, 1) := by decide +kernel
theorem dX6_drain_15 : decode cX6_drain 15 = .ok (.getfield 16, 3) := by decide +kernel
theorem dX6_drain_18 : decode cX6_drain 18 = .ok (.aload_n 0, 1) := by decide +kernel
theorem dX6_drain_19 : decode cX6_drain 19 = .ok (.getfield 12, 3) := by decide +kernel
theorem dX6_drain_22 : decode cX6_drain 22 = .ok (.invokevirtual 219, 3) := by decide +kernel
theorem dX6_drain_25 : decode cX6_drain 25 = .ok (.aload_n 0, 1) := by decide +kernel
theorem dX6_drain_26 : decode cX6_drain 26 = .ok (.getfield 16, 3) := by decide +kernel
theorem dX6_drain_29 : decode cX6_drain 29 = .ok (.iload_n 1, 1) := by decide +kernel
theorem dX6_drain_30 : decode cX6_drain 30 = .ok (.iload_n 2, 1) := by decide +kernel
theorem dX6_drain_31 : decode cX6_drain 31 = .ok (.invokevirtual 132, 3) := by decide +kernel
theorem dX6_drain_34 : decode cX6_drain 34 = .ok (.astore_n 3, 1) := by decide +kernel
theorem dX6_drain_35 : decode cX6_drain 35 = .ok (.iconst 0, 1) := by decide +kernel
theorem dX6_drain_36 : decode cX6_drain 36 = .ok (.istore 4, 2) := by decide +kernel
theorem dX6_drain_38 : decode cX6_drain 38 = .ok (.iload 4, 2) := by decide +kernel
theorem dX6_drain_40 : decode cX6_drain 40 = .ok (.sipush 400, 3) := by decide +kernel
theorem dX6_drain_43 : decode cX6_drain 43 = .ok (.if_icmp .gt 68, 3) := by decide +kernel
theorem dX6_drain_46 : decode cX6_drain 46 = .ok (.aload_n 3, 1) := by decide +kernel
theorem dX6_drain_47 : decode cX6_drain 47 = .ok (.ifnull 64, 3) := by decide +kernel
theorem dX6_drain_50 : decode cX6_drain 50 = .ok (.aload_n 3, 1) := by decide +kernel
theorem dX6_drain_51 : decode cX6_drain 51 = .ok (.getfield 135, 3) := by decide +kernel
theorem dX6_drain_54 : decode cX6_drain 54 = .ok (.getfield 153, 3) := by decide +kernel
theorem dX6_drain_57 : decode cX6_drain 57 = .ok (.ifCond .ne 16, 3) := by decide +kernel
theorem dX6_drain_60 : decode cX6_drain 60 = .ok (.aload_n 3, 1) := by decide +kernel
theorem dX6_drain_61 : decode cX6_drain 61 = .ok (.getfield 141, 3) := by decide +kernel
theorem dX6_drain_64 : decode cX6_drain 64 = .ok (.getfield 153, 3) := by decide +kernel
theorem dX6_drain_67 : decode cX6_drain 67 = .ok (.ifCond .ne 6, 3) := by decide +kernel
theorem dX6_drain_70 : decode cX6_drain 70 = .ok (.iload 4, 2) := by decide +kernel
theorem dX6_drain_72 : decode cX6_drain 72 = .ok (.ireturn, 1) := by decide +kernel
theorem dX6_drain_73 : decode cX6_drain 73 = .ok (.iload 4, 2) := by decide +kernel
theorem dX6_drain_75 : decode cX6_drain 75 = .ok (.sipush 400, 3) := by decide +kernel
theorem dX6_drain_78 : decode cX6_drain 78 = .ok (.if_icmp .eq 18, 3) := by decide +kernel
theorem dX6_drain_81 : decode cX6_drain 81 = .ok (.aload_n 0, 1) := by decide +kernel
theorem dX6_drain_82 : decode cX6_drain 82 = .ok (.getfield 16, 3) := by decide +kernel
theorem dX6_drain_85 : decode cX6_drain 85 = .ok (.getfield 102, 3) := by decide +kernel
theorem dX6_drain_88 : decode cX6_drain 88 = .ok (.iconst 2, 1) := by decide +kernel
theorem dX6_drain_89 : decode cX6_drain 89 = .ok (.iadd, 1) := by decide +kernel
theorem dX6_drain_90 : decode cX6_drain 90 = .ok (.ldc_w 338, 3) := by decide +kernel
theorem dX6_drain_93 : decode cX6_drain 93 = .ok (.if_icmp .le 5, 3) := by decide +kernel
theorem dX6_drain_96 : decode cX6_drain 96 = .ok (.iconst (-1), 1) := by decide +kernel
theorem dX6_drain_97 : decode cX6_drain 97 = .ok (.ireturn, 1) := by decide +kernel
theorem dX6_drain_98 : decode cX6_drain 98 = .ok (.aload_n 0, 1) := by decide +kernel
theorem dX6_drain_99 : decode cX6_drain 99 = .ok (.getfield 16, 3) := by decide +kernel
theorem dX6_drain_102 : decode cX6_drain 102 = .ok (.invokevirtual 339, 3) := by decide +kernel
theorem dX6_drain_105 : decode cX6_drain 105 = .ok (.iinc 4 1, 3) := by decide +kernel
theorem dX6_drain_108 : decode cX6_drain 108 = .ok (.goto (-70), 3) := by decide +kernel
theorem dX6_drain_111 : decode cX6_drain 111 = .ok (.iconst (-1), 1) := by decide +kernel
theorem dX6_drain_112 : decode cX6_drain 112 = .ok (.ireturn, 1) := by decide +kernel
theorem dX6_ready_0 : decode cX6_ready 0 = .ok (.aload_n 0, 1) := by decide +kernel
theorem dX6_ready_1 : decode cX6_ready 1 = .ok (.getfield 12, 3) := by decide +kernel
theorem dX6_ready_4 : decode cX6_ready 4 = .ok (.iload_n 1, 1) := by decide +kernel
theorem dX6_ready_5 : decode cX6_ready 5 = .ok (.iload_n 2, 1) := by decide +kernel
theorem dX6_ready_6 : decode cX6_ready 6 = .ok (.invokevirtual 132, 3) := by decide +kernel
theorem dX6_ready_9 : decode cX6_ready 9 = .ok (.astore_n 3, 1) := by decide +kernel
theorem dX6_ready_10 : decode cX6_ready 10 = .ok (.aload_n 3, 1) := by decide +kernel
theorem dX6_ready_11 : decode cX6_ready 11 = .ok (.ifnonnull 5, 3) := by decide +kernel
theorem dX6_ready_14 : decode cX6_ready 14 = .ok (.iconst (-1), 1) := by decide +kernel
theorem dX6_ready_15 : decode cX6_ready 15 = .ok (.ireturn, 1) := by decide +kernel
theorem dX6_ready_16 : decode cX6_ready 16 = .ok (.iconst 0, 1) := by decide +kernel
theorem dX6_ready_17 : decode cX6_ready 17 = .ok (.istore 4, 2) := by decide +kernel
theorem dX6_ready_19 : decode cX6_ready 19 = .ok (.iload 4, 2) := by decide +kernel
theorem dX6_ready_21 : decode cX6_ready 21 = .ok (.sipush 200, 3) := by decide +kernel
theorem dX6_ready_24 : decode cX6_ready 24 = .ok (.if_icmp .ge 42, 3) := by decide +kernel
theorem dX6_ready_27 : decode cX6_ready 27 = .ok (.aload_n 0, 1) := by decide +kernel
theorem dX6_ready_28 : decode cX6_ready 28 = .ok (.getfield 12, 3) := by decide +kernel
theorem dX6_ready_31 : decode cX6_ready 31 = .ok (.iload_n 1, 1) := by decide +kernel
theorem dX6_ready_32 : decode cX6_ready 32 = .ok (.aload_n 3, 1) := by decide +kernel
theorem dX6_ready_33 : decode cX6_ready 33 = .ok (.aload_n 0, 1) := by decide +kernel
theorem dX6_ready_34 : decode cX6_ready 34 = .ok (.getfield 12, 3) := by decide +kernel
theorem dX6_ready_37 : decode cX6_ready 37 = .ok (.getfield 102, 3) := by decide +kernel
theorem dX6_ready_40 : decode cX6_ready 40 = .ok (.iload 4, 2) := by decide +kernel
theorem dX6_ready_42 : decode cX6_ready 42 = .ok (.iadd, 1) := by decide +kernel
theorem dX6_ready_43 : decode cX6_ready 43 = .ok (.invokevirtual 352, 3) := by decide +kernel
theorem dX6_ready_46 : decode cX6_ready 46 = .ok (.ifCond .eq 14, 3) := by decide +kernel
theorem dX6_ready_49 : decode cX6_ready 49 = .ok (.aload_n 0, 1) := by decide +kernel
theorem dX6_ready_50 : decode cX6_ready 50 = .ok (.getfield 12, 3) := by decide +kernel
theorem dX6_ready_53 : decode cX6_ready 53 = .ok (.getfield 102, 3) := by decide +kernel
theorem dX6_ready_56 : decode cX6_ready 56 = .ok (.iload 4, 2) := by decide +kernel
theorem dX6_ready_58 : decode cX6_ready 58 = .ok (.iadd, 1) := by decide +kernel
theorem dX6_ready_59 : decode cX6_ready 59 = .ok (.ireturn, 1) := by decide +kernel
theorem dX6_ready_60 : decode cX6_ready 60 = .ok (.iinc 4 2, 3) := by decide +kernel
theorem dX6_ready_63 : decode cX6_ready 63 = .ok (.goto (-44), 3) := by decide +kernel
theorem dX6_ready_66 : decode cX6_ready 66 = .ok (.iconst (-1), 1) := by decide +kernel
theorem dX6_ready_67 : decode cX6_ready 67 = .ok (.ireturn, 1) := by decide +kernel
theorem dX6_bothReady_0 : decode cX6_bothReady 0 = .ok (.aload_n 0, 1) := by decide +kernel
theorem dX6_bothReady_1 : decode cX6_bothReady 1 = .ok (.getfield 12, 3) := by decide +kernel
theorem dX6_bothReady_4 : decode cX6_bothReady 4 = .ok (.iload_n 1, 1) := by decide +kernel
theorem dX6_bothReady_5 : decode cX6_bothReady 5 = .ok (.iload_n 2, 1) := by decide +kernel
theorem dX6_bothReady_6 : decode cX6_bothReady 6 = .ok (.invokevirtual 132, 3) := by decide +kernel
theorem dX6_bothReady_9 : decode cX6_bothReady 9 = .ok (.astore 5, 2) := by decide +kernel
theorem dX6_bothReady_11 : decode cX6_bothReady 11 = .ok (.aload_n 0, 1) := by decide +kernel
theorem dX6_bothReady_12 : decode cX6_bothReady 12 = .ok (.getfield 12, 3) := by decide +kernel
theorem dX6_bothReady_15 : decode cX6_bothReady 15 = .ok (.iload_n 1, 1) := by decide +kernel
theorem dX6_bothReady_16 : decode cX6_bothReady 16 = .ok (.iload_n 3, 1) := by decide +kernel
theorem dX6_bothReady_17 : decode cX6_bothReady 17 = .ok (.invokevirtual 132, 3) := by decide +kernel
theorem dX6_bothReady_20 : decode cX6_bothReady 20 = .ok (.astore 6, 2) := by decide +kernel
theorem dX6_bothReady_22 : decode cX6_bothReady 22 = .ok (.aload 5, 2) := by decide +kernel
theorem dX6_bothReady_24 : decode cX6_bothReady 24 = .ok (.ifnull 20, 3) := by decide +kernel
theorem dX6_bothReady_27 : decode cX6_bothReady 27 = .ok (.aload 6, 2) := by decide +kernel
theorem dX6_bothReady_29 : decode cX6_bothReady 29 = .ok (.ifnull 15, 3) := by decide +kernel
theorem dX6_bothReady_32 : decode cX6_bothReady 32 = .ok (.iload 4, 2) := by decide +kernel
theorem dX6_bothReady_34 : decode cX6_bothReady 34 = .ok (.iconst 1, 1) := by decide +kernel
theorem dX6_bothReady_35 : decode cX6_bothReady 35 = .ok (.sipush 200, 3) := by decide +kernel
theorem dX6_bothReady_38 : decode cX6_bothReady 38 = .ok (.invokestatic 54, 3) := by decide +kernel
theorem dX6_bothReady_41 : decode cX6_bothReady 41 = .ok (.ifCond .ne 5, 3) := by decide +kernel
theorem dX6_bothReady_44 : decode cX6_bothReady 44 = .ok (.iconst (-1), 1) := by decide +kernel
theorem dX6_bothReady_45 : decode cX6_bothReady 45 = .ok (.ireturn, 1) := by decide +kernel
theorem dX6_bothReady_46 : decode cX6_bothReady 46 = .ok (.iconst 0, 1) := by decide +kernel
theorem dX6_bothReady_47 : decode cX6_bothReady 47 = .ok (.istore 7, 2) := by decide +kernel
theorem dX6_bothReady_49 : decode cX6_bothReady 49 = .ok (.iconst 0, 1) := by decide +kernel
theorem dX6_bothReady_50 : decode cX6_bothReady 50 = .ok (.istore 8, 2) := by decide +kernel
theorem dX6_bothReady_52 : decode cX6_bothReady 52 = .ok (.iload 8, 2) := by decide +kernel
theorem dX6_bothReady_54 : decode cX6_bothReady 54 = .ok (.iload 4, 2) := by decide +kernel
theorem dX6_bothReady_56 : decode cX6_bothReady 56 = .ok (.if_icmp .ge 56, 3) := by decide +kernel
theorem dX6_bothReady_59 : decode cX6_bothReady 59 = .ok (.aload_n 0, 1) := by decide +kernel
theorem dX6_bothReady_60 : decode cX6_bothReady 60 = .ok (.getfield 12, 3) := by decide +kernel
theorem dX6_bothReady_63 : decode cX6_bothReady 63 = .ok (.getfield 102, 3) := by decide +kernel
theorem dX6_bothReady_66 : decode cX6_bothReady 66 = .ok (.iconst 2, 1) := by decide +kernel
theorem dX6_bothReady_67 : decode cX6_bothReady 67 = .ok (.iload 8, 2) := by decide +kernel
theorem dX6_bothReady_69 : decode cX6_bothReady 69 = .ok (.imul, 1) := by decide +kernel
theorem dX6_bothReady_70 : decode cX6_bothReady 70 = .ok (.iadd, 1) := by decide +kernel
theorem dX6_bothReady_71 : decode cX6_bothReady 71 = .ok (.istore 9, 2) := by decide +kernel
theorem dX6_bothReady_73 : decode cX6_bothReady 73 = .ok (.aload_n 0, 1) := by decide +kernel
theorem dX6_bothReady_74 : decode cX6_bothReady 74 = .ok (.getfield 12, 3) := by decide +kernel
theorem dX6_bothReady_77 : decode cX6_bothReady 77 = .ok (.iload_n 1, 1) := by decide +kernel
theorem dX6_bothReady_78 : decode cX6_bothReady 78 = .ok (.aload 5, 2) := by decide +kernel
theorem dX6_bothReady_80 : decode cX6_bothReady 80 = .ok (.iload 9, 2) := by decide +kernel
theorem dX6_bothReady_82 : decode cX6_bothReady 82 = .ok (.invokevirtual 352, 3) := by decide +kernel
theorem dX6_bothReady_85 : decode cX6_bothReady 85 = .ok (.ifCond .eq 21, 3) := by decide +kernel
theorem dX6_bothReady_88 : decode cX6_bothReady 88 = .ok (.aload_n 0, 1) := by decide +kernel
theorem dX6_bothReady_89 : decode cX6_bothReady 89 = .ok (.getfield 12, 3) := by decide +kernel
theorem dX6_bothReady_92 : decode cX6_bothReady 92 = .ok (.iload_n 1, 1) := by decide +kernel
theorem dX6_bothReady_93 : decode cX6_bothReady 93 = .ok (.aload 6, 2) := by decide +kernel
theorem dX6_bothReady_95 : decode cX6_bothReady 95 = .ok (.iload 9, 2) := by decide +kernel
theorem dX6_bothReady_97 : decode cX6_bothReady 97 = .ok (.invokevirtual 352, 3) := by decide +kernel
theorem dX6_bothReady_100 : decode cX6_bothReady 100 = .ok (.ifCond .eq 6, 3) := by decide +kernel
theorem dX6_bothReady_103 : decode cX6_bothReady 103 = .ok (.iinc 7 1, 3) := by decide +kernel
theorem dX6_bothReady_106 : decode cX6_bothReady 106 = .ok (.iinc 8 1, 3) := by decide +kernel
theorem dX6_bothReady_109 : decode cX6_bothReady 109 = .ok (.goto (-57), 3) := by decide +kernel
theorem dX6_bothReady_112 : decode cX6_bothReady 112 = .ok (.iload 7, 2) := by decide +kernel
theorem dX6_bothReady_114 : decode cX6_bothReady 114 = .ok (.ireturn, 1) := by decide +kernel
theorem dX6_ahead_0 : decode cX6_ahead 0 = .ok (.aload_n 0, 1) := by decide +kernel
theorem dX6_ahead_1 : decode cX6_ahead 1 = .ok (.getfield 12, 3) := by decide +kernel
theorem dX6_ahead_4 : decode cX6_ahead 4 = .ok (.iload_n 1, 1) := by decide +kernel
theorem dX6_ahead_5 : decode cX6_ahead 5 = .ok (.invokevirtual 95, 3) := by decide +kernel
theorem dX6_ahead_8 : decode cX6_ahead 8 = .ok (.ifnull 22, 3) := by decide +kernel
theorem dX6_ahead_11 : decode cX6_ahead 11 = .ok (.iload_n 2, 1) := by decide +kernel
theorem dX6_ahead_12 : decode cX6_ahead 12 = .ok (.iconst 1, 1) := by decide +kernel
theorem dX6_ahead_13 : decode cX6_ahead 13 = .ok (.sipush 200, 3) := by decide +kernel
theorem dX6_ahead_16 : decode cX6_ahead 16 = .ok (.invokestatic 54, 3) := by decide +kernel
theorem dX6_ahead_19 : decode cX6_ahead 19 = .ok (.ifCond .eq 11, 3) := by decide +kernel
theorem dX6_ahead_22 : decode cX6_ahead 22 = .ok (.aload_n 0, 1) := by decide +kernel
theorem dX6_ahead_23 : decode cX6_ahead 23 = .ok (.iload_n 2, 1) := by decide +kernel
theorem dX6_ahead_24 : decode cX6_ahead 24 = .ok (.invokevirtual 213, 3) := by decide +kernel
theorem dX6_ahead_27 : decode cX6_ahead 27 = .ok (.ifCond .ne 5, 3) := by decide +kernel
theorem dX6_ahead_30 : decode cX6_ahead 30 = .ok (.iconst (-1), 1) := by decide +kernel
theorem dX6_ahead_31 : decode cX6_ahead 31 = .ok (.ireturn, 1) := by decide +kernel
theorem dX6_ahead_32 : decode cX6_ahead 32 = .ok (.aload_n 0, 1) := by decide +kernel
theorem dX6_ahead_33 : decode cX6_ahead 33 = .ok (.aload_n 0, 1) := by decide +kernel
theorem dX6_ahead_34 : decode cX6_ahead 34 = .ok (.getfield 12, 3) := by decide +kernel
theorem dX6_ahead_37 : decode cX6_ahead 37 = .ok (.getfield 126, 3) := by decide +kernel
theorem dX6_ahead_40 : decode cX6_ahead 40 = .ok (.invokevirtual 342, 3) := by decide +kernel
theorem dX6_ahead_43 : decode cX6_ahead 43 = .ok (.iload_n 2, 1) := by decide +kernel
theorem dX6_ahead_44 : decode cX6_ahead 44 = .ok (.invokevirtual 216, 3) := by decide +kernel
theorem dX6_ahead_47 : decode cX6_ahead 47 = .ok (.pop, 1) := by decide +kernel
theorem dX6_ahead_48 : decode cX6_ahead 48 = .ok (.aload_n 0, 1) := by decide +kernel
theorem dX6_ahead_49 : decode cX6_ahead 49 = .ok (.getfield 16, 3) := by decide +kernel
theorem dX6_ahead_52 : decode cX6_ahead 52 = .ok (.getfield 80, 3) := by decide +kernel
theorem dX6_ahead_55 : decode cX6_ahead 55 = .ok (.iload_n 1, 1) := by decide +kernel
theorem dX6_ahead_56 : decode cX6_ahead 56 = .ok (.aaload, 1) := by decide +kernel
theorem dX6_ahead_57 : decode cX6_ahead 57 = .ok (.astore_n 3, 1) := by decide +kernel
theorem dX6_ahead_58 : decode cX6_ahead 58 = .ok (.aload_n 3, 1) := by decide +kernel
theorem dX6_ahead_59 : decode cX6_ahead 59 = .ok (.getfield 356, 3) := by decide +kernel
theorem dX6_ahead_62 : decode cX6_ahead 62 = .ok (.ifCond .eq 8, 3) := by decide +kernel
theorem dX6_ahead_65 : decode cX6_ahead 65 = .ok (.bipush (-2), 2) := by decide +kernel
theorem dX6_ahead_67 : decode cX6_ahead 67 = .ok (.goto 7, 3) := by decide +kernel
theorem dX6_ahead_70 : decode cX6_ahead 70 = .ok (.aload_n 3, 1) := by decide +kernel
theorem dX6_ahead_71 : decode cX6_ahead 71 = .ok (.getfield 359, 3) := by decide +kernel
theorem dX6_ahead_74 : decode cX6_ahead 74 = .ok (.ireturn, 1) := by decide +kernel
theorem dX6_together_0 : decode cX6_together 0 = .ok (.aload_n 0, 1) := by decide +kernel
theorem dX6_together_1 : decode cX6_together 1 = .ok (.getfield 12, 3) := by decide +kernel
theorem dX6_together_4 : decode cX6_together 4 = .ok (.iload_n 1, 1) := by decide +kernel
theorem dX6_together_5 : decode cX6_together 5 = .ok (.iload_n 2, 1) := by decide +kernel
theorem dX6_together_6 : decode cX6_together 6 = .ok (.invokevirtual 132, 3) := by decide +kernel
theorem dX6_together_9 : decode cX6_together 9 = .ok (.astore 4, 2) := by decide +kernel
theorem dX6_together_11 : decode cX6_together 11 = .ok (.aload_n 0, 1) := by decide +kernel
theorem dX6_together_12 : decode cX6_together 12 = .ok (.getfield 12, 3) := by decide +kernel
theorem dX6_together_15 : decode cX6_together 15 = .ok (.iload_n 1, 1) := by decide +kernel
theorem dX6_together_16 : decode cX6_together 16 = .ok (.iload_n 3, 1) := by decide +kernel
theorem dX6_together_17 : decode cX6_together 17 = .ok (.invokevirtual 132, 3) := by decide +kernel
theorem dX6_together_20 : decode cX6_together 20 = .ok (.astore 5, 2) := by decide +kernel
theorem dX6_together_22 : decode cX6_together 22 = .ok (.aload 4, 2) := by decide +kernel
theorem dX6_together_24 : decode cX6_together 24 = .ok (.ifnull 13, 3) := by decide +kernel
theorem dX6_together_27 : decode cX6_together 27 = .ok (.aload 5, 2) := by decide +kernel
theorem dX6_together_29 : decode cX6_together 29 = .ok (.ifnull 8, 3) := by decide +kernel
theorem dX6_together_32 : decode cX6_together 32 = .ok (.iload_n 2, 1) := by decide +kernel
theorem dX6_together_33 : decode cX6_together 33 = .ok (.iload_n 3, 1) := by decide +kernel
theorem dX6_together_34 : decode cX6_together 34 = .ok (.if_icmp .ne 5, 3) := by decide +kernel
theorem dX6_together_37 : decode cX6_together 37 = .ok (.iconst (-1), 1) := by decide +kernel
theorem dX6_together_38 : decode cX6_together 38 = .ok (.ireturn, 1) := by decide +kernel
theorem dX6_together_39 : decode cX6_together 39 = .ok (.iconst 0, 1) := by decide +kernel
theorem dX6_together_40 : decode cX6_together 40 = .ok (.istore 6, 2) := by decide +kernel
theorem dX6_together_42 : decode cX6_together 42 = .ok (.iload 6, 2) := by decide +kernel
theorem dX6_together_44 : decode cX6_together 44 = .ok (.sipush 2000, 3) := by decide +kernel
theorem dX6_together_47 : decode cX6_together 47 = .ok (.if_icmp .ge 50, 3) := by decide +kernel
theorem dX6_together_50 : decode cX6_together 50 = .ok (.aload_n 0, 1) := by decide +kernel
theorem dX6_together_51 : decode cX6_together 51 = .ok (.getfield 12, 3) := by decide +kernel
theorem dX6_together_54 : decode cX6_together 54 = .ok (.getfield 102, 3) := by decide +kernel
theorem dX6_together_57 : decode cX6_together 57 = .ok (.iload 6, 2) := by decide +kernel
theorem dX6_together_59 : decode cX6_together 59 = .ok (.iadd, 1) := by decide +kernel
theorem dX6_together_60 : decode cX6_together 60 = .ok (.istore 7, 2) := by decide +kernel
theorem dX6_together_62 : decode cX6_together 62 = .ok (.aload 4, 2) := by decide +kernel
theorem dX6_together_64 : decode cX6_together 64 = .ok (.getfield 159, 3) := by decide +kernel
theorem dX6_together_67 : decode cX6_together 67 = .ok (.iload 7, 2) := by decide +kernel
theorem dX6_together_69 : decode cX6_together 69 = .ok (.invokevirtual 362, 3) := by decide +kernel
theorem dX6_together_72 : decode cX6_together 72 = .ok (.ifCond .eq 19, 3) := by decide +kernel
theorem dX6_together_75 : decode cX6_together 75 = .ok (.aload 5, 2) := by decide +kernel
theorem dX6_together_77 : decode cX6_together 77 = .ok (.getfield 159, 3) := by decide +kernel
theorem dX6_together_80 : decode cX6_together 80 = .ok (.iload 7, 2) := by decide +kernel
theorem dX6_together_82 : decode cX6_together 82 = .ok (.invokevirtual 362, 3) := by decide +kernel
theorem dX6_together_85 : decode cX6_together 85 = .ok (.ifCond .eq 6, 3) := by decide +kernel
theorem dX6_together_88 : decode cX6_together 88 = .ok (.iload 7, 2) := by decide +kernel
theorem dX6_together_90 : decode cX6_together 90 = .ok (.ireturn, 1) := by decide +kernel
theorem dX6_together_91 : decode cX6_together 91 = .ok (.iinc 6 2, 3) := by decide +kernel
theorem dX6_together_94 : decode cX6_together 94 = .ok (.goto (-52), 3) := by decide +kernel
theorem dX6_together_97 : decode cX6_together 97 = .ok (.iconst (-1), 1) := by decide +kernel
theorem dX6_together_98 : decode cX6_together 98 = .ok (.ireturn, 1) := by decide +kernel
theorem dX6_ranked_0 : decode cX6_ranked 0 = .ok (.aload_n 0, 1) := by decide +kernel
theorem dX6_ranked_1 : decode cX6_ranked 1 = .ok (.getfield 12, 3) := by decide +kernel
theorem dX6_ranked_4 : decode cX6_ranked 4 = .ok (.iload_n 1, 1) := by decide +kernel
theorem dX6_ranked_5 : decode cX6_ranked 5 = .ok (.invokevirtual 95, 3) := by decide +kernel
theorem dX6_ranked_8 : decode cX6_ranked 8 = .ok (.astore_n 3, 1) := by decide +kernel
theorem dX6_ranked_9 : decode cX6_ranked 9 = .ok (.aload_n 3, 1) := by decide +kernel
theorem dX6_ranked_10 : decode cX6_ranked 10 = .ok (.ifnull 13, 3) := by decide +kernel
theorem dX6_ranked_13 : decode cX6_ranked 13 = .ok (.iload_n 2, 1) := by decide +kernel
theorem dX6_ranked_14 : decode cX6_ranked 14 = .ok (.iconst 0, 1) := by decide +kernel
theorem dX6_ranked_15 : decode cX6_ranked 15 = .ok (.bipush 22, 2) := by decide +kernel
theorem dX6_ranked_17 : decode cX6_ranked 17 = .ok (.invokestatic 54, 3) := by decide +kernel
theorem dX6_ranked_20 : decode cX6_ranked 20 = .ok (.ifCond .ne 5, 3) := by decide +kernel
theorem dX6_ranked_23 : decode cX6_ranked 23 = .ok (.iconst (-1), 1) := by decide +kernel
theorem dX6_ranked_24 : decode cX6_ranked 24 = .ok (.ireturn, 1) := by decide +kernel
theorem dX6_ranked_25 : decode cX6_ranked 25 = .ok (.iconst 0, 1) := by decide +kernel
theorem dX6_ranked_26 : decode cX6_ranked 26 = .ok (.istore 4, 2) := by decide +kernel
theorem dX6_ranked_28 : decode cX6_ranked 28 = .ok (.iload 4, 2) := by decide +kernel
theorem dX6_ranked_30 : decode cX6_ranked 30 = .ok (.bipush 23, 2) := by decide +kernel
theorem dX6_ranked_32 : decode cX6_ranked 32 = .ok (.if_icmp .ge 32, 3) := by decide +kernel
theorem dX6_ranked_35 : decode cX6_ranked 35 = .ok (.aload_n 3, 1) := by decide +kernel
theorem dX6_ranked_36 : decode cX6_ranked 36 = .ok (.getfield 265, 3) := by decide +kernel
theorem dX6_ranked_39 : decode cX6_ranked 39 = .ok (.iload 4, 2) := by decide +kernel
theorem dX6_ranked_41 : decode cX6_ranked 41 = .ok (.iaload, 1) := by decide +kernel
theorem dX6_ranked_42 : decode cX6_ranked 42 = .ok (.ifCond .le 16, 3) := by decide +kernel
theorem dX6_ranked_45 : decode cX6_ranked 45 = .ok (.aload_n 3, 1) := by decide +kernel
theorem dX6_ranked_46 : decode cX6_ranked 46 = .ok (.iload 4, 2) := by decide +kernel
theorem dX6_ranked_48 : decode cX6_ranked 48 = .ok (.invokevirtual 365, 3) := by decide +kernel
theorem dX6_ranked_51 : decode cX6_ranked 51 = .ok (.iload_n 2, 1) := by decide +kernel
theorem dX6_ranked_52 : decode cX6_ranked 52 = .ok (.if_icmp .ne 6, 3) := by decide +kernel
theorem dX6_ranked_55 : decode cX6_ranked 55 = .ok (.iload 4, 2) := by decide +kernel
theorem dX6_ranked_57 : decode cX6_ranked 57 = .ok (.ireturn, 1) := by decide +kernel
theorem dX6_ranked_58 : decode cX6_ranked 58 = .ok (.iinc 4 1, 3) := by decide +kernel
theorem dX6_ranked_61 : decode cX6_ranked 61 = .ok (.goto (-33), 3) := by decide +kernel
theorem dX6_ranked_64 : decode cX6_ranked 64 = .ok (.iconst (-1), 1) := by decide +kernel
theorem dX6_ranked_65 : decode cX6_ranked 65 = .ok (.ireturn, 1) := by decide +kernel
theorem dX6_quiet_0 : decode cX6_quiet 0 = .ok (.aload_n 0, 1) := by decide +kernel
theorem dX6_quiet_1 : decode cX6_quiet 1 = .ok (.getfield 12, 3) := by decide +kernel
theorem dX6_quiet_4 : decode cX6_quiet 4 = .ok (.iload_n 1, 1) := by decide +kernel
theorem dX6_quiet_5 : decode cX6_quiet 5 = .ok (.invokevirtual 95, 3) := by decide +kernel
theorem dX6_quiet_8 : decode cX6_quiet 8 = .ok (.astore_n 3, 1) := by decide +kernel
theorem dX6_quiet_9 : decode cX6_quiet 9 = .ok (.aload_n 3, 1) := by decide +kernel
theorem dX6_quiet_10 : decode cX6_quiet 10 = .ok (.ifnull 14, 3) := by decide +kernel
theorem dX6_quiet_13 : decode cX6_quiet 13 = .ok (.iload_n 2, 1) := by decide +kernel
theorem dX6_quiet_14 : decode cX6_quiet 14 = .ok (.iconst 0, 1) := by decide +kernel
theorem dX6_quiet_15 : decode cX6_quiet 15 = .ok (.sipush 9999, 3) := by decide +kernel
theorem dX6_quiet_18 : decode cX6_quiet 18 = .ok (.invokestatic 54, 3) := by decide +kernel
theorem dX6_quiet_21 : decode cX6_quiet 21 = .ok (.ifCond .ne 5, 3) := by decide +kernel
theorem dX6_quiet_24 : decode cX6_quiet 24 = .ok (.iconst (-1), 1) := by decide +kernel
theorem dX6_quiet_25 : decode cX6_quiet 25 = .ok (.ireturn, 1) := by decide +kernel
theorem dX6_quiet_26 : decode cX6_quiet 26 = .ok (.iconst 0, 1) := by decide +kernel
theorem dX6_quiet_27 : decode cX6_quiet 27 = .ok (.istore 4, 2) := by decide +kernel
theorem dX6_quiet_29 : decode cX6_quiet 29 = .ok (.iconst 0, 1) := by decide +kernel
theorem dX6_quiet_30 : decode cX6_quiet 30 = .ok (.istore 5, 2) := by decide +kernel
theorem dX6_quiet_32 : decode cX6_quiet 32 = .ok (.iload 5, 2) := by decide +kernel
theorem dX6_quiet_34 : decode cX6_quiet 34 = .ok (.aload_n 3, 1) := by decide +kernel
theorem dX6_quiet_35 : decode cX6_quiet 35 = .ok (.getfield 92, 3) := by decide +kernel
theorem dX6_quiet_38 : decode cX6_quiet 38 = .ok (.if_icmp .ge 48, 3) := by decide +kernel
theorem dX6_quiet_41 : decode cX6_quiet 41 = .ok (.iload 5, 2) := by decide +kernel
theorem dX6_quiet_43 : decode cX6_quiet 43 = .ok (.iconst 4, 1) := by decide +kernel
theorem dX6_quiet_44 : decode cX6_quiet 44 = .ok (.if_icmp .ge 42, 3) := by decide +kernel
theorem dX6_quiet_47 : decode cX6_quiet 47 = .ok (.aload_n 0, 1) := by decide +kernel
theorem dX6_quiet_48 : decode cX6_quiet 48 = .ok (.getfield 12, 3) := by decide +kernel
theorem dX6_quiet_51 : decode cX6_quiet 51 = .ok (.getfield 102, 3) := by decide +kernel
theorem dX6_quiet_54 : decode cX6_quiet 54 = .ok (.aload_n 3, 1) := by decide +kernel
theorem dX6_quiet_55 : decode cX6_quiet 55 = .ok (.getfield 368, 3) := by decide +kernel
theorem dX6_quiet_58 : decode cX6_quiet 58 = .ok (.iload 5, 2) := by decide +kernel
theorem dX6_quiet_60 : decode cX6_quiet 60 = .ok (.aaload, 1) := by decide +kernel
theorem dX6_quiet_61 : decode cX6_quiet 61 = .ok (.getfield 372, 3) := by decide +kernel
theorem dX6_quiet_64 : decode cX6_quiet 64 = .ok (.isub, 1) := by decide +kernel
theorem dX6_quiet_65 : decode cX6_quiet 65 = .ok (.iconst 2, 1) := by decide +kernel
theorem dX6_quiet_66 : decode cX6_quiet 66 = .ok (.idiv, 1) := by decide +kernel
theorem dX6_quiet_67 : decode cX6_quiet 67 = .ok (.iload_n 2, 1) := by decide +kernel
theorem dX6_quiet_68 : decode cX6_quiet 68 = .ok (.if_icmp .lt 12, 3) := by decide +kernel
theorem dX6_quiet_71 : decode cX6_quiet 71 = .ok (.iload 4, 2) := by decide +kernel
theorem dX6_quiet_73 : decode cX6_quiet 73 = .ok (.iconst 1, 1) := by decide +kernel
theorem dX6_quiet_74 : decode cX6_quiet 74 = .ok (.iload 5, 2) := by decide +kernel
theorem dX6_quiet_76 : decode cX6_quiet 76 = .ok (.ishl, 1) := by decide +kernel
theorem dX6_quiet_77 : decode cX6_quiet 77 = .ok (.ior, 1) := by decide +kernel
theorem dX6_quiet_78 : decode cX6_quiet 78 = .ok (.istore 4, 2) := by decide +kernel
theorem dX6_quiet_80 : decode cX6_quiet 80 = .ok (.iinc 5 1, 3) := by decide +kernel
theorem dX6_quiet_83 : decode cX6_quiet 83 = .ok (.goto (-51), 3) := by decide +kernel
theorem dX6_quiet_86 : decode cX6_quiet 86 = .ok (.iload 4, 2) := by decide +kernel
theorem dX6_quiet_88 : decode cX6_quiet 88 = .ok (.ireturn, 1) := by decide +kernel
theorem dX6_ofNet_0 : decode cX6_ofNet 0 = .ok (.aload_n 0, 1) := by decide +kernel
theorem dX6_ofNet_1 : decode cX6_ofNet 1 = .ok (.getfield 12, 3) := by decide +kernel
theorem dX6_ofNet_4 : decode cX6_ofNet 4 = .ok (.iload_n 1, 1) := by decide +kernel
theorem dX6_ofNet_5 : decode cX6_ofNet 5 = .ok (.invokevirtual 95, 3) := by decide +kernel
theorem dX6_ofNet_8 : decode cX6_ofNet 8 = .ok (.astore_n 3, 1) := by decide +kernel
theorem dX6_ofNet_9 : decode cX6_ofNet 9 = .ok (.aload_n 3, 1) := by decide +kernel
theorem dX6_ofNet_10 : decode cX6_ofNet 10 = .ok (.ifnonnull 5, 3) := by decide +kernel
theorem dX6_ofNet_13 : decode cX6_ofNet 13 = .ok (.iconst (-1), 1) := by decide +kernel
theorem dX6_ofNet_14 : decode cX6_ofNet 14 = .ok (.ireturn, 1) := by decide +kernel
theorem dX6_ofNet_15 : decode cX6_ofNet 15 = .ok (.iload_n 2, 1) := by decide +kernel
theorem dX6_ofNet_16 : decode cX6_ofNet 16 = .ok (.tableswitch 79 0 6 #[44, 49, 54, 59, 64, 69, 74], 44) := by decide +kernel
theorem dX6_ofNet_60 : decode cX6_ofNet 60 = .ok (.aload_n 3, 1) := by decide +kernel
theorem dX6_ofNet_61 : decode cX6_ofNet 61 = .ok (.getfield 84, 3) := by decide +kernel
theorem dX6_ofNet_64 : decode cX6_ofNet 64 = .ok (.ireturn, 1) := by decide +kernel
theorem dX6_ofNet_65 : decode cX6_ofNet 65 = .ok (.aload_n 3, 1) := by decide +kernel
theorem dX6_ofNet_66 : decode cX6_ofNet 66 = .ok (.getfield 89, 3) := by decide +kernel
theorem dX6_ofNet_69 : decode cX6_ofNet 69 = .ok (.ireturn, 1) := by decide +kernel
theorem dX6_ofNet_70 : decode cX6_ofNet 70 = .ok (.aload_n 3, 1) := by decide +kernel
theorem dX6_ofNet_71 : decode cX6_ofNet 71 = .ok (.getfield 92, 3) := by decide +kernel
theorem dX6_ofNet_74 : decode cX6_ofNet 74 = .ok (.ireturn, 1) := by decide +kernel
theorem dX6_ofNet_75 : decode cX6_ofNet 75 = .ok (.aload_n 3, 1) := by decide +kernel
theorem dX6_ofNet_76 : decode cX6_ofNet 76 = .ok (.getfield 375, 3) := by decide +kernel
theorem dX6_ofNet_79 : decode cX6_ofNet 79 = .ok (.ireturn, 1) := by decide +kernel
theorem dX6_ofNet_80 : decode cX6_ofNet 80 = .ok (.aload_n 3, 1) := by decide +kernel
theorem dX6_ofNet_81 : decode cX6_ofNet 81 = .ok (.getfield 181, 3) := by decide +kernel
theorem dX6_ofNet_84 : decode cX6_ofNet 84 = .ok (.ireturn, 1) := by decide +kernel
theorem dX6_ofNet_85 : decode cX6_ofNet 85 = .ok (.aload_n 3, 1) := by decide +kernel
theorem dX6_ofNet_86 : decode cX6_ofNet 86 = .ok (.getfield 378, 3) := by decide +kernel
theorem dX6_ofNet_89 : decode cX6_ofNet 89 = .ok (.ireturn, 1) := by decide +kernel
theorem dX6_ofNet_90 : decode cX6_ofNet 90 = .ok (.aload_n 3, 1) := by decide +kernel
theorem dX6_ofNet_91 : decode cX6_ofNet 91 = .ok (.getfield 381, 3) := by decide +kernel
theorem dX6_ofNet_94 : decode cX6_ofNet 94 = .ok (.ireturn, 1) := by decide +kernel
theorem dX6_ofNet_95 : decode cX6_ofNet 95 = .ok (.iconst (-1), 1) := by decide +kernel
theorem dX6_ofNet_96 : decode cX6_ofNet 96 = .ok (.ireturn, 1) := by decide +kernel
theorem dX6_hash_0 : decode cX6_hash 0 = .ok (.aload_n 0, 1) := by decide +kernel
theorem dX6_hash_1 : decode cX6_hash 1 = .ok (.getfield 12, 3) := by decide +kernel
theorem dX6_hash_4 : decode cX6_hash 4 = .ok (.iload_n 1, 1) := by decide +kernel
theorem dX6_hash_5 : decode cX6_hash 5 = .ok (.iload_n 2, 1) := by decide +kernel
theorem dX6_hash_6 : decode cX6_hash 6 = .ok (.invokevirtual 132, 3) := by decide +kernel
theorem dX6_hash_9 : decode cX6_hash 9 = .ok (.astore 4, 2) := by decide +kernel
theorem dX6_hash_11 : decode cX6_hash 11 = .ok (.aload 4, 2) := by decide +kernel
theorem dX6_hash_13 : decode cX6_hash 13 = .ok (.ifnonnull 5, 3) := by decide +kernel
theorem dX6_hash_16 : decode cX6_hash 16 = .ok (.iconst 0, 1) := by decide +kernel
theorem dX6_hash_17 : decode cX6_hash 17 = .ok (.ireturn, 1) := by decide +kernel
theorem dX6_hash_18 : decode cX6_hash 18 = .ok (.iload_n 3, 1) := by decide +kernel
theorem dX6_hash_19 : decode cX6_hash 19 = .ok (.tableswitch 49 0 2 #[25, 34, 43], 25) := by decide +kernel
theorem dX6_hash_44 : decode cX6_hash 44 = .ok (.aload 4, 2) := by decide +kernel
theorem dX6_hash_46 : decode cX6_hash 46 = .ok (.getfield 135, 3) := by decide +kernel
theorem dX6_hash_49 : decode cX6_hash 49 = .ok (.getfield 301, 3) := by decide +kernel
theorem dX6_hash_52 : decode cX6_hash 52 = .ok (.ireturn, 1) := by decide +kernel
theorem dX6_hash_53 : decode cX6_hash 53 = .ok (.aload 4, 2) := by decide +kernel
theorem dX6_hash_55 : decode cX6_hash 55 = .ok (.getfield 141, 3) := by decide +kernel
theorem dX6_hash_58 : decode cX6_hash 58 = .ok (.getfield 301, 3) := by decide +kernel
theorem dX6_hash_61 : decode cX6_hash 61 = .ok (.ireturn, 1) := by decide +kernel
theorem dX6_hash_62 : decode cX6_hash 62 = .ok (.aload 4, 2) := by decide +kernel
theorem dX6_hash_64 : decode cX6_hash 64 = .ok (.getfield 304, 3) := by decide +kernel
theorem dX6_hash_67 : decode cX6_hash 67 = .ok (.ireturn, 1) := by decide +kernel
theorem dX6_hash_68 : decode cX6_hash 68 = .ok (.iconst 0, 1) := by decide +kernel
theorem dX6_hash_69 : decode cX6_hash 69 = .ok (.ireturn, 1) := by decide +kernel
theorem dX6_isThere_0 : decode cX6_isThere 0 = .ok (.iload_n 2, 1) := by decide +kernel
theorem dX6_isThere_1 : decode cX6_isThere 1 = .ok (.iconst 0, 1) := by decide +kernel
theorem dX6_isThere_2 : decode cX6_isThere 2 = .ok (.iconst 1, 1) := by decide +kernel
theorem dX6_isThere_3 : decode cX6_isThere 3 = .ok (.invokestatic 54, 3) := by decide +kernel
theorem dX6_isThere_6 : decode cX6_isThere 6 = .ok (.ifCond .eq 17, 3) := by decide +kernel
theorem dX6_isThere_9 : decode cX6_isThere 9 = .ok (.iload_n 3, 1) := by decide +kernel
theorem dX6_isThere_10 : decode cX6_isThere 10 = .ok (.iconst 0, 1) := by decide +kernel
theorem dX6_isThere_11 : decode cX6_isThere 11 = .ok (.ldc 232, 2) := by decide +kernel
theorem dX6_isThere_13 : decode cX6_isThere 13 = .ok (.invokestatic 54, 3) := by decide +kernel
theorem dX6_isThere_16 : decode cX6_isThere 16 = .ok (.ifCond .eq 7, 3) := by decide +kernel
theorem dX6_isThere_19 : decode cX6_isThere 19 = .ok (.iconst 1, 1) := by decide +kernel
theorem dX6_isThere_20 : decode cX6_isThere 20 = .ok (.goto 4, 3) := by decide +kernel
theorem dX6_isThere_23 : decode cX6_isThere 23 = .ok (.iconst 0, 1) := by decide +kernel
theorem dX6_isThere_24 : decode cX6_isThere 24 = .ok (.istore 4, 2) := by decide +kernel
theorem dX6_isThere_26 : decode cX6_isThere 26 = .ok (.iload 4, 2) := by decide +kernel
theorem dX6_isThere_28 : decode cX6_isThere 28 = .ok (.ifCond .eq 14, 3) := by decide +kernel
theorem dX6_isThere_31 : decode cX6_isThere 31 = .ok (.aload_n 0, 1) := by decide +kernel
theorem dX6_isThere_32 : decode cX6_isThere 32 = .ok (.getfield 12, 3) := by decide +kernel
theorem dX6_isThere_35 : decode cX6_isThere 35 = .ok (.iload_n 1, 1) := by decide +kernel
theorem dX6_isThere_36 : decode cX6_isThere 36 = .ok (.invokevirtual 76, 3) := by decide +kernel
theorem dX6_isThere_39 : decode cX6_isThere 39 = .ok (.ifCond .ne 5, 3) := by decide +kernel
theorem dX6_isThere_42 : decode cX6_isThere 42 = .ok (.iconst (-1), 1) := by decide +kernel
theorem dX6_isThere_43 : decode cX6_isThere 43 = .ok (.ireturn, 1) := by decide +kernel
theorem dX6_isThere_44 : decode cX6_isThere 44 = .ok (.aload_n 0, 1) := by decide +kernel
theorem dX6_isThere_45 : decode cX6_isThere 45 = .ok (.getfield 12, 3) := by decide +kernel
theorem dX6_isThere_48 : decode cX6_isThere 48 = .ok (.iload_n 1, 1) := by decide +kernel
theorem dX6_isThere_49 : decode cX6_isThere 49 = .ok (.iload_n 2, 1) := by decide +kernel
theorem dX6_isThere_50 : decode cX6_isThere 50 = .ok (.iload_n 3, 1) := by decide +kernel
theorem dX6_isThere_51 : decode cX6_isThere 51 = .ok (.invokevirtual 322, 3) := by decide +kernel
theorem dX6_isThere_54 : decode cX6_isThere 54 = .ok (.invokestatic 242, 3) := by decide +kernel
theorem dX6_isThere_57 : decode cX6_isThere 57 = .ok (.ireturn, 1) := by decide +kernel
theorem dX6_status_0 : decode cX6_status 0 = .ok (.aload_n 0, 1) := by decide +kernel
theorem dX6_status_1 : decode cX6_status 1 = .ok (.getfield 44, 3) := by decide +kernel
theorem dX6_status_4 : decode cX6_status 4 = .ok (.ireturn, 1) := by decide +kernel
theorem dX6_count_0 : decode cX6_count 0 = .ok (.iload_n 1, 1) := by decide +kernel
theorem dX6_count_1 : decode cX6_count 1 = .ok (.tableswitch 269 0 19 #[95, 103, 111, 119, 127, 135, 142, 149, 156, 163, 168, 178, 188, 198, 208, 218, 228, 239, 250, 258], 95) := by decide +kernel
theorem dX6_count_96 : decode cX6_count 96 = .ok (.aload_n 0, 1) := by decide +kernel
theorem dX6_count_97 : decode cX6_count 97 = .ok (.getfield 12, 3) := by decide +kernel
theorem dX6_count_100 : decode cX6_count 100 = .ok (.getfield 102, 3) := by decide +kernel
theorem dX6_count_103 : decode cX6_count 103 = .ok (.ireturn, 1) := by decide +kernel
theorem dX6_count_104 : decode cX6_count 104 = .ok (.aload_n 0, 1) := by decide +kernel
theorem dX6_count_105 : decode cX6_count 105 = .ok (.getfield 12, 3) := by decide +kernel
theorem dX6_count_108 : decode cX6_count 108 = .ok (.getfield 62, 3) := by decide +kernel
theorem dX6_count_111 : decode cX6_count 111 = .ok (.ireturn, 1) := by decide +kernel
theorem dX6_count_112 : decode cX6_count 112 = .ok (.aload_n 0, 1) := by decide +kernel
theorem dX6_count_113 : decode cX6_count 113 = .ok (.getfield 12, 3) := by decide +kernel
theorem dX6_count_116 : decode cX6_count 116 = .ok (.getfield 123, 3) := by decide +kernel
theorem dX6_count_119 : decode cX6_count 119 = .ok (.ireturn, 1) := by decide +kernel
theorem dX6_count_120 : decode cX6_count 120 = .ok (.aload_n 0, 1) := by decide +kernel
theorem dX6_count_121 : decode cX6_count 121 = .ok (.getfield 12, 3) := by decide +kernel
theorem dX6_count_124 : decode cX6_count 124 = .ok (.getfield 126, 3) := by decide +kernel
theorem dX6_count_127 : decode cX6_count 127 = .ok (.ireturn, 1) := by decide +kernel
theorem dX6_count_128 : decode cX6_count 128 = .ok (.aload_n 0, 1) := by decide +kernel
theorem dX6_count_129 : decode cX6_count 129 = .ok (.getfield 12, 3) := by decide +kernel
theorem dX6_count_132 : decode cX6_count 132 = .ok (.invokevirtual 382, 3) := by decide +kernel
theorem dX6_count_135 : decode cX6_count 135 = .ok (.ireturn, 1) := by decide +kernel
theorem dX6_count_136 : decode cX6_count 136 = .ok (.aload_n 0, 1) := by decide +kernel
theorem dX6_count_137 : decode cX6_count 137 = .ok (.getfield 41, 3) := by decide +kernel
theorem dX6_count_140 : decode cX6_count 140 = .ok (.iconst 0, 1) := by decide +kernel
theorem dX6_count_141 : decode cX6_count 141 = .ok (.iaload, 1) := by decide +kernel
theorem dX6_count_142 : decode cX6_count 142 = .ok (.ireturn, 1) := by decide +kernel
theorem dX6_count_143 : decode cX6_count 143 = .ok (.aload_n 0, 1) := by decide +kernel
theorem dX6_count_144 : decode cX6_count 144 = .ok (.getfield 41, 3) := by decide +kernel
theorem dX6_count_147 : decode cX6_count 147 = .ok (.iconst 1, 1) := by decide +kernel
theorem dX6_count_148 : decode cX6_count 148 = .ok (.iaload, 1) := by decide +kernel
theorem dX6_count_149 : decode cX6_count 149 = .ok (.ireturn, 1) := by decide +kernel
theorem dX6_count_150 : decode cX6_count 150 = .ok (.aload_n 0, 1) := by decide +kernel
theorem dX6_count_151 : decode cX6_count 151 = .ok (.getfield 41, 3) := by decide +kernel
theorem dX6_count_154 : decode cX6_count 154 = .ok (.iconst 3, 1) := by decide +kernel
theorem dX6_count_155 : decode cX6_count 155 = .ok (.iaload, 1) := by decide +kernel
theorem dX6_count_156 : decode cX6_count 156 = .ok (.ireturn, 1) := by decide +kernel
theorem dX6_count_157 : decode cX6_count 157 = .ok (.aload_n 0, 1) := by decide +kernel
theorem dX6_count_158 : decode cX6_count 158 = .ok (.getfield 41, 3) := by decide +kernel
theorem dX6_count_161 : decode cX6_count 161 = .ok (.iconst 4, 1) := by decide +kernel
theorem dX6_count_162 : decode cX6_count 162 = .ok (.iaload, 1) := by decide +kernel
theorem dX6_count_163 : decode cX6_count 163 = .ok (.ireturn, 1) := by decide +kernel
theorem dX6_count_164 : decode cX6_count 164 = .ok (.aload_n 0, 1) := by decide +kernel
theorem dX6_count_165 : decode cX6_count 165 = .ok (.getfield 38, 3) := by decide +kernel
theorem dX6_count_168 : decode cX6_count 168 = .ok (.ireturn, 1) := by decide +kernel
theorem dX6_count_169 : decode cX6_count 169 = .ok (.aload_n 0, 1) := by decide +kernel
theorem dX6_count_170 : decode cX6_count 170 = .ok (.getfield 12, 3) := by decide +kernel
theorem dX6_count_173 : decode cX6_count 173 = .ok (.getfield 385, 3) := by decide +kernel
theorem dX6_count_176 : decode cX6_count 176 = .ok (.iconst 0, 1) := by decide +kernel
theorem dX6_count_177 : decode cX6_count 177 = .ok (.iaload, 1) := by decide +kernel
theorem dX6_count_178 : decode cX6_count 178 = .ok (.ireturn, 1) := by decide +kernel
theorem dX6_count_179 : decode cX6_count 179 = .ok (.aload_n 0, 1) := by decide +kernel
theorem dX6_count_180 : decode cX6_count 180 = .ok (.getfield 12, 3) := by decide +kernel
theorem dX6_count_183 : decode cX6_count 183 = .ok (.getfield 385, 3) := by decide +kernel
theorem dX6_count_186 : decode cX6_count 186 = .ok (.iconst 1, 1) := by decide +kernel
theorem dX6_count_187 : decode cX6_count 187 = .ok (.iaload, 1) := by decide +kernel
theorem dX6_count_188 : decode cX6_count 188 = .ok (.ireturn, 1) := by decide +kernel
theorem dX6_count_189 : decode cX6_count 189 = .ok (.aload_n 0, 1) := by decide +kernel
theorem dX6_count_190 : decode cX6_count 190 = .ok (.getfield 12, 3) := by decide +kernel
theorem dX6_count_193 : decode cX6_count 193 = .ok (.getfield 385, 3) := by decide +kernel
theorem dX6_count_196 : decode cX6_count 196 = .ok (.iconst 2, 1) := by decide +kernel
theorem dX6_count_197 : decode cX6_count 197 = .ok (.iaload, 1) := by decide +kernel
theorem dX6_count_198 : decode cX6_count 198 = .ok (.ireturn, 1) := by decide +kernel
theorem dX6_count_199 : decode cX6_count 199 = .ok (.aload_n 0, 1) := by decide +kernel
theorem dX6_count_200 : decode cX6_count 200 = .ok (.getfield 12, 3) := by decide +kernel
theorem dX6_count_203 : decode cX6_count 203 = .ok (.getfield 385, 3) := by decide +kernel
theorem dX6_count_206 : decode cX6_count 206 = .ok (.iconst 3, 1) := by decide +kernel
theorem dX6_count_207 : decode cX6_count 207 = .ok (.iaload, 1) := by decide +kernel
theorem dX6_count_208 : decode cX6_count 208 = .ok (.ireturn, 1) := by decide +kernel
theorem dX6_count_209 : decode cX6_count 209 = .ok (.aload_n 0, 1) := by decide +kernel
theorem dX6_count_210 : decode cX6_count 210 = .ok (.getfield 12, 3) := by decide +kernel
theorem dX6_count_213 : decode cX6_count 213 = .ok (.getfield 385, 3) := by decide +kernel
theorem dX6_count_216 : decode cX6_count 216 = .ok (.iconst 4, 1) := by decide +kernel
theorem dX6_count_217 : decode cX6_count 217 = .ok (.iaload, 1) := by decide +kernel
theorem dX6_count_218 : decode cX6_count 218 = .ok (.ireturn, 1) := by decide +kernel
theorem dX6_count_219 : decode cX6_count 219 = .ok (.aload_n 0, 1) := by decide +kernel
theorem dX6_count_220 : decode cX6_count 220 = .ok (.getfield 12, 3) := by decide +kernel
theorem dX6_count_223 : decode cX6_count 223 = .ok (.getfield 385, 3) := by decide +kernel
theorem dX6_count_226 : decode cX6_count 226 = .ok (.iconst 5, 1) := by decide +kernel
theorem dX6_count_227 : decode cX6_count 227 = .ok (.iaload, 1) := by decide +kernel
theorem dX6_count_228 : decode cX6_count 228 = .ok (.ireturn, 1) := by decide +kernel
theorem dX6_count_229 : decode cX6_count 229 = .ok (.aload_n 0, 1) := by decide +kernel
theorem dX6_count_230 : decode cX6_count 230 = .ok (.getfield 12, 3) := by decide +kernel
theorem dX6_count_233 : decode cX6_count 233 = .ok (.getfield 385, 3) := by decide +kernel
theorem dX6_count_236 : decode cX6_count 236 = .ok (.bipush 6, 2) := by decide +kernel
theorem dX6_count_238 : decode cX6_count 238 = .ok (.iaload, 1) := by decide +kernel
theorem dX6_count_239 : decode cX6_count 239 = .ok (.ireturn, 1) := by decide +kernel
theorem dX6_count_240 : decode cX6_count 240 = .ok (.aload_n 0, 1) := by decide +kernel
theorem dX6_count_241 : decode cX6_count 241 = .ok (.getfield 12, 3) := by decide +kernel
theorem dX6_count_244 : decode cX6_count 244 = .ok (.getfield 385, 3) := by decide +kernel
theorem dX6_count_247 : decode cX6_count 247 = .ok (.bipush 7, 2) := by decide +kernel
theorem dX6_count_249 : decode cX6_count 249 = .ok (.iaload, 1) := by decide +kernel
theorem dX6_count_250 : decode cX6_count 250 = .ok (.ireturn, 1) := by decide +kernel
theorem dX6_count_251 : decode cX6_count 251 = .ok (.aload_n 0, 1) := by decide +kernel
theorem dX6_count_252 : decode cX6_count 252 = .ok (.getfield 12, 3) := by decide +kernel
theorem dX6_count_255 : decode cX6_count 255 = .ok (.getfield 129, 3) := by decide +kernel
theorem dX6_count_258 : decode cX6_count 258 = .ok (.ireturn, 1) := by decide +kernel
theorem dX6_count_259 : decode cX6_count 259 = .ok (.aload_n 0, 1) := by decide +kernel
theorem dX6_count_260 : decode cX6_count 260 = .ok (.getfield 12, 3) := by decide +kernel
theorem dX6_count_263 : decode cX6_count 263 = .ok (.getfield 385, 3) := by decide +kernel
theorem dX6_count_266 : decode cX6_count 266 = .ok (.bipush 8, 2) := by decide +kernel
theorem dX6_count_268 : decode cX6_count 268 = .ok (.iaload, 1) := by decide +kernel
theorem dX6_count_269 : decode cX6_count 269 = .ok (.ireturn, 1) := by decide +kernel
theorem dX6_count_270 : decode cX6_count 270 = .ok (.iconst (-1), 1) := by decide +kernel
theorem dX6_count_271 : decode cX6_count 271 = .ok (.ireturn, 1) := by decide +kernel
theorem dX6_paperWith_0 : decode cX6_paperWith 0 = .ok (.aload_n 0, 1) := by decide +kernel
theorem dX6_paperWith_1 : decode cX6_paperWith 1 = .ok (.getfield 16, 3) := by decide +kernel
theorem dX6_paperWith_4 : decode cX6_paperWith 4 = .ok (.aload_n 0, 1) := by decide +kernel
theorem dX6_paperWith_5 : decode cX6_paperWith 5 = .ok (.getfield 12, 3) := by decide +kernel
theorem dX6_paperWith_8 : decode cX6_paperWith 8 = .ok (.invokevirtual 219, 3) := by decide +kernel
theorem dX6_paperWith_11 : decode cX6_paperWith 11 = .ok (.aload_n 0, 1) := by decide +kernel
theorem dX6_paperWith_12 : decode cX6_paperWith 12 = .ok (.getfield 16, 3) := by decide +kernel
theorem dX6_paperWith_15 : decode cX6_paperWith 15 = .ok (.iload_n 1, 1) := by decide +kernel
theorem dX6_paperWith_16 : decode cX6_paperWith 16 = .ok (.putfield 126, 3) := by decide +kernel
theorem dX6_paperWith_19 : decode cX6_paperWith 19 = .ok (.aload_n 0, 1) := by decide +kernel
theorem dX6_paperWith_20 : decode cX6_paperWith 20 = .ok (.getfield 16, 3) := by decide +kernel
theorem dX6_paperWith_23 : decode cX6_paperWith 23 = .ok (.areturn, 1) := by decide +kernel
theorem dX6_would_0 : decode cX6_would 0 = .ok (.iconst 1, 1) := by decide +kernel
theorem dX6_would_1 : decode cX6_would 1 = .ok (.iload_n 1, 1) := by decide +kernel
theorem dX6_would_2 : decode cX6_would 2 = .ok (.invokestatic 119, 3) := by decide +kernel
theorem dX6_would_5 : decode cX6_would 5 = .ok (.ifCond .eq 27, 3) := by decide +kernel
theorem dX6_would_8 : decode cX6_would 8 = .ok (.iload_n 2, 1) := by decide +kernel
theorem dX6_would_9 : decode cX6_would 9 = .ok (.iconst 1, 1) := by decide +kernel
theorem dX6_would_10 : decode cX6_would 10 = .ok (.sipush 200, 3) := by decide +kernel
theorem dX6_would_13 : decode cX6_would 13 = .ok (.invokestatic 54, 3) := by decide +kernel
theorem dX6_would_16 : decode cX6_would 16 = .ok (.ifCond .eq 16, 3) := by decide +kernel
theorem dX6_would_19 : decode cX6_would 19 = .ok (.iload_n 3, 1) := by decide +kernel
theorem dX6_would_20 : decode cX6_would 20 = .ok (.iconst 0, 1) := by decide +kernel
theorem dX6_would_21 : decode cX6_would 21 = .ok (.iconst 2, 1) := by decide +kernel
theorem dX6_would_22 : decode cX6_would 22 = .ok (.invokestatic 54, 3) := by decide +kernel
theorem dX6_would_25 : decode cX6_would 25 = .ok (.ifCond .eq 7, 3) := by decide +kernel
theorem dX6_would_28 : decode cX6_would 28 = .ok (.iconst 1, 1) := by decide +kernel
theorem dX6_would_29 : decode cX6_would 29 = .ok (.goto 4, 3) := by decide +kernel
theorem dX6_would_32 : decode cX6_would 32 = .ok (.iconst 0, 1) := by decide +kernel
theorem dX6_would_33 : decode cX6_would 33 = .ok (.istore 4, 2) := by decide +kernel
theorem dX6_would_35 : decode cX6_would 35 = .ok (.iload 4, 2) := by decide +kernel
theorem dX6_would_37 : decode cX6_would 37 = .ok (.ifCond .eq 11, 3) := by decide +kernel
theorem dX6_would_40 : decode cX6_would 40 = .ok (.aload_n 0, 1) := by decide +kernel
theorem dX6_would_41 : decode cX6_would 41 = .ok (.iload_n 2, 1) := by decide +kernel
theorem dX6_would_42 : decode cX6_would 42 = .ok (.invokevirtual 213, 3) := by decide +kernel
theorem dX6_would_45 : decode cX6_would 45 = .ok (.ifCond .ne 5, 3) := by decide +kernel
theorem dX6_would_48 : decode cX6_would 48 = .ok (.iconst (-1), 1) := by decide +kernel
theorem dX6_would_49 : decode cX6_would 49 = .ok (.ireturn, 1) := by decide +kernel
theorem dX6_would_50 : decode cX6_would 50 = .ok (.aload_n 0, 1) := by decide +kernel
theorem dX6_would_51 : decode cX6_would 51 = .ok (.iload_n 1, 1) := by decide +kernel
theorem dX6_would_52 : decode cX6_would 52 = .ok (.invokevirtual 342, 3) := by decide +kernel
theorem dX6_would_55 : decode cX6_would 55 = .ok (.iload_n 2, 1) := by decide +kernel
theorem dX6_would_56 : decode cX6_would 56 = .ok (.invokevirtual 216, 3) := by decide +kernel
theorem dX6_would_59 : decode cX6_would 59 = .ok (.istore 5, 2) := by decide +kernel
theorem dX6_would_61 : decode cX6_would 61 = .ok (.iload_n 3, 1) := by decide +kernel
theorem dX6_would_62 : decode cX6_would 62 = .ok (.lookupswitch 45 #[(0, 26), (1, 29)], 26) := by decide +kernel
theorem dX6_would_88 : decode cX6_would 88 = .ok (.iload 5, 2) := by decide +kernel
theorem dX6_would_90 : decode cX6_would 90 = .ok (.ireturn, 1) := by decide +kernel
theorem dX6_would_91 : decode cX6_would 91 = .ok (.aload_n 0, 1) := by decide +kernel
theorem dX6_would_92 : decode cX6_would 92 = .ok (.getfield 16, 3) := by decide +kernel
theorem dX6_would_95 : decode cX6_would 95 = .ok (.invokevirtual 346, 3) := by decide +kernel
theorem dX6_would_98 : decode cX6_would 98 = .ok (.aload_n 0, 1) := by decide +kernel
theorem dX6_would_99 : decode cX6_would 99 = .ok (.getfield 12, 3) := by decide +kernel
theorem dX6_would_102 : decode cX6_would 102 = .ok (.invokevirtual 346, 3) := by decide +kernel
theorem dX6_would_105 : decode cX6_would 105 = .ok (.isub, 1) := by decide +kernel
theorem dX6_would_106 : decode cX6_would 106 = .ok (.ireturn, 1) := by decide +kernel
theorem dX6_would_107 : decode cX6_would 107 = .ok (.aload_n 0, 1) := by decide +kernel
theorem dX6_would_108 : decode cX6_would 108 = .ok (.getfield 16, 3) := by decide +kernel
theorem dX6_would_111 : decode cX6_would 111 = .ok (.invokevirtual 349, 3) := by decide +kernel
theorem dX6_would_114 : decode cX6_would 114 = .ok (.ireturn, 1) := by decide +kernel
theorem dX6_bestShare_0 : decode cX6_bestShare 0 = .ok (.iload_n 1, 1) := by decide +kernel
theorem dX6_bestShare_1 : decode cX6_bestShare 1 = .ok (.iconst 1, 1) := by decide +kernel
theorem dX6_bestShare_2 : decode cX6_bestShare 2 = .ok (.bipush 32, 2) := by decide +kernel
theorem dX6_bestShare_4 : decode cX6_bestShare 4 = .ok (.invokestatic 54, 3) := by decide +kernel
theorem dX6_bestShare_7 : decode cX6_bestShare 7 = .ok (.ifCond .eq 11, 3) := by decide +kernel
theorem dX6_bestShare_10 : decode cX6_bestShare 10 = .ok (.aload_n 0, 1) := by decide +kernel
theorem dX6_bestShare_11 : decode cX6_bestShare 11 = .ok (.iload_n 1, 1) := by decide +kernel
theorem dX6_bestShare_12 : decode cX6_bestShare 12 = .ok (.invokevirtual 213, 3) := by decide +kernel
theorem dX6_bestShare_15 : decode cX6_bestShare 15 = .ok (.ifCond .ne 5, 3) := by decide +kernel
theorem dX6_bestShare_18 : decode cX6_bestShare 18 = .ok (.iconst (-1), 1) := by decide +kernel
theorem dX6_bestShare_19 : decode cX6_bestShare 19 = .ok (.ireturn, 1) := by decide +kernel
theorem dX6_bestShare_20 : decode cX6_bestShare 20 = .ok (.iconst 0, 1) := by decide +kernel
theorem dX6_bestShare_21 : decode cX6_bestShare 21 = .ok (.istore_n 2, 1) := by decide +kernel
theorem dX6_bestShare_22 : decode cX6_bestShare 22 = .ok (.iconst (-1), 1) := by decide +kernel
theorem dX6_bestShare_23 : decode cX6_bestShare 23 = .ok (.istore_n 3, 1) := by decide +kernel
theorem dX6_bestShare_24 : decode cX6_bestShare 24 = .ok (.iconst 0, 1) := by decide +kernel
theorem dX6_bestShare_25 : decode cX6_bestShare 25 = .ok (.istore 4, 2) := by decide +kernel
theorem dX6_bestShare_27 : decode cX6_bestShare 27 = .ok (.iload 4, 2) := by decide +kernel
theorem dX6_bestShare_29 : decode cX6_bestShare 29 = .ok (.bipush 32, 2) := by decide +kernel
theorem dX6_bestShare_31 : decode cX6_bestShare 31 = .ok (.if_icmp .gt 33, 3) := by decide +kernel
theorem dX6_bestShare_34 : decode cX6_bestShare 34 = .ok (.aload_n 0, 1) := by decide +kernel
theorem dX6_bestShare_35 : decode cX6_bestShare 35 = .ok (.iload 4, 2) := by decide +kernel
theorem dX6_bestShare_37 : decode cX6_bestShare 37 = .ok (.invokevirtual 342, 3) := by decide +kernel
theorem dX6_bestShare_40 : decode cX6_bestShare 40 = .ok (.iload_n 1, 1) := by decide +kernel
theorem dX6_bestShare_41 : decode cX6_bestShare 41 = .ok (.invokevirtual 216, 3) := by decide +kernel
theorem dX6_bestShare_44 : decode cX6_bestShare 44 = .ok (.istore 5, 2) := by decide +kernel
theorem dX6_bestShare_46 : decode cX6_bestShare 46 = .ok (.iload 5, 2) := by decide +kernel
theorem dX6_bestShare_48 : decode cX6_bestShare 48 = .ok (.iload_n 3, 1) := by decide +kernel
theorem dX6_bestShare_49 : decode cX6_bestShare 49 = .ok (.if_icmp .le 9, 3) := by decide +kernel
theorem dX6_bestShare_52 : decode cX6_bestShare 52 = .ok (.iload 5, 2) := by decide +kernel
theorem dX6_bestShare_54 : decode cX6_bestShare 54 = .ok (.istore_n 3, 1) := by decide +kernel
theorem dX6_bestShare_55 : decode cX6_bestShare 55 = .ok (.iload 4, 2) := by decide +kernel
theorem dX6_bestShare_57 : decode cX6_bestShare 57 = .ok (.istore_n 2, 1) := by decide +kernel
theorem dX6_bestShare_58 : decode cX6_bestShare 58 = .ok (.iinc 4 2, 3) := by decide +kernel
theorem dX6_bestShare_61 : decode cX6_bestShare 61 = .ok (.goto (-34), 3) := by decide +kernel
theorem dX6_bestShare_64 : decode cX6_bestShare 64 = .ok (.iload_n 2, 1) := by decide +kernel
theorem dX6_bestShare_65 : decode cX6_bestShare 65 = .ok (.ireturn, 1) := by decide +kernel
theorem lk_RX6_219 : LkV RX6 219 RX5 yX5_copyFrom cX5_copyFrom 3 none 1 := ⟨⟨mw_466, mw_467, mw_468, mw_53, mw_469⟩, by decide +kernel⟩
set_option maxHeartbeats 4000000 in
set_option maxRecDepth 100000 in
theorem c_keepForUndo (l : Launch) (E : hE) (a : Int32) : Met l yX6_keepForUndo (.code yX6_keepForUndo cX6_keepForUndo 2 none :: gw_all) (rmk 3 120) (cPre E r0 [.ref (E.2.1 + 0), .int a]) (cV E (fun ρ1 => ∀ k, k ≠ 0 → k ≠ 182 → ρ1 k = r0 k)) 0 0 (hA E) := by
  refine ent (own := RX6) (by decide) rfl (Nat.le_of_ble_eq_true rfl) ?_
  intro p e s m below meth c ls B hr hlk hl hP hS
  have hx := B.1.1
  have hb := B.1.2.1
  have hown := B.1.2.2.2.1
  have hts := B.1.2.2.2.2
  have hl : lv_has ls 2 [(0, .ref (E.2.1 + 0)), (1, .int a)] := hl
  refine lv_aload_n hx hb dX6_keepForUndo_0 rfl (lv_at hl 0 rfl) ?_
  refine get6 B hP (by decide +kernel) 4 (by decide) mw_416 rfl dX6_keepForUndo_1 ?_
  refine lv_aload_n hx hb dX6_keepForUndo_4 rfl (lv_at hl 0 rfl) ?_
  refine get6 B hP (by decide +kernel) 6 (by decide) mw_418 (v := .int 0) (show some (Value.int (r0 0 6)) = some (Value.int 0) from congrArg (fun z => some (Value.int z)) (show r0 0 6 = 0 by decide +kernel)) dX6_keepForUndo_5 ?_
  refine aldWn (n := 8) B hP (by decide +kernel) (by decide +kernel) rfl (by decide) (by decide) dX6_keepForUndo_8 ?_
  refine lv_aload_n hx hb dX6_keepForUndo_9 rfl (lv_at hl 0 rfl) ?_
  refine get6 B hP (by decide +kernel) 0 (by decide) mw_412 rfl dX6_keepForUndo_10 ?_
  refine call_v (cVt (k := 364) (av := [.ref (E.2.1 + 1)]) (rest := []) B hP hS (c_World_copyFrom l E r0 364 1 (by decide +kernel) (by decide +kernel) (by decide) (fun r _ h52 h10 j => congrFun (r0_ag (by decide +kernel) (by decide +kernel) h52 h10) j) ⟨by decide +kernel, by decide +kernel⟩) lk_RX6_219 (hrecv (ci := 5) B hP (hk_lt (c := 5) (by decide +kernel) (by decide)) (hcc5 _ _ (by decide +kernel)) rfl) rfl rfl hl.1 (Nat.le_of_ble_eq_true rfl) ⟨Nat.le_of_ble_eq_true rfl, Nat.le_of_ble_eq_true rfl⟩ ⟨Nat.le_of_ble_eq_true rfl, Nat.le_of_ble_eq_true rfl⟩ dX6_keepForUndo_13) hS (fun ρ2 H locs q3 hP hS => ?_)
  rw [cpw_self (fun j => congrFun (r0_ag (k1 := 364) (k2 := 1) (r := 0) (by decide +kernel) (by decide +kernel) (by decide) (by decide)) j)] at q3
  subst q3
  refine lv_aload_n hx hb dX6_keepForUndo_16 rfl (lv_at hl 0 rfl) ?_
  refine get6 B hP (by decide +kernel) 5 (by decide) mw_417 rfl dX6_keepForUndo_17 ?_
  refine lv_aload_n hx hb dX6_keepForUndo_20 rfl (lv_at hl 0 rfl) ?_
  refine get6 B hP (by decide +kernel) 6 (by decide) mw_418 (v := .int 0) (show some (Value.int (r0 0 6)) = some (Value.int 0) from congrArg (fun z => some (Value.int z)) (show r0 0 6 = 0 by decide +kernel)) dX6_keepForUndo_21 ?_
  refine lv_iload_n hx hb dX6_keepForUndo_24 rfl (lv_at hl 1 rfl) ?_
  refine astn (n := 8) B hP hS (by decide +kernel) (by decide +kernel) rfl (by decide) (by decide) dX6_keepForUndo_25 (fun H locs hP hS => ?_)
  obtain ⟨ρ4, e5⟩ : ∃ z, z = up r0 182 0 a := ⟨_, rfl⟩
  rw [← e5] at hP
  refine lv_aload_n hx hb dX6_keepForUndo_26 rfl (lv_at hl 0 rfl) ?_
  refine lv_aload_n hx hb dX6_keepForUndo_27 rfl (lv_at hl 0 rfl) ?_
  refine get6 B hP (by decide +kernel) 6 (by decide) mw_418 (v := .int 0) (show some (Value.int (ρ4 0 6)) = some (Value.int 0) from congrArg (fun z => some (Value.int z)) (by rw [e5]; exact up_get_ne (Or.inl (by decide)) (show r0 0 6 = 0 by decide +kernel))) dX6_keepForUndo_28 ?_
  refine lv_iconst (v := 1) hx hb dX6_keepForUndo_31 (by decide) ?_
  refine lv_iadd hx hb dX6_keepForUndo_32 ?_
  refine lv_topi (fun z6 ez6 => ?_)
  obtain rfl : z6 = 1 := ez6.trans (by decide)
  refine lv_bipush (v := 8) hx hb dX6_keepForUndo_33 (by decide) ?_
  refine lv_irem hx hb dX6_keepForUndo_35 (by decide) ?_
  refine lv_topi (fun z7 ez7 => ?_)
  obtain rfl : z7 = 1 := ez7.trans (by decide)
  refine put6 B hP hS (by decide +kernel) 6 (by decide) mw_418 rfl rfl rfl (fs6_6 E 0 _ _) dX6_keepForUndo_36 (fun H locs hP hS => ?_)
  obtain ⟨ρ8, e9⟩ : ∃ z, z = up ρ4 0 6 1 := ⟨_, rfl⟩
  rw [← e9] at hP
  refine lv_aload_n hx hb dX6_keepForUndo_39 rfl (lv_at hl 0 rfl) ?_
  refine lv_aload_n hx hb dX6_keepForUndo_40 rfl (lv_at hl 0 rfl) ?_
  refine get6 B hP (by decide +kernel) 7 (by decide) mw_419 (v := .int 0) (show some (Value.int (ρ8 0 7)) = some (Value.int 0) from congrArg (fun z => some (Value.int z)) (by rw [e9]; exact up_get_ne (Or.inr (by decide)) (by rw [e5]; exact up_get_ne (Or.inl (by decide)) (show r0 0 7 = 0 by decide +kernel)))) dX6_keepForUndo_41 ?_
  refine lv_iconst (v := 1) hx hb dX6_keepForUndo_44 (by decide) ?_
  refine lv_iadd hx hb dX6_keepForUndo_45 ?_
  refine lv_topi (fun z10 ez10 => ?_)
  obtain rfl : z10 = 1 := ez10.trans (by decide)
  refine lv_bipush (v := 8) hx hb dX6_keepForUndo_46 (by decide) ?_
  refine va_mmin hx hb (by rw [hl.1]; exact B.1.2.2.1) hown (hts _ mw_496) (hts _ mw_497) (hts _ mw_61) (hts _ mw_498) (Nat.le_of_ble_eq_true rfl) (Nat.le_of_ble_eq_true rfl) (Nat.le_refl _) (Nat.le_refl _) dX6_keepForUndo_48 ?_
  refine lv_topi (fun z11 ez11 => ?_)
  obtain rfl : z11 = 1 := ez11.trans (by decide)
  refine put6 B hP hS (by decide +kernel) 7 (by decide) mw_419 rfl rfl rfl (fs6_7 E 0 _ _) dX6_keepForUndo_51 (fun H locs hP hS => ?_)
  obtain ⟨ρ12, e13⟩ : ∃ z, z = up ρ8 0 7 1 := ⟨_, rfl⟩
  rw [← e13] at hP
  exact ret_v B hr hlk hP hS dX6_keepForUndo_54 ((fun k h0 h1 => by rw [e13, up_ne _ _ _ h0, e9, up_ne _ _ _ h0, e5, up_ne _ _ _ h1]))

theorem lk_RX6_58 : LkV RX6 58 RX6 yX6_refuse cX6_refuse 3 (some .int) 1 := ⟨⟨mw_458, mw_460, mw_0, mw_52, mw_461⟩, by decide +kernel⟩
theorem lk_RX6_65 : LkV RX6 65 RX6 yX6_keepForUndo cX6_keepForUndo 2 none 1 := ⟨⟨mw_462, mw_464, mw_1, mw_52, mw_465⟩, by decide +kernel⟩
theorem lk_RX6_72 : LkV RX6 72 RX6 yX6_accept cX6_accept 2 (some .int) 1 := ⟨⟨mw_499, mw_501, mw_2, mw_52, mw_502⟩, by decide +kernel⟩
set_option maxHeartbeats 4000000 in
set_option maxRecDepth 100000 in
theorem c_radio (l : Launch) (E : hE) (a1 : Int32) : Met l yX6_radio (.code yX6_radio cX6_radio 2 (some .int) :: gw_all) (rmk 4 160) (cPre E r0 [.ref (E.2.1 + 0), .int a1]) (cI E (fun r _ => ((iR a1 0 268435455) ∧ r = 0) ∨ (¬ (iR a1 0 268435455) ∧ r = -1))) 0 0 (hA E) := by
  refine ent (own := RX6) (by decide) rfl (Nat.le_of_ble_eq_true rfl) ?_
  intro p e s m below meth c ls B hr hlk hl hP hS
  have hx := B.1.1
  have hb := B.1.2.1
  have hown := B.1.2.2.2.1
  have hts := B.1.2.2.2.2
  have hl : lv_has ls 2 [(0, .ref (E.2.1 + 0)), (1, .int a1)] := hl
  refine lv_iload_n hx hb dX6_radio_0 rfl (lv_at hl 1 rfl) ?_
  refine lv_iconst (v := 0) hx hb dX6_radio_1 (by decide) ?_
  refine lv_ldc (v := 268435455) hx hb hown (hts _ mw_454) dX6_radio_2 ?_
  refine call_i (cS (av := [.int a1, .int 0, .int 268435455]) (rest := []) B hP hS (c_isWithin l E r0 a1 0 268435455 0 268435455 (by decide) (by decide)) lk_RX6_54 rfl rfl hl.1 (Nat.le_of_ble_eq_true rfl) ⟨Nat.le_of_ble_eq_true rfl, Nat.le_of_ble_eq_true rfl⟩ ⟨Nat.le_of_ble_eq_true rfl, Nat.le_of_ble_eq_true rfl⟩ dX6_radio_4) hS (fun r1 ρ2 H locs q3 hP hS => ?_)
  obtain ⟨rfl, q3⟩ := q3
  rcases q3 with ⟨rfl, q3⟩ | ⟨rfl, q3⟩
  · skip
    refine lv_if_ne (tgt := 16) hx hb dX6_radio_7 (by decide) (fun _ => ?_) (fun c4 => absurd c4 (by decide))
    refine lv_aload_n hx hb dX6_radio_16 rfl (lv_at hl 0 rfl) ?_
    refine get6 B hP (by decide +kernel) 0 (by decide) mw_412 rfl dX6_radio_17 ?_
    refine get5 B hP (by decide +kernel) 4 (by decide) mw_380 (v := .int 0) (show some (Value.int (r0 1 4)) = some (Value.int 0) from congrArg (fun z => some (Value.int z)) (show r0 1 4 = 0 by decide +kernel)) dX6_radio_20 ?_
    refine lv_bipush (v := 6) hx hb dX6_radio_23 (by decide) ?_
    refine lv_icmp_lt (tgt := 35) hx hb dX6_radio_25 (by decide) (fun _ => ?_) (fun c5 => absurd c5 (by decide))
    refine lv_aload_n hx hb dX6_radio_35 rfl (lv_at hl 0 rfl) ?_
    refine lv_iconst (v := 0) hx hb dX6_radio_36 (by decide) ?_
    refine call_v (cVt (k := 0) (av := [.int 0]) (rest := []) B hP hS (c_keepForUndo l E 0) lk_RX6_65 (hrecv (ci := 6) B hP (hk_lt (c := 6) (by decide +kernel) (by decide)) (hcc6 _ _ (by decide +kernel)) rfl) rfl rfl hl.1 (Nat.le_of_ble_eq_true rfl) ⟨Nat.le_of_ble_eq_true rfl, Nat.le_of_ble_eq_true rfl⟩ ⟨Nat.le_of_ble_eq_true rfl, Nat.le_of_ble_eq_true rfl⟩ dX6_radio_37) hS (fun ρ7 H locs q8 hP hS => ?_)
    refine lv_aload_n hx hb dX6_radio_40 rfl (lv_at hl 0 rfl) ?_
    refine get6 B hP (by decide +kernel) 0 (by decide) mw_412 rfl dX6_radio_41 ?_
    refine get5 B hP (by decide +kernel) 0 (by decide) mw_372 rfl dX6_radio_44 ?_
    refine lv_aload_n hx hb dX6_radio_47 rfl (lv_at hl 0 rfl) ?_
    refine get6 B hP (by decide +kernel) 0 (by decide) mw_412 rfl dX6_radio_48 ?_
    refine get5 B hP (by decide +kernel) 4 (by decide) mw_380 (v := .int 0) (show some (Value.int (ρ7 1 4)) = some (Value.int 0) from congrArg (fun z => some (Value.int z)) ((congrFun (q8 1 (by decide) (by decide)) 4).trans (show r0 1 4 = 0 by decide +kernel))) dX6_radio_51 ?_
    refine lv_iload_n hx hb dX6_radio_54 rfl (lv_at hl 1 rfl) ?_
    refine astn (n := 6) B hP hS (by decide +kernel) (by decide +kernel) rfl (by decide) (by decide) dX6_radio_55 (fun H locs hP hS => ?_)
    obtain ⟨ρ9, e10⟩ : ∃ z, z = up ρ7 2 0 a1 := ⟨_, rfl⟩
    rw [← e10] at hP
    refine lv_aload_n hx hb dX6_radio_56 rfl (lv_at hl 0 rfl) ?_
    refine get6 B hP (by decide +kernel) 0 (by decide) mw_412 rfl dX6_radio_57 ?_
    refine lv_dup hx hb dX6_radio_60 rfl ?_
    refine get5 B hP (by decide +kernel) 4 (by decide) mw_380 (v := .int 0) (show some (Value.int (ρ9 1 4)) = some (Value.int 0) from congrArg (fun z => some (Value.int z)) (by rw [e10]; exact up_get_ne (Or.inl (by decide)) ((congrFun (q8 1 (by decide) (by decide)) 4).trans (show r0 1 4 = 0 by decide +kernel)))) dX6_radio_61 ?_
    refine lv_iconst (v := 1) hx hb dX6_radio_64 (by decide) ?_
    refine lv_iadd hx hb dX6_radio_65 ?_
    refine lv_topi (fun z11 ez11 => ?_)
    obtain rfl : z11 = 1 := ez11.trans (by decide)
    refine put5 B hP hS (by decide +kernel) 4 (by decide) mw_380 rfl rfl rfl (fs5_4 E 1 _ _) dX6_radio_66 (fun H locs hP hS => ?_)
    obtain ⟨ρ12, e13⟩ : ∃ z, z = up ρ9 1 4 1 := ⟨_, rfl⟩
    rw [← e13] at hP
    refine lv_aload_n hx hb dX6_radio_69 rfl (lv_at hl 0 rfl) ?_
    refine lv_aload_n hx hb dX6_radio_70 rfl (lv_at hl 0 rfl) ?_
    refine get6 B hP (by decide +kernel) 0 (by decide) mw_412 rfl dX6_radio_71 ?_
    refine get5 B hP (by decide +kernel) 4 (by decide) mw_380 (v := .int 1) (show some (Value.int (ρ12 1 4)) = some (Value.int 1) from congrArg (fun z => some (Value.int z)) (by rw [e13]; exact up_get_at)) dX6_radio_74 ?_
    refine lv_iconst (v := 1) hx hb dX6_radio_77 (by decide) ?_
    refine lv_isub hx hb dX6_radio_78 ?_
    refine lv_topi (fun z14 ez14 => ?_)
    obtain rfl : z14 = 0 := ez14.trans (by decide)
    refine call_i (cVt (k := 0) (av := [.int 0]) (rest := []) B hP hS (c_accept l E ρ12 0) lk_RX6_72 (hrecv (ci := 6) B hP (hk_lt (c := 6) (by decide +kernel) (by decide)) (hcc6 _ _ (by decide +kernel)) rfl) rfl rfl hl.1 (Nat.le_of_ble_eq_true rfl) ⟨Nat.le_of_ble_eq_true rfl, Nat.le_of_ble_eq_true rfl⟩ ⟨Nat.le_of_ble_eq_true rfl, Nat.le_of_ble_eq_true rfl⟩ dX6_radio_79) hS (fun r15 ρ16 H locs q17 hP hS => ?_)
    obtain rfl := q17
    exact ret_i B hr hlk hP hS dX6_radio_82 (Or.inl ⟨q3, rfl⟩)
  · skip
    refine lv_if_ne (tgt := 16) hx hb dX6_radio_7 (by decide) (fun c18 => absurd c18 (by decide)) (fun _ => ?_)
    refine lv_aload_n hx hb dX6_radio_10 rfl (lv_at hl 0 rfl) ?_
    refine lv_iconst (v := (-1)) hx hb dX6_radio_11 (by decide) ?_
    refine call_i (cVt (k := 0) (av := [.int (-1)]) (rest := []) B hP hS (c_refuse l E r0 (-1)) lk_RX6_58 (hrecv (ci := 6) B hP (hk_lt (c := 6) (by decide +kernel) (by decide)) (hcc6 _ _ (by decide +kernel)) rfl) rfl rfl hl.1 (Nat.le_of_ble_eq_true rfl) ⟨Nat.le_of_ble_eq_true rfl, Nat.le_of_ble_eq_true rfl⟩ ⟨Nat.le_of_ble_eq_true rfl, Nat.le_of_ble_eq_true rfl⟩ dX6_radio_12) hS (fun r19 ρ20 H locs q21 hP hS => ?_)
    obtain rfl := q21
    exact ret_i B hr hlk hP hS dX6_radio_15 (Or.inr ⟨fun z => q3 z, rfl⟩)

theorem lk_RX6_76 : LkV RX6 76 RX5 yX5_hasRadio cX5_hasRadio 2 (some .boolean) 1 := ⟨⟨mw_508, mw_509, mw_510, mw_53, mw_511⟩, by decide +kernel⟩
set_option maxHeartbeats 4000000 in
set_option maxRecDepth 100000 in
theorem c_net (l : Launch) (E : hE) (a1 a2 a3 : Int32) : Met l yX6_net (.code yX6_net cX6_net 4 (some .int) :: gw_all) (rmk 4 160) (cPre E r0 [.ref (E.2.1 + 0), .int a1, .int a2, .int a3]) (cI E (fun r _ => ((iR a1 0 1 ∧ iR a3 0 65535) ∧ r = -2) ∨ (¬ (iR a1 0 1 ∧ iR a3 0 65535) ∧ r = -1))) 0 0 (hA E) := by
  refine ent (own := RX6) (by decide) rfl (Nat.le_of_ble_eq_true rfl) ?_
  intro p e s m below meth c ls B hr hlk hl hP hS
  have hx := B.1.1
  have hb := B.1.2.1
  have hown := B.1.2.2.2.1
  have hts := B.1.2.2.2.2
  have hl : lv_has ls 4 [(0, .ref (E.2.1 + 0)), (1, .int a1), (2, .int a2), (3, .int a3)] := hl
  refine lv_iload_n hx hb dX6_net_0 rfl (lv_at hl 1 rfl) ?_
  refine lv_iconst (v := 0) hx hb dX6_net_1 (by decide) ?_
  refine lv_iconst (v := 1) hx hb dX6_net_2 (by decide) ?_
  refine call_i (cS (av := [.int a1, .int 0, .int 1]) (rest := []) B hP hS (c_isWithin l E r0 a1 0 1 0 1 (by decide) (by decide)) lk_RX6_54 rfl rfl hl.1 (Nat.le_of_ble_eq_true rfl) ⟨Nat.le_of_ble_eq_true rfl, Nat.le_of_ble_eq_true rfl⟩ ⟨Nat.le_of_ble_eq_true rfl, Nat.le_of_ble_eq_true rfl⟩ dX6_net_3) hS (fun r1 ρ2 H locs q3 hP hS => ?_)
  obtain ⟨rfl, q3⟩ := q3
  rcases q3 with ⟨rfl, q3⟩ | ⟨rfl, q3⟩
  · skip
    refine lv_if_eq (tgt := 19) hx hb dX6_net_6 (by decide) (fun c4 => absurd c4 (by decide)) (fun _ => ?_)
    refine lv_iload_n hx hb dX6_net_9 rfl (lv_at hl 3 rfl) ?_
    refine lv_iconst (v := 0) hx hb dX6_net_10 (by decide) ?_
    refine lv_ldc (v := 65535) hx hb hown (hts _ mw_507) dX6_net_11 ?_
    refine call_i (cS (av := [.int a3, .int 0, .int 65535]) (rest := []) B hP hS (c_isWithin l E r0 a3 0 65535 0 65535 (by decide) (by decide)) lk_RX6_54 rfl rfl hl.1 (Nat.le_of_ble_eq_true rfl) ⟨Nat.le_of_ble_eq_true rfl, Nat.le_of_ble_eq_true rfl⟩ ⟨Nat.le_of_ble_eq_true rfl, Nat.le_of_ble_eq_true rfl⟩ dX6_net_13) hS (fun r5 ρ6 H locs q7 hP hS => ?_)
    obtain ⟨rfl, q7⟩ := q7
    rcases q7 with ⟨rfl, q7⟩ | ⟨rfl, q7⟩
    · skip
      refine lv_if_ne (tgt := 25) hx hb dX6_net_16 (by decide) (fun _ => ?_) (fun c8 => absurd c8 (by decide))
      refine lv_aload_n hx hb dX6_net_25 rfl (lv_at hl 0 rfl) ?_
      refine get6 B hP (by decide +kernel) 0 (by decide) mw_412 rfl dX6_net_26 ?_
      refine lv_iload_n hx hb dX6_net_29 rfl (lv_at hl 2 rfl) ?_
      refine call_i (cVt (k := 1) (av := [.int a2]) (rest := []) B hP hS (c_hasRadio l E r0 1 a2 (by decide +kernel) (show r0 1 4 = 0 by decide +kernel)) lk_RX6_76 (hrecv (ci := 5) B hP (hk_lt (c := 5) (by decide +kernel) (by decide)) (hcc5 _ _ (by decide +kernel)) rfl) rfl rfl hl.1 (Nat.le_of_ble_eq_true rfl) ⟨Nat.le_of_ble_eq_true rfl, Nat.le_of_ble_eq_true rfl⟩ ⟨Nat.le_of_ble_eq_true rfl, Nat.le_of_ble_eq_true rfl⟩ dX6_net_30) hS (fun r9 ρ10 H locs q11 hP hS => ?_)
      obtain ⟨rfl, rfl⟩ := q11
      refine lv_if_ne (tgt := 43) hx hb dX6_net_33 (by decide) (fun c12 => absurd c12 (by decide)) (fun _ => ?_)
      refine lv_aload_n hx hb dX6_net_36 rfl (lv_at hl 0 rfl) ?_
      refine lv_bipush (v := (-2)) hx hb dX6_net_37 (by decide) ?_
      refine call_i (cVt (k := 0) (av := [.int (-2)]) (rest := []) B hP hS (c_refuse l E r0 (-2)) lk_RX6_58 (hrecv (ci := 6) B hP (hk_lt (c := 6) (by decide +kernel) (by decide)) (hcc6 _ _ (by decide +kernel)) rfl) rfl rfl hl.1 (Nat.le_of_ble_eq_true rfl) ⟨Nat.le_of_ble_eq_true rfl, Nat.le_of_ble_eq_true rfl⟩ ⟨Nat.le_of_ble_eq_true rfl, Nat.le_of_ble_eq_true rfl⟩ dX6_net_39) hS (fun r13 ρ14 H locs q15 hP hS => ?_)
      obtain rfl := q15
      exact ret_i B hr hlk hP hS dX6_net_42 (Or.inl ⟨⟨q3, q7⟩, rfl⟩)
    · skip
      refine lv_if_ne (tgt := 25) hx hb dX6_net_16 (by decide) (fun c16 => absurd c16 (by decide)) (fun _ => ?_)
      refine lv_aload_n hx hb dX6_net_19 rfl (lv_at hl 0 rfl) ?_
      refine lv_iconst (v := (-1)) hx hb dX6_net_20 (by decide) ?_
      refine call_i (cVt (k := 0) (av := [.int (-1)]) (rest := []) B hP hS (c_refuse l E r0 (-1)) lk_RX6_58 (hrecv (ci := 6) B hP (hk_lt (c := 6) (by decide +kernel) (by decide)) (hcc6 _ _ (by decide +kernel)) rfl) rfl rfl hl.1 (Nat.le_of_ble_eq_true rfl) ⟨Nat.le_of_ble_eq_true rfl, Nat.le_of_ble_eq_true rfl⟩ ⟨Nat.le_of_ble_eq_true rfl, Nat.le_of_ble_eq_true rfl⟩ dX6_net_21) hS (fun r17 ρ18 H locs q19 hP hS => ?_)
      obtain rfl := q19
      exact ret_i B hr hlk hP hS dX6_net_24 (Or.inr ⟨fun z => q7 z.2, rfl⟩)
  · skip
    refine lv_if_eq (tgt := 19) hx hb dX6_net_6 (by decide) (fun _ => ?_) (fun c20 => absurd c20 (by decide))
    refine lv_aload_n hx hb dX6_net_19 rfl (lv_at hl 0 rfl) ?_
    refine lv_iconst (v := (-1)) hx hb dX6_net_20 (by decide) ?_
    refine call_i (cVt (k := 0) (av := [.int (-1)]) (rest := []) B hP hS (c_refuse l E r0 (-1)) lk_RX6_58 (hrecv (ci := 6) B hP (hk_lt (c := 6) (by decide +kernel) (by decide)) (hcc6 _ _ (by decide +kernel)) rfl) rfl rfl hl.1 (Nat.le_of_ble_eq_true rfl) ⟨Nat.le_of_ble_eq_true rfl, Nat.le_of_ble_eq_true rfl⟩ ⟨Nat.le_of_ble_eq_true rfl, Nat.le_of_ble_eq_true rfl⟩ dX6_net_21) hS (fun r21 ρ22 H locs q23 hP hS => ?_)
    obtain rfl := q23
    exact ret_i B hr hlk hP hS dX6_net_24 (Or.inr ⟨fun z => q3 z.1, rfl⟩)

set_option maxHeartbeats 4000000 in
set_option maxRecDepth 100000 in
theorem c_join (l : Launch) (E : hE) (a1 a2 : Int32) : Met l yX6_join (.code yX6_join cX6_join 4 (some .int) :: gw_all) (rmk 4 160) (cPre E r0 [.ref (E.2.1 + 0), .int a1, .int a2]) (cI E (fun r _ => r = (-2))) 0 0 (hA E) := by
  refine ent (own := RX6) (by decide) rfl (Nat.le_of_ble_eq_true rfl) ?_
  intro p e s m below meth c ls B hr hlk hl hP hS
  have hx := B.1.1
  have hb := B.1.2.1
  have hown := B.1.2.2.2.1
  have hts := B.1.2.2.2.2
  have hl : lv_has ls 4 [(0, .ref (E.2.1 + 0)), (1, .int a1), (2, .int a2)] := hl
  refine lv_aload_n hx hb dX6_join_0 rfl (lv_at hl 0 rfl) ?_
  refine get6 B hP (by decide +kernel) 0 (by decide) mw_412 rfl dX6_join_1 ?_
  refine lv_iload_n hx hb dX6_join_4 rfl (lv_at hl 1 rfl) ?_
  refine call_q (cVt (k := 1) (av := [.int a1]) (rest := []) B hP hS (c_netAt l E r0 1 a1 (by decide +kernel) (FrW_r0 (by decide +kernel))) lk_RX6_95 (hrecv (ci := 5) B hP (hk_lt (c := 5) (by decide +kernel) (by decide)) (hcc5 _ _ (by decide +kernel)) rfl) rfl rfl hl.1 (Nat.le_of_ble_eq_true rfl) ⟨Nat.le_of_ble_eq_true rfl, Nat.le_of_ble_eq_true rfl⟩ ⟨Nat.le_of_ble_eq_true rfl, Nat.le_of_ble_eq_true rfl⟩ dX6_join_5) hS (fun r1 ρ2 H locs q3 hP hS => ?_)
  obtain ⟨rfl, rfl⟩ := q3
  refine W.eq (g2 := F0 m 8 ls [.null]) rfl ?_
  refine lv_astore_nN (lv' := [(3, .null), (0, .ref (E.2.1 + 0)), (1, .int a1), (2, .int a2)]) hx hb dX6_join_8 rfl hl (by decide) rfl (fun ls hl => ?_)
  refine lv_aload_nN hx hb dX6_join_9 rfl (lv_at hl 0 rfl) ?_
  refine lv_ifnullN (tgt := 24) hx hb dX6_join_10 (by decide) ?_
  refine lv_aload_n hx hb dX6_join_24 rfl (lv_at hl 1 rfl) ?_
  refine lv_bipush (v := (-2)) hx hb dX6_join_25 (by decide) ?_
  refine call_i (cVt (k := 0) (av := [.int (-2)]) (rest := []) B hP hS (c_refuse l E r0 (-2)) lk_RX6_58 (hrecv (ci := 6) B hP (hk_lt (c := 6) (by decide +kernel) (by decide)) (hcc6 _ _ (by decide +kernel)) rfl) rfl rfl hl.1 (Nat.le_of_ble_eq_true rfl) ⟨Nat.le_of_ble_eq_true rfl, Nat.le_of_ble_eq_true rfl⟩ ⟨Nat.le_of_ble_eq_true rfl, Nat.le_of_ble_eq_true rfl⟩ dX6_join_27) hS (fun r4 ρ5 H locs q6 hP hS => ?_)
  obtain rfl := q6
  exact ret_i B hr hlk hP hS dX6_join_30 (rfl)

set_option maxHeartbeats 4000000 in
set_option maxRecDepth 100000 in
theorem c_leave (l : Launch) (E : hE) (a1 a2 : Int32) : Met l yX6_leave (.code yX6_leave cX6_leave 4 (some .int) :: gw_all) (rmk 4 160) (cPre E r0 [.ref (E.2.1 + 0), .int a1, .int a2]) (cI E (fun r _ => r = (-2))) 0 0 (hA E) := by
  refine ent (own := RX6) (by decide) rfl (Nat.le_of_ble_eq_true rfl) ?_
  intro p e s m below meth c ls B hr hlk hl hP hS
  have hx := B.1.1
  have hb := B.1.2.1
  have hown := B.1.2.2.2.1
  have hts := B.1.2.2.2.2
  have hl : lv_has ls 4 [(0, .ref (E.2.1 + 0)), (1, .int a1), (2, .int a2)] := hl
  refine lv_aload_n hx hb dX6_leave_0 rfl (lv_at hl 0 rfl) ?_
  refine get6 B hP (by decide +kernel) 0 (by decide) mw_412 rfl dX6_leave_1 ?_
  refine lv_iload_n hx hb dX6_leave_4 rfl (lv_at hl 1 rfl) ?_
  refine call_q (cVt (k := 1) (av := [.int a1]) (rest := []) B hP hS (c_netAt l E r0 1 a1 (by decide +kernel) (FrW_r0 (by decide +kernel))) lk_RX6_95 (hrecv (ci := 5) B hP (hk_lt (c := 5) (by decide +kernel) (by decide)) (hcc5 _ _ (by decide +kernel)) rfl) rfl rfl hl.1 (Nat.le_of_ble_eq_true rfl) ⟨Nat.le_of_ble_eq_true rfl, Nat.le_of_ble_eq_true rfl⟩ ⟨Nat.le_of_ble_eq_true rfl, Nat.le_of_ble_eq_true rfl⟩ dX6_leave_5) hS (fun r1 ρ2 H locs q3 hP hS => ?_)
  obtain ⟨rfl, rfl⟩ := q3
  refine W.eq (g2 := F0 m 8 ls [.null]) rfl ?_
  refine lv_astore_nN (lv' := [(3, .null), (0, .ref (E.2.1 + 0)), (1, .int a1), (2, .int a2)]) hx hb dX6_leave_8 rfl hl (by decide) rfl (fun ls hl => ?_)
  refine lv_aload_nN hx hb dX6_leave_9 rfl (lv_at hl 0 rfl) ?_
  refine lv_ifnullN (tgt := 21) hx hb dX6_leave_10 (by decide) ?_
  refine lv_aload_n hx hb dX6_leave_21 rfl (lv_at hl 1 rfl) ?_
  refine lv_bipush (v := (-2)) hx hb dX6_leave_22 (by decide) ?_
  refine call_i (cVt (k := 0) (av := [.int (-2)]) (rest := []) B hP hS (c_refuse l E r0 (-2)) lk_RX6_58 (hrecv (ci := 6) B hP (hk_lt (c := 6) (by decide +kernel) (by decide)) (hcc6 _ _ (by decide +kernel)) rfl) rfl rfl hl.1 (Nat.le_of_ble_eq_true rfl) ⟨Nat.le_of_ble_eq_true rfl, Nat.le_of_ble_eq_true rfl⟩ ⟨Nat.le_of_ble_eq_true rfl, Nat.le_of_ble_eq_true rfl⟩ dX6_leave_24) hS (fun r4 ρ5 H locs q6 hP hS => ?_)
  obtain rfl := q6
  exact ret_i B hr hlk hP hS dX6_leave_27 (rfl)

set_option maxHeartbeats 4000000 in
set_option maxRecDepth 100000 in
theorem c_noise (l : Launch) (E : hE) (a1 a2 : Int32) : Met l yX6_noise (.code yX6_noise cX6_noise 4 (some .int) :: gw_all) (rmk 4 160) (cPre E r0 [.ref (E.2.1 + 0), .int a1, .int a2]) (cI E (fun r _ => ((iR a1 0 22 ∧ iR a2 0 16) ∧ r = 0) ∨ (¬ (iR a1 0 22 ∧ iR a2 0 16) ∧ r = -1))) 0 0 (hA E) := by
  refine ent (own := RX6) (by decide) rfl (Nat.le_of_ble_eq_true rfl) ?_
  intro p e s m below meth c ls B hr hlk hl hP hS
  have hx := B.1.1
  have hb := B.1.2.1
  have hown := B.1.2.2.2.1
  have hts := B.1.2.2.2.2
  have hl : lv_has ls 4 [(0, .ref (E.2.1 + 0)), (1, .int a1), (2, .int a2)] := hl
  refine lv_iload_n hx hb dX6_noise_0 rfl (lv_at hl 1 rfl) ?_
  refine lv_iconst (v := 0) hx hb dX6_noise_1 (by decide) ?_
  refine lv_bipush (v := 22) hx hb dX6_noise_2 (by decide) ?_
  refine call_i (cS (av := [.int a1, .int 0, .int 22]) (rest := []) B hP hS (c_isWithin l E r0 a1 0 22 0 22 (by decide) (by decide)) lk_RX6_54 rfl rfl hl.1 (Nat.le_of_ble_eq_true rfl) ⟨Nat.le_of_ble_eq_true rfl, Nat.le_of_ble_eq_true rfl⟩ ⟨Nat.le_of_ble_eq_true rfl, Nat.le_of_ble_eq_true rfl⟩ dX6_noise_4) hS (fun r1 ρ2 H locs q3 hP hS => ?_)
  obtain ⟨rfl, q3⟩ := q3
  rcases q3 with ⟨rfl, q3⟩ | ⟨rfl, q3⟩
  · skip
    obtain ⟨j4, hj4, ej4⟩ := iR_ix (n := 23) q3 (by decide) (by decide)
    refine lv_if_eq (tgt := 20) hx hb dX6_noise_7 (by decide) (fun c5 => absurd c5 (by decide)) (fun _ => ?_)
    refine lv_iload_n hx hb dX6_noise_10 rfl (lv_at hl 2 rfl) ?_
    refine lv_iconst (v := 0) hx hb dX6_noise_11 (by decide) ?_
    refine lv_bipush (v := 16) hx hb dX6_noise_12 (by decide) ?_
    refine call_i (cS (av := [.int a2, .int 0, .int 16]) (rest := []) B hP hS (c_isWithin l E r0 a2 0 16 0 16 (by decide) (by decide)) lk_RX6_54 rfl rfl hl.1 (Nat.le_of_ble_eq_true rfl) ⟨Nat.le_of_ble_eq_true rfl, Nat.le_of_ble_eq_true rfl⟩ ⟨Nat.le_of_ble_eq_true rfl, Nat.le_of_ble_eq_true rfl⟩ dX6_noise_14) hS (fun r6 ρ7 H locs q8 hP hS => ?_)
    obtain ⟨rfl, q8⟩ := q8
    rcases q8 with ⟨rfl, q8⟩ | ⟨rfl, q8⟩
    · skip
      refine lv_if_ne (tgt := 26) hx hb dX6_noise_17 (by decide) (fun _ => ?_) (fun c9 => absurd c9 (by decide))
      refine lv_aload_n hx hb dX6_noise_26 rfl (lv_at hl 0 rfl) ?_
      refine lv_iconst (v := 4) hx hb dX6_noise_27 (by decide) ?_
      refine call_v (cVt (k := 0) (av := [.int 4]) (rest := []) B hP hS (c_keepForUndo l E 4) lk_RX6_65 (hrecv (ci := 6) B hP (hk_lt (c := 6) (by decide +kernel) (by decide)) (hcc6 _ _ (by decide +kernel)) rfl) rfl rfl hl.1 (Nat.le_of_ble_eq_true rfl) ⟨Nat.le_of_ble_eq_true rfl, Nat.le_of_ble_eq_true rfl⟩ ⟨Nat.le_of_ble_eq_true rfl, Nat.le_of_ble_eq_true rfl⟩ dX6_noise_28) hS (fun ρ11 H locs q12 hP hS => ?_)
      refine lv_aload_n hx hb dX6_noise_31 rfl (lv_at hl 0 rfl) ?_
      refine get6 B hP (by decide +kernel) 0 (by decide) mw_412 rfl dX6_noise_32 ?_
      refine get5 B hP (by decide +kernel) 1 (by decide) mw_374 rfl dX6_noise_35 ?_
      refine lv_iload_n hx hb dX6_noise_38 rfl (lv_at hl 1 rfl) ?_
      refine aldf (n := 23) B hP (by decide +kernel) (by decide +kernel) ej4 hj4 (by decide) ((congrFun (q12 3 (by decide) (by decide)) j4).trans (r0_arr (k := 3) (j := j4) (by decide +kernel) (by decide))) dX6_noise_39 ?_
      refine lv_istore_n (lv' := [(3, .int 0), (0, .ref (E.2.1 + 0)), (1, .int a1), (2, .int a2)]) hx hb dX6_noise_40 rfl hl (by decide) rfl (fun ls hl => ?_)
      refine lv_aload_n hx hb dX6_noise_41 rfl (lv_at hl 1 rfl) ?_
      refine get6 B hP (by decide +kernel) 0 (by decide) mw_412 rfl dX6_noise_42 ?_
      refine get5 B hP (by decide +kernel) 1 (by decide) mw_374 rfl dX6_noise_45 ?_
      refine lv_iload_n hx hb dX6_noise_48 rfl (lv_at hl 2 rfl) ?_
      refine lv_iload_n hx hb dX6_noise_49 rfl (lv_at hl 3 rfl) ?_
      refine astn (n := 23) B hP hS (by decide +kernel) (by decide +kernel) ej4 hj4 (by decide) dX6_noise_50 (fun H locs hP hS => ?_)
      obtain ⟨ρ13, e14⟩ : ∃ z, z = up ρ11 3 j4 a2 := ⟨_, rfl⟩
      rw [← e14] at hP
      refine lv_aload_n hx hb dX6_noise_51 rfl (lv_at hl 1 rfl) ?_
      refine lv_iload_n hx hb dX6_noise_52 rfl (lv_at hl 0 rfl) ?_
      refine call_i (cVt (k := 0) (av := [.int 0]) (rest := []) B hP hS (c_accept l E ρ13 0) lk_RX6_72 (hrecv (ci := 6) B hP (hk_lt (c := 6) (by decide +kernel) (by decide)) (hcc6 _ _ (by decide +kernel)) rfl) rfl rfl hl.1 (Nat.le_of_ble_eq_true rfl) ⟨Nat.le_of_ble_eq_true rfl, Nat.le_of_ble_eq_true rfl⟩ ⟨Nat.le_of_ble_eq_true rfl, Nat.le_of_ble_eq_true rfl⟩ dX6_noise_53) hS (fun r15 ρ16 H locs q17 hP hS => ?_)
      obtain rfl := q17
      exact ret_i B hr hlk hP hS dX6_noise_56 (Or.inl ⟨⟨q3, q8⟩, rfl⟩)
    · skip
      refine lv_if_ne (tgt := 26) hx hb dX6_noise_17 (by decide) (fun c18 => absurd c18 (by decide)) (fun _ => ?_)
      refine lv_aload_n hx hb dX6_noise_20 rfl (lv_at hl 0 rfl) ?_
      refine lv_iconst (v := (-1)) hx hb dX6_noise_21 (by decide) ?_
      refine call_i (cVt (k := 0) (av := [.int (-1)]) (rest := []) B hP hS (c_refuse l E r0 (-1)) lk_RX6_58 (hrecv (ci := 6) B hP (hk_lt (c := 6) (by decide +kernel) (by decide)) (hcc6 _ _ (by decide +kernel)) rfl) rfl rfl hl.1 (Nat.le_of_ble_eq_true rfl) ⟨Nat.le_of_ble_eq_true rfl, Nat.le_of_ble_eq_true rfl⟩ ⟨Nat.le_of_ble_eq_true rfl, Nat.le_of_ble_eq_true rfl⟩ dX6_noise_22) hS (fun r19 ρ20 H locs q21 hP hS => ?_)
      obtain rfl := q21
      exact ret_i B hr hlk hP hS dX6_noise_25 (Or.inr ⟨fun z => q8 z.2, rfl⟩)
  · skip
    refine lv_if_eq (tgt := 20) hx hb dX6_noise_7 (by decide) (fun _ => ?_) (fun c22 => absurd c22 (by decide))
    refine lv_aload_n hx hb dX6_noise_20 rfl (lv_at hl 0 rfl) ?_
    refine lv_iconst (v := (-1)) hx hb dX6_noise_21 (by decide) ?_
    refine call_i (cVt (k := 0) (av := [.int (-1)]) (rest := []) B hP hS (c_refuse l E r0 (-1)) lk_RX6_58 (hrecv (ci := 6) B hP (hk_lt (c := 6) (by decide +kernel) (by decide)) (hcc6 _ _ (by decide +kernel)) rfl) rfl rfl hl.1 (Nat.le_of_ble_eq_true rfl) ⟨Nat.le_of_ble_eq_true rfl, Nat.le_of_ble_eq_true rfl⟩ ⟨Nat.le_of_ble_eq_true rfl, Nat.le_of_ble_eq_true rfl⟩ dX6_noise_22) hS (fun r23 ρ24 H locs q25 hP hS => ?_)
    obtain rfl := q25
    exact ret_i B hr hlk hP hS dX6_noise_25 (Or.inr ⟨fun z => q3 z.1, rfl⟩)

theorem lk_RX6_119 : LkS RX6 119 yX6_isTerm cX6_isTerm 2 (some .boolean) 2 := ⟨⟨mw_561, mw_562, mw_52, mw_563⟩, by decide +kernel⟩
set_option maxHeartbeats 4000000 in
set_option maxRecDepth 100000 in
theorem c_terms (l : Launch) (E : hE) (a1 a2 : Int32) : Met l yX6_terms (.code yX6_terms cX6_terms 4 (some .int) :: gw_all) (rmk 4 160) (cPre E r0 [.ref (E.2.1 + 0), .int a1, .int a2]) (cI E (fun r _ => (tm a1 a2 ∧ tmv a1 r) ∨ (¬ tm a1 a2 ∧ r = -1))) 0 0 (hA E) := by
  refine ent (own := RX6) (by decide) rfl (Nat.le_of_ble_eq_true rfl) ?_
  intro p e s m below meth c ls B hr hlk hl hP hS
  have hx := B.1.1
  have hb := B.1.2.1
  have hown := B.1.2.2.2.1
  have hts := B.1.2.2.2.2
  have hl : lv_has ls 4 [(0, .ref (E.2.1 + 0)), (1, .int a1), (2, .int a2)] := hl
  refine lv_iload_n hx hb dX6_terms_0 rfl (lv_at hl 1 rfl) ?_
  refine lv_iload_n hx hb dX6_terms_1 rfl (lv_at hl 2 rfl) ?_
  refine call_i (cS (av := [.int a1, .int a2]) (rest := []) B hP hS (c_isTerm l E r0 a1 a2) lk_RX6_119 rfl rfl hl.1 (Nat.le_of_ble_eq_true rfl) ⟨Nat.le_of_ble_eq_true rfl, Nat.le_of_ble_eq_true rfl⟩ ⟨Nat.le_of_ble_eq_true rfl, Nat.le_of_ble_eq_true rfl⟩ dX6_terms_2) hS (fun r1 ρ2 H locs q3 hP hS => ?_)
  obtain ⟨rfl, q3⟩ := q3
  rcases q3 with ⟨rfl, q3⟩ | ⟨rfl, q3⟩
  · skip
    refine lv_if_ne (tgt := 14) hx hb dX6_terms_5 (by decide) (fun _ => ?_) (fun c4 => absurd c4 (by decide))
    refine lv_aload_n hx hb dX6_terms_14 rfl (lv_at hl 0 rfl) ?_
    refine lv_iconst (v := 5) hx hb dX6_terms_15 (by decide) ?_
    refine call_v (cVt (k := 0) (av := [.int 5]) (rest := []) B hP hS (c_keepForUndo l E 5) lk_RX6_65 (hrecv (ci := 6) B hP (hk_lt (c := 6) (by decide +kernel) (by decide)) (hcc6 _ _ (by decide +kernel)) rfl) rfl rfl hl.1 (Nat.le_of_ble_eq_true rfl) ⟨Nat.le_of_ble_eq_true rfl, Nat.le_of_ble_eq_true rfl⟩ ⟨Nat.le_of_ble_eq_true rfl, Nat.le_of_ble_eq_true rfl⟩ dX6_terms_16) hS (fun ρ6 H locs q7 hP hS => ?_)
    refine lv_iload_n hx hb dX6_terms_19 rfl (lv_at hl 1 rfl) ?_
    refine lv_if_ne (tgt := 42) hx hb dX6_terms_20 (by decide) (fun c8 => ?_) (fun c8 => ?_)
    · skip
      refine lv_iload_n hx hb dX6_terms_42 rfl (lv_at hl 1 rfl) ?_
      refine lv_iconst (v := 1) hx hb dX6_terms_43 (by decide) ?_
      refine lv_icmp_ne (tgt := 66) hx hb dX6_terms_44 (by decide) (fun c9 => ?_) (fun c9 => ?_)
      · skip
        refine lv_aload_n hx hb dX6_terms_66 rfl (lv_at hl 0 rfl) ?_
        refine get6 B hP (by decide +kernel) 0 (by decide) mw_412 rfl dX6_terms_67 ?_
        refine get5 B hP (by decide +kernel) 8 (by decide) mw_388 (v := .int 2) (show some (Value.int (ρ6 1 8)) = some (Value.int 2) from congrArg (fun z => some (Value.int z)) ((congrFun (q7 1 (by decide) (by decide)) 8).trans (show r0 1 8 = 2 by decide +kernel))) dX6_terms_70 ?_
        refine lv_istore_n (lv' := [(3, .int 2), (0, .ref (E.2.1 + 0)), (1, .int a1), (2, .int a2)]) hx hb dX6_terms_73 rfl hl (by decide) rfl (fun ls hl => ?_)
        refine lv_aload_n hx hb dX6_terms_74 rfl (lv_at hl 1 rfl) ?_
        refine get6 B hP (by decide +kernel) 0 (by decide) mw_412 rfl dX6_terms_75 ?_
        refine lv_iload_n hx hb dX6_terms_78 rfl (lv_at hl 3 rfl) ?_
        refine put5 B hP hS (by decide +kernel) 8 (by decide) mw_388 rfl rfl rfl (fs5_8 E 1 _ _) dX6_terms_79 (fun H locs hP hS => ?_)
        obtain ⟨ρ10, e11⟩ : ∃ z, z = up ρ6 1 8 a2 := ⟨_, rfl⟩
        rw [← e11] at hP
        refine lv_aload_n hx hb dX6_terms_82 rfl (lv_at hl 1 rfl) ?_
        refine lv_iload_n hx hb dX6_terms_83 rfl (lv_at hl 0 rfl) ?_
        refine call_i (cVt (k := 0) (av := [.int 2]) (rest := []) B hP hS (c_accept l E ρ10 2) lk_RX6_72 (hrecv (ci := 6) B hP (hk_lt (c := 6) (by decide +kernel) (by decide)) (hcc6 _ _ (by decide +kernel)) rfl) rfl rfl hl.1 (Nat.le_of_ble_eq_true rfl) ⟨Nat.le_of_ble_eq_true rfl, Nat.le_of_ble_eq_true rfl⟩ ⟨Nat.le_of_ble_eq_true rfl, Nat.le_of_ble_eq_true rfl⟩ dX6_terms_84) hS (fun r12 ρ13 H locs q14 hP hS => ?_)
        obtain rfl := q14
        exact ret_i B hr hlk hP hS dX6_terms_87 (Or.inl ⟨q3, tmv_2 q3 c8 c9⟩)
      · skip
        refine lv_aload_n hx hb dX6_terms_47 rfl (lv_at hl 0 rfl) ?_
        refine get6 B hP (by decide +kernel) 0 (by decide) mw_412 rfl dX6_terms_48 ?_
        refine get5 B hP (by decide +kernel) 7 (by decide) mw_386 (v := .int 16) (show some (Value.int (ρ6 1 7)) = some (Value.int 16) from congrArg (fun z => some (Value.int z)) ((congrFun (q7 1 (by decide) (by decide)) 7).trans (show r0 1 7 = 16 by decide +kernel))) dX6_terms_51 ?_
        refine lv_istore_n (lv' := [(3, .int 16), (0, .ref (E.2.1 + 0)), (1, .int a1), (2, .int a2)]) hx hb dX6_terms_54 rfl hl (by decide) rfl (fun ls hl => ?_)
        refine lv_aload_n hx hb dX6_terms_55 rfl (lv_at hl 1 rfl) ?_
        refine get6 B hP (by decide +kernel) 0 (by decide) mw_412 rfl dX6_terms_56 ?_
        refine lv_iload_n hx hb dX6_terms_59 rfl (lv_at hl 3 rfl) ?_
        refine put5 B hP hS (by decide +kernel) 7 (by decide) mw_386 rfl rfl rfl (fs5_7 E 1 _ _) dX6_terms_60 (fun H locs hP hS => ?_)
        obtain ⟨ρ15, e16⟩ : ∃ z, z = up ρ6 1 7 a2 := ⟨_, rfl⟩
        rw [← e16] at hP
        refine lv_goto (tgt := 82) hx hb dX6_terms_63 (by decide) ?_
        refine lv_aload_n hx hb dX6_terms_82 rfl (lv_at hl 1 rfl) ?_
        refine lv_iload_n hx hb dX6_terms_83 rfl (lv_at hl 0 rfl) ?_
        refine call_i (cVt (k := 0) (av := [.int 16]) (rest := []) B hP hS (c_accept l E ρ15 16) lk_RX6_72 (hrecv (ci := 6) B hP (hk_lt (c := 6) (by decide +kernel) (by decide)) (hcc6 _ _ (by decide +kernel)) rfl) rfl rfl hl.1 (Nat.le_of_ble_eq_true rfl) ⟨Nat.le_of_ble_eq_true rfl, Nat.le_of_ble_eq_true rfl⟩ ⟨Nat.le_of_ble_eq_true rfl, Nat.le_of_ble_eq_true rfl⟩ dX6_terms_84) hS (fun r17 ρ18 H locs q19 hP hS => ?_)
        obtain rfl := q19
        exact ret_i B hr hlk hP hS dX6_terms_87 (Or.inl ⟨q3, tmv_1 c9⟩)
    · skip
      refine lv_aload_n hx hb dX6_terms_23 rfl (lv_at hl 0 rfl) ?_
      refine get6 B hP (by decide +kernel) 0 (by decide) mw_412 rfl dX6_terms_24 ?_
      refine get5 B hP (by decide +kernel) 6 (by decide) mw_384 (v := .int 1) (show some (Value.int (ρ6 1 6)) = some (Value.int 1) from congrArg (fun z => some (Value.int z)) ((congrFun (q7 1 (by decide) (by decide)) 6).trans (show r0 1 6 = 1 by decide +kernel))) dX6_terms_27 ?_
      refine lv_istore_n (lv' := [(3, .int 1), (0, .ref (E.2.1 + 0)), (1, .int a1), (2, .int a2)]) hx hb dX6_terms_30 rfl hl (by decide) rfl (fun ls hl => ?_)
      refine lv_aload_n hx hb dX6_terms_31 rfl (lv_at hl 1 rfl) ?_
      refine get6 B hP (by decide +kernel) 0 (by decide) mw_412 rfl dX6_terms_32 ?_
      refine lv_iload_n hx hb dX6_terms_35 rfl (lv_at hl 3 rfl) ?_
      refine put5 B hP hS (by decide +kernel) 6 (by decide) mw_384 rfl rfl rfl (fs5_6 E 1 _ _) dX6_terms_36 (fun H locs hP hS => ?_)
      obtain ⟨ρ20, e21⟩ : ∃ z, z = up ρ6 1 6 a2 := ⟨_, rfl⟩
      rw [← e21] at hP
      refine lv_goto (tgt := 82) hx hb dX6_terms_39 (by decide) ?_
      refine lv_aload_n hx hb dX6_terms_82 rfl (lv_at hl 1 rfl) ?_
      refine lv_iload_n hx hb dX6_terms_83 rfl (lv_at hl 0 rfl) ?_
      refine call_i (cVt (k := 0) (av := [.int 1]) (rest := []) B hP hS (c_accept l E ρ20 1) lk_RX6_72 (hrecv (ci := 6) B hP (hk_lt (c := 6) (by decide +kernel) (by decide)) (hcc6 _ _ (by decide +kernel)) rfl) rfl rfl hl.1 (Nat.le_of_ble_eq_true rfl) ⟨Nat.le_of_ble_eq_true rfl, Nat.le_of_ble_eq_true rfl⟩ ⟨Nat.le_of_ble_eq_true rfl, Nat.le_of_ble_eq_true rfl⟩ dX6_terms_84) hS (fun r22 ρ23 H locs q24 hP hS => ?_)
      obtain rfl := q24
      exact ret_i B hr hlk hP hS dX6_terms_87 (Or.inl ⟨q3, tmv_0 c8⟩)
  · skip
    refine lv_if_ne (tgt := 14) hx hb dX6_terms_5 (by decide) (fun c25 => absurd c25 (by decide)) (fun _ => ?_)
    refine lv_aload_n hx hb dX6_terms_8 rfl (lv_at hl 0 rfl) ?_
    refine lv_iconst (v := (-1)) hx hb dX6_terms_9 (by decide) ?_
    refine call_i (cVt (k := 0) (av := [.int (-1)]) (rest := []) B hP hS (c_refuse l E r0 (-1)) lk_RX6_58 (hrecv (ci := 6) B hP (hk_lt (c := 6) (by decide +kernel) (by decide)) (hcc6 _ _ (by decide +kernel)) rfl) rfl rfl hl.1 (Nat.le_of_ble_eq_true rfl) ⟨Nat.le_of_ble_eq_true rfl, Nat.le_of_ble_eq_true rfl⟩ ⟨Nat.le_of_ble_eq_true rfl, Nat.le_of_ble_eq_true rfl⟩ dX6_terms_10) hS (fun r26 ρ27 H locs q28 hP hS => ?_)
    obtain rfl := q28
    exact ret_i B hr hlk hP hS dX6_terms_13 (Or.inr ⟨q3, rfl⟩)

theorem lk_RX6_132 : LkV RX6 132 RX5 yX5_linkAt cX5_linkAt 4 (some (.object "HopNet$Link")) 2 := ⟨⟨mw_572, mw_573, mw_574, mw_53, mw_575⟩, by decide +kernel⟩
set_option maxHeartbeats 4000000 in
set_option maxRecDepth 100000 in
theorem c_put (l : Launch) (E : hE) (a1 a2 a3 a4 : Int32) : Met l yX6_put (.code yX6_put cX6_put 7 (some .int) :: gw_all) (rmk 4 160) (cPre E r0 [.ref (E.2.1 + 0), .int a1, .int a2, .int a3, .int a4]) (cI E (fun r _ => ((iR a3 0 1 ∧ iR a4 0 255) ∧ r = -2) ∨ (¬ (iR a3 0 1 ∧ iR a4 0 255) ∧ r = -1))) 0 0 (hA E) := by
  refine ent (own := RX6) (by decide) rfl (Nat.le_of_ble_eq_true rfl) ?_
  intro p e s m below meth c ls B hr hlk hl hP hS
  have hx := B.1.1
  have hb := B.1.2.1
  have hown := B.1.2.2.2.1
  have hts := B.1.2.2.2.2
  have hl : lv_has ls 7 [(0, .ref (E.2.1 + 0)), (1, .int a1), (2, .int a2), (3, .int a3), (4, .int a4)] := hl
  refine lv_iload_n hx hb dX6_put_0 rfl (lv_at hl 3 rfl) ?_
  refine lv_iconst (v := 0) hx hb dX6_put_1 (by decide) ?_
  refine lv_iconst (v := 1) hx hb dX6_put_2 (by decide) ?_
  refine call_i (cS (av := [.int a3, .int 0, .int 1]) (rest := []) B hP hS (c_isWithin l E r0 a3 0 1 0 1 (by decide) (by decide)) lk_RX6_54 rfl rfl hl.1 (Nat.le_of_ble_eq_true rfl) ⟨Nat.le_of_ble_eq_true rfl, Nat.le_of_ble_eq_true rfl⟩ ⟨Nat.le_of_ble_eq_true rfl, Nat.le_of_ble_eq_true rfl⟩ dX6_put_3) hS (fun r1 ρ2 H locs q3 hP hS => ?_)
  obtain ⟨rfl, q3⟩ := q3
  rcases q3 with ⟨rfl, q3⟩ | ⟨rfl, q3⟩
  · skip
    refine lv_if_eq (tgt := 21) hx hb dX6_put_6 (by decide) (fun c4 => absurd c4 (by decide)) (fun _ => ?_)
    refine lv_iload hx hb dX6_put_9 (lv_at hl 4 rfl) ?_
    refine lv_iconst (v := 0) hx hb dX6_put_11 (by decide) ?_
    refine lv_sipush (v := 255) hx hb dX6_put_12 (by decide) ?_
    refine call_i (cS (av := [.int a4, .int 0, .int 255]) (rest := []) B hP hS (c_isWithin l E r0 a4 0 255 0 255 (by decide) (by decide)) lk_RX6_54 rfl rfl hl.1 (Nat.le_of_ble_eq_true rfl) ⟨Nat.le_of_ble_eq_true rfl, Nat.le_of_ble_eq_true rfl⟩ ⟨Nat.le_of_ble_eq_true rfl, Nat.le_of_ble_eq_true rfl⟩ dX6_put_15) hS (fun r5 ρ6 H locs q7 hP hS => ?_)
    obtain ⟨rfl, q7⟩ := q7
    rcases q7 with ⟨rfl, q7⟩ | ⟨rfl, q7⟩
    · skip
      refine lv_if_ne (tgt := 27) hx hb dX6_put_18 (by decide) (fun _ => ?_) (fun c8 => absurd c8 (by decide))
      refine lv_aload_n hx hb dX6_put_27 rfl (lv_at hl 0 rfl) ?_
      refine get6 B hP (by decide +kernel) 0 (by decide) mw_412 rfl dX6_put_28 ?_
      refine lv_iload_n hx hb dX6_put_31 rfl (lv_at hl 1 rfl) ?_
      refine lv_iload_n hx hb dX6_put_32 rfl (lv_at hl 2 rfl) ?_
      refine call_q (cVt (k := 1) (av := [.int a1, .int a2]) (rest := []) B hP hS (c_linkAt l E r0 1 a1 a2 (by decide +kernel) (FrW_r0 (by decide +kernel))) lk_RX6_132 (hrecv (ci := 5) B hP (hk_lt (c := 5) (by decide +kernel) (by decide)) (hcc5 _ _ (by decide +kernel)) rfl) rfl rfl hl.1 (Nat.le_of_ble_eq_true rfl) ⟨Nat.le_of_ble_eq_true rfl, Nat.le_of_ble_eq_true rfl⟩ ⟨Nat.le_of_ble_eq_true rfl, Nat.le_of_ble_eq_true rfl⟩ dX6_put_33) hS (fun r9 ρ10 H locs q11 hP hS => ?_)
      obtain ⟨rfl, rfl⟩ := q11
      refine W.eq (g2 := F0 m 36 ls [.null]) rfl ?_
      refine lv_astoreN (lv' := [(5, .null), (0, .ref (E.2.1 + 0)), (1, .int a1), (2, .int a2), (3, .int a3), (4, .int a4)]) hx hb dX6_put_36 hl (by decide) rfl (fun ls hl => ?_)
      refine lv_aloadN hx hb dX6_put_38 (lv_at hl 0 rfl) ?_
      refine lv_ifnonnullN hx hb dX6_put_40 ?_
      refine lv_aload_n hx hb dX6_put_43 rfl (lv_at hl 1 rfl) ?_
      refine lv_bipush (v := (-2)) hx hb dX6_put_44 (by decide) ?_
      refine call_i (cVt (k := 0) (av := [.int (-2)]) (rest := []) B hP hS (c_refuse l E r0 (-2)) lk_RX6_58 (hrecv (ci := 6) B hP (hk_lt (c := 6) (by decide +kernel) (by decide)) (hcc6 _ _ (by decide +kernel)) rfl) rfl rfl hl.1 (Nat.le_of_ble_eq_true rfl) ⟨Nat.le_of_ble_eq_true rfl, Nat.le_of_ble_eq_true rfl⟩ ⟨Nat.le_of_ble_eq_true rfl, Nat.le_of_ble_eq_true rfl⟩ dX6_put_46) hS (fun r12 ρ13 H locs q14 hP hS => ?_)
      obtain rfl := q14
      exact ret_i B hr hlk hP hS dX6_put_49 (Or.inl ⟨⟨q3, q7⟩, rfl⟩)
    · skip
      refine lv_if_ne (tgt := 27) hx hb dX6_put_18 (by decide) (fun c15 => absurd c15 (by decide)) (fun _ => ?_)
      refine lv_aload_n hx hb dX6_put_21 rfl (lv_at hl 0 rfl) ?_
      refine lv_iconst (v := (-1)) hx hb dX6_put_22 (by decide) ?_
      refine call_i (cVt (k := 0) (av := [.int (-1)]) (rest := []) B hP hS (c_refuse l E r0 (-1)) lk_RX6_58 (hrecv (ci := 6) B hP (hk_lt (c := 6) (by decide +kernel) (by decide)) (hcc6 _ _ (by decide +kernel)) rfl) rfl rfl hl.1 (Nat.le_of_ble_eq_true rfl) ⟨Nat.le_of_ble_eq_true rfl, Nat.le_of_ble_eq_true rfl⟩ ⟨Nat.le_of_ble_eq_true rfl, Nat.le_of_ble_eq_true rfl⟩ dX6_put_23) hS (fun r16 ρ17 H locs q18 hP hS => ?_)
      obtain rfl := q18
      exact ret_i B hr hlk hP hS dX6_put_26 (Or.inr ⟨fun z => q7 z.2, rfl⟩)
  · skip
    refine lv_if_eq (tgt := 21) hx hb dX6_put_6 (by decide) (fun _ => ?_) (fun c19 => absurd c19 (by decide))
    refine lv_aload_n hx hb dX6_put_21 rfl (lv_at hl 0 rfl) ?_
    refine lv_iconst (v := (-1)) hx hb dX6_put_22 (by decide) ?_
    refine call_i (cVt (k := 0) (av := [.int (-1)]) (rest := []) B hP hS (c_refuse l E r0 (-1)) lk_RX6_58 (hrecv (ci := 6) B hP (hk_lt (c := 6) (by decide +kernel) (by decide)) (hcc6 _ _ (by decide +kernel)) rfl) rfl rfl hl.1 (Nat.le_of_ble_eq_true rfl) ⟨Nat.le_of_ble_eq_true rfl, Nat.le_of_ble_eq_true rfl⟩ ⟨Nat.le_of_ble_eq_true rfl, Nat.le_of_ble_eq_true rfl⟩ dX6_put_23) hS (fun r20 ρ21 H locs q22 hP hS => ?_)
    obtain rfl := q22
    exact ret_i B hr hlk hP hS dX6_put_26 (Or.inr ⟨fun z => q3 z.1, rfl⟩)

set_option maxHeartbeats 4000000 in
set_option maxRecDepth 100000 in
theorem c_reserve (l : Launch) (E : hE) (a1 a2 a3 a4 a5 : Int32) : Met l yX6_reserve (.code yX6_reserve cX6_reserve 9 (some .int) :: gw_all) (rmk 4 160) (cPre E r0 [.ref (E.2.1 + 0), .int a1, .int a2, .int a3, .int a4, .int a5]) (cI E (fun r _ => ((a3 = 0 ∨ (iR a3 6 40 ∧ ev a3) ∧ (iR a4 0 (a3 - 1).toInt ∧ ev a4) ∧ iR a5 1 3) ∧ r = -2) ∨ (¬ (a3 = 0 ∨ (iR a3 6 40 ∧ ev a3) ∧ (iR a4 0 (a3 - 1).toInt ∧ ev a4) ∧ iR a5 1 3) ∧ r = -1))) 0 0 (hA E) := by
  refine ent (own := RX6) (by decide) rfl (Nat.le_of_ble_eq_true rfl) ?_
  intro p e s m below meth c ls B hr hlk hl hP hS
  have hx := B.1.1
  have hb := B.1.2.1
  have hown := B.1.2.2.2.1
  have hts := B.1.2.2.2.2
  have hl : lv_has ls 9 [(0, .ref (E.2.1 + 0)), (1, .int a1), (2, .int a2), (3, .int a3), (4, .int a4), (5, .int a5)] := hl
  refine lv_iload_n hx hb dX6_reserve_0 rfl (lv_at hl 3 rfl) ?_
  refine lv_if_eq (tgt := 37) hx hb dX6_reserve_1 (by decide) (fun c1 => ?_) (fun c1 => ?_)
  · skip
    refine lv_iconst (v := 1) hx hb dX6_reserve_37 (by decide) ?_
    refine lv_goto (tgt := 42) hx hb dX6_reserve_38 (by decide) ?_
    refine lv_istore (lv' := [(6, .int 1), (0, .ref (E.2.1 + 0)), (1, .int a1), (2, .int a2), (3, .int a3), (4, .int a4), (5, .int a5)]) hx hb dX6_reserve_42 hl (by decide) rfl (fun ls hl => ?_)
    refine lv_iload hx hb dX6_reserve_44 (lv_at hl 0 rfl) ?_
    refine lv_if_ne (tgt := 55) hx hb dX6_reserve_46 (by decide) (fun _ => ?_) (fun c2 => absurd c2 (by decide))
    refine lv_aload_n hx hb dX6_reserve_55 rfl (lv_at hl 1 rfl) ?_
    refine get6 B hP (by decide +kernel) 0 (by decide) mw_412 rfl dX6_reserve_56 ?_
    refine lv_iload_n hx hb dX6_reserve_59 rfl (lv_at hl 2 rfl) ?_
    refine lv_iload_n hx hb dX6_reserve_60 rfl (lv_at hl 3 rfl) ?_
    refine call_q (cVt (k := 1) (av := [.int a1, .int a2]) (rest := []) B hP hS (c_linkAt l E r0 1 a1 a2 (by decide +kernel) (FrW_r0 (by decide +kernel))) lk_RX6_132 (hrecv (ci := 5) B hP (hk_lt (c := 5) (by decide +kernel) (by decide)) (hcc5 _ _ (by decide +kernel)) rfl) rfl rfl hl.1 (Nat.le_of_ble_eq_true rfl) ⟨Nat.le_of_ble_eq_true rfl, Nat.le_of_ble_eq_true rfl⟩ ⟨Nat.le_of_ble_eq_true rfl, Nat.le_of_ble_eq_true rfl⟩ dX6_reserve_61) hS (fun r3 ρ4 H locs q5 hP hS => ?_)
    obtain ⟨rfl, rfl⟩ := q5
    refine W.eq (g2 := F0 m 64 ls [.null]) rfl ?_
    refine lv_astoreN (lv' := [(7, .null), (6, .int 1), (0, .ref (E.2.1 + 0)), (1, .int a1), (2, .int a2), (3, .int a3), (4, .int a4), (5, .int a5)]) hx hb dX6_reserve_64 hl (by decide) rfl (fun ls hl => ?_)
    refine lv_aloadN hx hb dX6_reserve_66 (lv_at hl 0 rfl) ?_
    refine lv_ifnonnullN hx hb dX6_reserve_68 ?_
    refine lv_aload_n hx hb dX6_reserve_71 rfl (lv_at hl 2 rfl) ?_
    refine lv_bipush (v := (-2)) hx hb dX6_reserve_72 (by decide) ?_
    refine call_i (cVt (k := 0) (av := [.int (-2)]) (rest := []) B hP hS (c_refuse l E r0 (-2)) lk_RX6_58 (hrecv (ci := 6) B hP (hk_lt (c := 6) (by decide +kernel) (by decide)) (hcc6 _ _ (by decide +kernel)) rfl) rfl rfl hl.1 (Nat.le_of_ble_eq_true rfl) ⟨Nat.le_of_ble_eq_true rfl, Nat.le_of_ble_eq_true rfl⟩ ⟨Nat.le_of_ble_eq_true rfl, Nat.le_of_ble_eq_true rfl⟩ dX6_reserve_74) hS (fun r6 ρ7 H locs q8 hP hS => ?_)
    obtain rfl := q8
    exact ret_i B hr hlk hP hS dX6_reserve_77 (Or.inl ⟨Or.inl c1, rfl⟩)
  · skip
    refine lv_iload_n hx hb dX6_reserve_4 rfl (lv_at hl 3 rfl) ?_
    refine lv_bipush (v := 6) hx hb dX6_reserve_5 (by decide) ?_
    refine lv_bipush (v := 40) hx hb dX6_reserve_7 (by decide) ?_
    refine call_i (cS (av := [.int a3, .int 6, .int 40]) (rest := []) B hP hS (c_isEvenWithin l E r0 a3 6 40 6 40 (by decide) (by decide)) lk_RX6_156 rfl rfl hl.1 (Nat.le_of_ble_eq_true rfl) ⟨Nat.le_of_ble_eq_true rfl, Nat.le_of_ble_eq_true rfl⟩ ⟨Nat.le_of_ble_eq_true rfl, Nat.le_of_ble_eq_true rfl⟩ dX6_reserve_9) hS (fun r9 ρ10 H locs q11 hP hS => ?_)
    obtain ⟨rfl, q11⟩ := q11
    rcases q11 with ⟨rfl, q11⟩ | ⟨rfl, q11⟩
    · skip
      refine lv_if_eq (tgt := 41) hx hb dX6_reserve_12 (by decide) (fun c12 => absurd c12 (by decide)) (fun _ => ?_)
      refine lv_iload hx hb dX6_reserve_15 (lv_at hl 4 rfl) ?_
      refine lv_iconst (v := 0) hx hb dX6_reserve_17 (by decide) ?_
      refine lv_iload_n hx hb dX6_reserve_18 rfl (lv_at hl 3 rfl) ?_
      refine lv_iconst (v := 1) hx hb dX6_reserve_19 (by decide) ?_
      refine lv_isub hx hb dX6_reserve_20 ?_
      refine call_i (cS (av := [.int a4, .int 0, .int (a3 - 1)]) (rest := []) B hP hS (c_isEvenWithin l E r0 a4 0 (a3 - 1) 0 (a3 - 1).toInt (by decide) rfl) lk_RX6_156 rfl rfl hl.1 (Nat.le_of_ble_eq_true rfl) ⟨Nat.le_of_ble_eq_true rfl, Nat.le_of_ble_eq_true rfl⟩ ⟨Nat.le_of_ble_eq_true rfl, Nat.le_of_ble_eq_true rfl⟩ dX6_reserve_21) hS (fun r13 ρ14 H locs q15 hP hS => ?_)
      obtain ⟨rfl, q15⟩ := q15
      rcases q15 with ⟨rfl, q15⟩ | ⟨rfl, q15⟩
      · skip
        refine lv_if_eq (tgt := 41) hx hb dX6_reserve_24 (by decide) (fun c16 => absurd c16 (by decide)) (fun _ => ?_)
        refine lv_iload hx hb dX6_reserve_27 (lv_at hl 5 rfl) ?_
        refine lv_iconst (v := 1) hx hb dX6_reserve_29 (by decide) ?_
        refine lv_iconst (v := 3) hx hb dX6_reserve_30 (by decide) ?_
        refine call_i (cS (av := [.int a5, .int 1, .int 3]) (rest := []) B hP hS (c_isWithin l E r0 a5 1 3 1 3 (by decide) (by decide)) lk_RX6_54 rfl rfl hl.1 (Nat.le_of_ble_eq_true rfl) ⟨Nat.le_of_ble_eq_true rfl, Nat.le_of_ble_eq_true rfl⟩ ⟨Nat.le_of_ble_eq_true rfl, Nat.le_of_ble_eq_true rfl⟩ dX6_reserve_31) hS (fun r17 ρ18 H locs q19 hP hS => ?_)
        obtain ⟨rfl, q19⟩ := q19
        rcases q19 with ⟨rfl, q19⟩ | ⟨rfl, q19⟩
        · skip
          refine lv_if_eq (tgt := 41) hx hb dX6_reserve_34 (by decide) (fun c20 => absurd c20 (by decide)) (fun _ => ?_)
          refine lv_iconst (v := 1) hx hb dX6_reserve_37 (by decide) ?_
          refine lv_goto (tgt := 42) hx hb dX6_reserve_38 (by decide) ?_
          refine lv_istore (lv' := [(6, .int 1), (0, .ref (E.2.1 + 0)), (1, .int a1), (2, .int a2), (3, .int a3), (4, .int a4), (5, .int a5)]) hx hb dX6_reserve_42 hl (by decide) rfl (fun ls hl => ?_)
          refine lv_iload hx hb dX6_reserve_44 (lv_at hl 0 rfl) ?_
          refine lv_if_ne (tgt := 55) hx hb dX6_reserve_46 (by decide) (fun _ => ?_) (fun c21 => absurd c21 (by decide))
          refine lv_aload_n hx hb dX6_reserve_55 rfl (lv_at hl 1 rfl) ?_
          refine get6 B hP (by decide +kernel) 0 (by decide) mw_412 rfl dX6_reserve_56 ?_
          refine lv_iload_n hx hb dX6_reserve_59 rfl (lv_at hl 2 rfl) ?_
          refine lv_iload_n hx hb dX6_reserve_60 rfl (lv_at hl 3 rfl) ?_
          refine call_q (cVt (k := 1) (av := [.int a1, .int a2]) (rest := []) B hP hS (c_linkAt l E r0 1 a1 a2 (by decide +kernel) (FrW_r0 (by decide +kernel))) lk_RX6_132 (hrecv (ci := 5) B hP (hk_lt (c := 5) (by decide +kernel) (by decide)) (hcc5 _ _ (by decide +kernel)) rfl) rfl rfl hl.1 (Nat.le_of_ble_eq_true rfl) ⟨Nat.le_of_ble_eq_true rfl, Nat.le_of_ble_eq_true rfl⟩ ⟨Nat.le_of_ble_eq_true rfl, Nat.le_of_ble_eq_true rfl⟩ dX6_reserve_61) hS (fun r22 ρ23 H locs q24 hP hS => ?_)
          obtain ⟨rfl, rfl⟩ := q24
          refine W.eq (g2 := F0 m 64 ls [.null]) rfl ?_
          refine lv_astoreN (lv' := [(7, .null), (6, .int 1), (0, .ref (E.2.1 + 0)), (1, .int a1), (2, .int a2), (3, .int a3), (4, .int a4), (5, .int a5)]) hx hb dX6_reserve_64 hl (by decide) rfl (fun ls hl => ?_)
          refine lv_aloadN hx hb dX6_reserve_66 (lv_at hl 0 rfl) ?_
          refine lv_ifnonnullN hx hb dX6_reserve_68 ?_
          refine lv_aload_n hx hb dX6_reserve_71 rfl (lv_at hl 2 rfl) ?_
          refine lv_bipush (v := (-2)) hx hb dX6_reserve_72 (by decide) ?_
          refine call_i (cVt (k := 0) (av := [.int (-2)]) (rest := []) B hP hS (c_refuse l E r0 (-2)) lk_RX6_58 (hrecv (ci := 6) B hP (hk_lt (c := 6) (by decide +kernel) (by decide)) (hcc6 _ _ (by decide +kernel)) rfl) rfl rfl hl.1 (Nat.le_of_ble_eq_true rfl) ⟨Nat.le_of_ble_eq_true rfl, Nat.le_of_ble_eq_true rfl⟩ ⟨Nat.le_of_ble_eq_true rfl, Nat.le_of_ble_eq_true rfl⟩ dX6_reserve_74) hS (fun r25 ρ26 H locs q27 hP hS => ?_)
          obtain rfl := q27
          exact ret_i B hr hlk hP hS dX6_reserve_77 (Or.inl ⟨Or.inr ⟨q11, q15, q19⟩, rfl⟩)
        · skip
          refine lv_if_eq (tgt := 41) hx hb dX6_reserve_34 (by decide) (fun _ => ?_) (fun c28 => absurd c28 (by decide))
          refine lv_iconst (v := 0) hx hb dX6_reserve_41 (by decide) ?_
          refine lv_istore (lv' := [(6, .int 0), (0, .ref (E.2.1 + 0)), (1, .int a1), (2, .int a2), (3, .int a3), (4, .int a4), (5, .int a5)]) hx hb dX6_reserve_42 hl (by decide) rfl (fun ls hl => ?_)
          refine lv_iload hx hb dX6_reserve_44 (lv_at hl 0 rfl) ?_
          refine lv_if_ne (tgt := 55) hx hb dX6_reserve_46 (by decide) (fun c29 => absurd c29 (by decide)) (fun _ => ?_)
          refine lv_aload_n hx hb dX6_reserve_49 rfl (lv_at hl 1 rfl) ?_
          refine lv_iconst (v := (-1)) hx hb dX6_reserve_50 (by decide) ?_
          refine call_i (cVt (k := 0) (av := [.int (-1)]) (rest := []) B hP hS (c_refuse l E r0 (-1)) lk_RX6_58 (hrecv (ci := 6) B hP (hk_lt (c := 6) (by decide +kernel) (by decide)) (hcc6 _ _ (by decide +kernel)) rfl) rfl rfl hl.1 (Nat.le_of_ble_eq_true rfl) ⟨Nat.le_of_ble_eq_true rfl, Nat.le_of_ble_eq_true rfl⟩ ⟨Nat.le_of_ble_eq_true rfl, Nat.le_of_ble_eq_true rfl⟩ dX6_reserve_51) hS (fun r30 ρ31 H locs q32 hP hS => ?_)
          obtain rfl := q32
          exact ret_i B hr hlk hP hS dX6_reserve_54 (Or.inr ⟨fun z => z.elim c1 (fun z => q19 z.2.2), rfl⟩)
      · skip
        refine lv_if_eq (tgt := 41) hx hb dX6_reserve_24 (by decide) (fun _ => ?_) (fun c33 => absurd c33 (by decide))
        refine lv_iconst (v := 0) hx hb dX6_reserve_41 (by decide) ?_
        refine lv_istore (lv' := [(6, .int 0), (0, .ref (E.2.1 + 0)), (1, .int a1), (2, .int a2), (3, .int a3), (4, .int a4), (5, .int a5)]) hx hb dX6_reserve_42 hl (by decide) rfl (fun ls hl => ?_)
        refine lv_iload hx hb dX6_reserve_44 (lv_at hl 0 rfl) ?_
        refine lv_if_ne (tgt := 55) hx hb dX6_reserve_46 (by decide) (fun c34 => absurd c34 (by decide)) (fun _ => ?_)
        refine lv_aload_n hx hb dX6_reserve_49 rfl (lv_at hl 1 rfl) ?_
        refine lv_iconst (v := (-1)) hx hb dX6_reserve_50 (by decide) ?_
        refine call_i (cVt (k := 0) (av := [.int (-1)]) (rest := []) B hP hS (c_refuse l E r0 (-1)) lk_RX6_58 (hrecv (ci := 6) B hP (hk_lt (c := 6) (by decide +kernel) (by decide)) (hcc6 _ _ (by decide +kernel)) rfl) rfl rfl hl.1 (Nat.le_of_ble_eq_true rfl) ⟨Nat.le_of_ble_eq_true rfl, Nat.le_of_ble_eq_true rfl⟩ ⟨Nat.le_of_ble_eq_true rfl, Nat.le_of_ble_eq_true rfl⟩ dX6_reserve_51) hS (fun r35 ρ36 H locs q37 hP hS => ?_)
        obtain rfl := q37
        exact ret_i B hr hlk hP hS dX6_reserve_54 (Or.inr ⟨fun z => z.elim c1 (fun z => q15 z.2.1), rfl⟩)
    · skip
      refine lv_if_eq (tgt := 41) hx hb dX6_reserve_12 (by decide) (fun _ => ?_) (fun c38 => absurd c38 (by decide))
      refine lv_iconst (v := 0) hx hb dX6_reserve_41 (by decide) ?_
      refine lv_istore (lv' := [(6, .int 0), (0, .ref (E.2.1 + 0)), (1, .int a1), (2, .int a2), (3, .int a3), (4, .int a4), (5, .int a5)]) hx hb dX6_reserve_42 hl (by decide) rfl (fun ls hl => ?_)
      refine lv_iload hx hb dX6_reserve_44 (lv_at hl 0 rfl) ?_
      refine lv_if_ne (tgt := 55) hx hb dX6_reserve_46 (by decide) (fun c39 => absurd c39 (by decide)) (fun _ => ?_)
      refine lv_aload_n hx hb dX6_reserve_49 rfl (lv_at hl 1 rfl) ?_
      refine lv_iconst (v := (-1)) hx hb dX6_reserve_50 (by decide) ?_
      refine call_i (cVt (k := 0) (av := [.int (-1)]) (rest := []) B hP hS (c_refuse l E r0 (-1)) lk_RX6_58 (hrecv (ci := 6) B hP (hk_lt (c := 6) (by decide +kernel) (by decide)) (hcc6 _ _ (by decide +kernel)) rfl) rfl rfl hl.1 (Nat.le_of_ble_eq_true rfl) ⟨Nat.le_of_ble_eq_true rfl, Nat.le_of_ble_eq_true rfl⟩ ⟨Nat.le_of_ble_eq_true rfl, Nat.le_of_ble_eq_true rfl⟩ dX6_reserve_51) hS (fun r40 ρ41 H locs q42 hP hS => ?_)
      obtain rfl := q42
      exact ret_i B hr hlk hP hS dX6_reserve_54 (Or.inr ⟨fun z => z.elim c1 (fun z => q11 z.1), rfl⟩)

set_option maxHeartbeats 4000000 in
set_option maxRecDepth 100000 in
theorem c_sniff (l : Launch) (E : hE) (a1 a2 a3 a4 : Int32) : Met l yX6_sniff (.code yX6_sniff cX6_sniff 8 (some .int) :: gw_all) (rmk 4 160) (cPre E r0 [.ref (E.2.1 + 0), .int a1, .int a2, .int a3, .int a4]) (cI E (fun r _ => ((a3 = 0 ∨ (iR a3 8 64 ∧ ev a3) ∧ iR a4 1 4) ∧ r = -2) ∨ (¬ (a3 = 0 ∨ (iR a3 8 64 ∧ ev a3) ∧ iR a4 1 4) ∧ r = -1))) 0 0 (hA E) := by
  refine ent (own := RX6) (by decide) rfl (Nat.le_of_ble_eq_true rfl) ?_
  intro p e s m below meth c ls B hr hlk hl hP hS
  have hx := B.1.1
  have hb := B.1.2.1
  have hown := B.1.2.2.2.1
  have hts := B.1.2.2.2.2
  have hl : lv_has ls 8 [(0, .ref (E.2.1 + 0)), (1, .int a1), (2, .int a2), (3, .int a3), (4, .int a4)] := hl
  refine lv_iload_n hx hb dX6_sniff_0 rfl (lv_at hl 3 rfl) ?_
  refine lv_if_eq (tgt := 25) hx hb dX6_sniff_1 (by decide) (fun c1 => ?_) (fun c1 => ?_)
  · skip
    refine lv_iconst (v := 1) hx hb dX6_sniff_25 (by decide) ?_
    refine lv_goto (tgt := 30) hx hb dX6_sniff_26 (by decide) ?_
    refine lv_istore (lv' := [(5, .int 1), (0, .ref (E.2.1 + 0)), (1, .int a1), (2, .int a2), (3, .int a3), (4, .int a4)]) hx hb dX6_sniff_30 hl (by decide) rfl (fun ls hl => ?_)
    refine lv_iload hx hb dX6_sniff_32 (lv_at hl 0 rfl) ?_
    refine lv_if_ne (tgt := 43) hx hb dX6_sniff_34 (by decide) (fun _ => ?_) (fun c2 => absurd c2 (by decide))
    refine lv_aload_n hx hb dX6_sniff_43 rfl (lv_at hl 1 rfl) ?_
    refine get6 B hP (by decide +kernel) 0 (by decide) mw_412 rfl dX6_sniff_44 ?_
    refine lv_iload_n hx hb dX6_sniff_47 rfl (lv_at hl 2 rfl) ?_
    refine lv_iload_n hx hb dX6_sniff_48 rfl (lv_at hl 3 rfl) ?_
    refine call_q (cVt (k := 1) (av := [.int a1, .int a2]) (rest := []) B hP hS (c_linkAt l E r0 1 a1 a2 (by decide +kernel) (FrW_r0 (by decide +kernel))) lk_RX6_132 (hrecv (ci := 5) B hP (hk_lt (c := 5) (by decide +kernel) (by decide)) (hcc5 _ _ (by decide +kernel)) rfl) rfl rfl hl.1 (Nat.le_of_ble_eq_true rfl) ⟨Nat.le_of_ble_eq_true rfl, Nat.le_of_ble_eq_true rfl⟩ ⟨Nat.le_of_ble_eq_true rfl, Nat.le_of_ble_eq_true rfl⟩ dX6_sniff_49) hS (fun r3 ρ4 H locs q5 hP hS => ?_)
    obtain ⟨rfl, rfl⟩ := q5
    refine W.eq (g2 := F0 m 52 ls [.null]) rfl ?_
    refine lv_astoreN (lv' := [(6, .null), (5, .int 1), (0, .ref (E.2.1 + 0)), (1, .int a1), (2, .int a2), (3, .int a3), (4, .int a4)]) hx hb dX6_sniff_52 hl (by decide) rfl (fun ls hl => ?_)
    refine lv_aloadN hx hb dX6_sniff_54 (lv_at hl 0 rfl) ?_
    refine lv_ifnonnullN hx hb dX6_sniff_56 ?_
    refine lv_aload_n hx hb dX6_sniff_59 rfl (lv_at hl 2 rfl) ?_
    refine lv_bipush (v := (-2)) hx hb dX6_sniff_60 (by decide) ?_
    refine call_i (cVt (k := 0) (av := [.int (-2)]) (rest := []) B hP hS (c_refuse l E r0 (-2)) lk_RX6_58 (hrecv (ci := 6) B hP (hk_lt (c := 6) (by decide +kernel) (by decide)) (hcc6 _ _ (by decide +kernel)) rfl) rfl rfl hl.1 (Nat.le_of_ble_eq_true rfl) ⟨Nat.le_of_ble_eq_true rfl, Nat.le_of_ble_eq_true rfl⟩ ⟨Nat.le_of_ble_eq_true rfl, Nat.le_of_ble_eq_true rfl⟩ dX6_sniff_62) hS (fun r6 ρ7 H locs q8 hP hS => ?_)
    obtain rfl := q8
    exact ret_i B hr hlk hP hS dX6_sniff_65 (Or.inl ⟨Or.inl c1, rfl⟩)
  · skip
    refine lv_iload_n hx hb dX6_sniff_4 rfl (lv_at hl 3 rfl) ?_
    refine lv_bipush (v := 8) hx hb dX6_sniff_5 (by decide) ?_
    refine lv_bipush (v := 64) hx hb dX6_sniff_7 (by decide) ?_
    refine call_i (cS (av := [.int a3, .int 8, .int 64]) (rest := []) B hP hS (c_isEvenWithin l E r0 a3 8 64 8 64 (by decide) (by decide)) lk_RX6_156 rfl rfl hl.1 (Nat.le_of_ble_eq_true rfl) ⟨Nat.le_of_ble_eq_true rfl, Nat.le_of_ble_eq_true rfl⟩ ⟨Nat.le_of_ble_eq_true rfl, Nat.le_of_ble_eq_true rfl⟩ dX6_sniff_9) hS (fun r9 ρ10 H locs q11 hP hS => ?_)
    obtain ⟨rfl, q11⟩ := q11
    rcases q11 with ⟨rfl, q11⟩ | ⟨rfl, q11⟩
    · skip
      refine lv_if_eq (tgt := 29) hx hb dX6_sniff_12 (by decide) (fun c12 => absurd c12 (by decide)) (fun _ => ?_)
      refine lv_iload hx hb dX6_sniff_15 (lv_at hl 4 rfl) ?_
      refine lv_iconst (v := 1) hx hb dX6_sniff_17 (by decide) ?_
      refine lv_iconst (v := 4) hx hb dX6_sniff_18 (by decide) ?_
      refine call_i (cS (av := [.int a4, .int 1, .int 4]) (rest := []) B hP hS (c_isWithin l E r0 a4 1 4 1 4 (by decide) (by decide)) lk_RX6_54 rfl rfl hl.1 (Nat.le_of_ble_eq_true rfl) ⟨Nat.le_of_ble_eq_true rfl, Nat.le_of_ble_eq_true rfl⟩ ⟨Nat.le_of_ble_eq_true rfl, Nat.le_of_ble_eq_true rfl⟩ dX6_sniff_19) hS (fun r13 ρ14 H locs q15 hP hS => ?_)
      obtain ⟨rfl, q15⟩ := q15
      rcases q15 with ⟨rfl, q15⟩ | ⟨rfl, q15⟩
      · skip
        refine lv_if_eq (tgt := 29) hx hb dX6_sniff_22 (by decide) (fun c16 => absurd c16 (by decide)) (fun _ => ?_)
        refine lv_iconst (v := 1) hx hb dX6_sniff_25 (by decide) ?_
        refine lv_goto (tgt := 30) hx hb dX6_sniff_26 (by decide) ?_
        refine lv_istore (lv' := [(5, .int 1), (0, .ref (E.2.1 + 0)), (1, .int a1), (2, .int a2), (3, .int a3), (4, .int a4)]) hx hb dX6_sniff_30 hl (by decide) rfl (fun ls hl => ?_)
        refine lv_iload hx hb dX6_sniff_32 (lv_at hl 0 rfl) ?_
        refine lv_if_ne (tgt := 43) hx hb dX6_sniff_34 (by decide) (fun _ => ?_) (fun c17 => absurd c17 (by decide))
        refine lv_aload_n hx hb dX6_sniff_43 rfl (lv_at hl 1 rfl) ?_
        refine get6 B hP (by decide +kernel) 0 (by decide) mw_412 rfl dX6_sniff_44 ?_
        refine lv_iload_n hx hb dX6_sniff_47 rfl (lv_at hl 2 rfl) ?_
        refine lv_iload_n hx hb dX6_sniff_48 rfl (lv_at hl 3 rfl) ?_
        refine call_q (cVt (k := 1) (av := [.int a1, .int a2]) (rest := []) B hP hS (c_linkAt l E r0 1 a1 a2 (by decide +kernel) (FrW_r0 (by decide +kernel))) lk_RX6_132 (hrecv (ci := 5) B hP (hk_lt (c := 5) (by decide +kernel) (by decide)) (hcc5 _ _ (by decide +kernel)) rfl) rfl rfl hl.1 (Nat.le_of_ble_eq_true rfl) ⟨Nat.le_of_ble_eq_true rfl, Nat.le_of_ble_eq_true rfl⟩ ⟨Nat.le_of_ble_eq_true rfl, Nat.le_of_ble_eq_true rfl⟩ dX6_sniff_49) hS (fun r18 ρ19 H locs q20 hP hS => ?_)
        obtain ⟨rfl, rfl⟩ := q20
        refine W.eq (g2 := F0 m 52 ls [.null]) rfl ?_
        refine lv_astoreN (lv' := [(6, .null), (5, .int 1), (0, .ref (E.2.1 + 0)), (1, .int a1), (2, .int a2), (3, .int a3), (4, .int a4)]) hx hb dX6_sniff_52 hl (by decide) rfl (fun ls hl => ?_)
        refine lv_aloadN hx hb dX6_sniff_54 (lv_at hl 0 rfl) ?_
        refine lv_ifnonnullN hx hb dX6_sniff_56 ?_
        refine lv_aload_n hx hb dX6_sniff_59 rfl (lv_at hl 2 rfl) ?_
        refine lv_bipush (v := (-2)) hx hb dX6_sniff_60 (by decide) ?_
        refine call_i (cVt (k := 0) (av := [.int (-2)]) (rest := []) B hP hS (c_refuse l E r0 (-2)) lk_RX6_58 (hrecv (ci := 6) B hP (hk_lt (c := 6) (by decide +kernel) (by decide)) (hcc6 _ _ (by decide +kernel)) rfl) rfl rfl hl.1 (Nat.le_of_ble_eq_true rfl) ⟨Nat.le_of_ble_eq_true rfl, Nat.le_of_ble_eq_true rfl⟩ ⟨Nat.le_of_ble_eq_true rfl, Nat.le_of_ble_eq_true rfl⟩ dX6_sniff_62) hS (fun r21 ρ22 H locs q23 hP hS => ?_)
        obtain rfl := q23
        exact ret_i B hr hlk hP hS dX6_sniff_65 (Or.inl ⟨Or.inr ⟨q11, q15⟩, rfl⟩)
      · skip
        refine lv_if_eq (tgt := 29) hx hb dX6_sniff_22 (by decide) (fun _ => ?_) (fun c24 => absurd c24 (by decide))
        refine lv_iconst (v := 0) hx hb dX6_sniff_29 (by decide) ?_
        refine lv_istore (lv' := [(5, .int 0), (0, .ref (E.2.1 + 0)), (1, .int a1), (2, .int a2), (3, .int a3), (4, .int a4)]) hx hb dX6_sniff_30 hl (by decide) rfl (fun ls hl => ?_)
        refine lv_iload hx hb dX6_sniff_32 (lv_at hl 0 rfl) ?_
        refine lv_if_ne (tgt := 43) hx hb dX6_sniff_34 (by decide) (fun c25 => absurd c25 (by decide)) (fun _ => ?_)
        refine lv_aload_n hx hb dX6_sniff_37 rfl (lv_at hl 1 rfl) ?_
        refine lv_iconst (v := (-1)) hx hb dX6_sniff_38 (by decide) ?_
        refine call_i (cVt (k := 0) (av := [.int (-1)]) (rest := []) B hP hS (c_refuse l E r0 (-1)) lk_RX6_58 (hrecv (ci := 6) B hP (hk_lt (c := 6) (by decide +kernel) (by decide)) (hcc6 _ _ (by decide +kernel)) rfl) rfl rfl hl.1 (Nat.le_of_ble_eq_true rfl) ⟨Nat.le_of_ble_eq_true rfl, Nat.le_of_ble_eq_true rfl⟩ ⟨Nat.le_of_ble_eq_true rfl, Nat.le_of_ble_eq_true rfl⟩ dX6_sniff_39) hS (fun r26 ρ27 H locs q28 hP hS => ?_)
        obtain rfl := q28
        exact ret_i B hr hlk hP hS dX6_sniff_42 (Or.inr ⟨fun z => z.elim c1 (fun z => q15 z.2), rfl⟩)
    · skip
      refine lv_if_eq (tgt := 29) hx hb dX6_sniff_12 (by decide) (fun _ => ?_) (fun c29 => absurd c29 (by decide))
      refine lv_iconst (v := 0) hx hb dX6_sniff_29 (by decide) ?_
      refine lv_istore (lv' := [(5, .int 0), (0, .ref (E.2.1 + 0)), (1, .int a1), (2, .int a2), (3, .int a3), (4, .int a4)]) hx hb dX6_sniff_30 hl (by decide) rfl (fun ls hl => ?_)
      refine lv_iload hx hb dX6_sniff_32 (lv_at hl 0 rfl) ?_
      refine lv_if_ne (tgt := 43) hx hb dX6_sniff_34 (by decide) (fun c30 => absurd c30 (by decide)) (fun _ => ?_)
      refine lv_aload_n hx hb dX6_sniff_37 rfl (lv_at hl 1 rfl) ?_
      refine lv_iconst (v := (-1)) hx hb dX6_sniff_38 (by decide) ?_
      refine call_i (cVt (k := 0) (av := [.int (-1)]) (rest := []) B hP hS (c_refuse l E r0 (-1)) lk_RX6_58 (hrecv (ci := 6) B hP (hk_lt (c := 6) (by decide +kernel) (by decide)) (hcc6 _ _ (by decide +kernel)) rfl) rfl rfl hl.1 (Nat.le_of_ble_eq_true rfl) ⟨Nat.le_of_ble_eq_true rfl, Nat.le_of_ble_eq_true rfl⟩ ⟨Nat.le_of_ble_eq_true rfl, Nat.le_of_ble_eq_true rfl⟩ dX6_sniff_39) hS (fun r31 ρ32 H locs q33 hP hS => ?_)
      obtain rfl := q33
      exact ret_i B hr hlk hP hS dX6_sniff_42 (Or.inr ⟨fun z => z.elim c1 (fun z => q11 z.1), rfl⟩)

set_option maxHeartbeats 4000000 in
set_option maxRecDepth 100000 in
theorem c_weigh (l : Launch) (E : hE) (a1 a2 a3 : Int32) : Met l yX6_weigh (.code yX6_weigh cX6_weigh 6 (some .int) :: gw_all) (rmk 4 160) (cPre E r0 [.ref (E.2.1 + 0), .int a1, .int a2, .int a3]) (cI E (fun r _ => ((iR a3 1 4) ∧ r = -2) ∨ (¬ (iR a3 1 4) ∧ r = -1))) 0 0 (hA E) := by
  refine ent (own := RX6) (by decide) rfl (Nat.le_of_ble_eq_true rfl) ?_
  intro p e s m below meth c ls B hr hlk hl hP hS
  have hx := B.1.1
  have hb := B.1.2.1
  have hown := B.1.2.2.2.1
  have hts := B.1.2.2.2.2
  have hl : lv_has ls 6 [(0, .ref (E.2.1 + 0)), (1, .int a1), (2, .int a2), (3, .int a3)] := hl
  refine lv_iload_n hx hb dX6_weigh_0 rfl (lv_at hl 3 rfl) ?_
  refine lv_iconst (v := 1) hx hb dX6_weigh_1 (by decide) ?_
  refine lv_iconst (v := 4) hx hb dX6_weigh_2 (by decide) ?_
  refine call_i (cS (av := [.int a3, .int 1, .int 4]) (rest := []) B hP hS (c_isWithin l E r0 a3 1 4 1 4 (by decide) (by decide)) lk_RX6_54 rfl rfl hl.1 (Nat.le_of_ble_eq_true rfl) ⟨Nat.le_of_ble_eq_true rfl, Nat.le_of_ble_eq_true rfl⟩ ⟨Nat.le_of_ble_eq_true rfl, Nat.le_of_ble_eq_true rfl⟩ dX6_weigh_3) hS (fun r1 ρ2 H locs q3 hP hS => ?_)
  obtain ⟨rfl, q3⟩ := q3
  rcases q3 with ⟨rfl, q3⟩ | ⟨rfl, q3⟩
  · skip
    refine lv_if_ne (tgt := 15) hx hb dX6_weigh_6 (by decide) (fun _ => ?_) (fun c4 => absurd c4 (by decide))
    refine lv_aload_n hx hb dX6_weigh_15 rfl (lv_at hl 0 rfl) ?_
    refine get6 B hP (by decide +kernel) 0 (by decide) mw_412 rfl dX6_weigh_16 ?_
    refine lv_iload_n hx hb dX6_weigh_19 rfl (lv_at hl 1 rfl) ?_
    refine lv_iload_n hx hb dX6_weigh_20 rfl (lv_at hl 2 rfl) ?_
    refine call_q (cVt (k := 1) (av := [.int a1, .int a2]) (rest := []) B hP hS (c_linkAt l E r0 1 a1 a2 (by decide +kernel) (FrW_r0 (by decide +kernel))) lk_RX6_132 (hrecv (ci := 5) B hP (hk_lt (c := 5) (by decide +kernel) (by decide)) (hcc5 _ _ (by decide +kernel)) rfl) rfl rfl hl.1 (Nat.le_of_ble_eq_true rfl) ⟨Nat.le_of_ble_eq_true rfl, Nat.le_of_ble_eq_true rfl⟩ ⟨Nat.le_of_ble_eq_true rfl, Nat.le_of_ble_eq_true rfl⟩ dX6_weigh_21) hS (fun r5 ρ6 H locs q7 hP hS => ?_)
    obtain ⟨rfl, rfl⟩ := q7
    refine W.eq (g2 := F0 m 24 ls [.null]) rfl ?_
    refine lv_astoreN (lv' := [(4, .null), (0, .ref (E.2.1 + 0)), (1, .int a1), (2, .int a2), (3, .int a3)]) hx hb dX6_weigh_24 hl (by decide) rfl (fun ls hl => ?_)
    refine lv_aloadN hx hb dX6_weigh_26 (lv_at hl 0 rfl) ?_
    refine lv_ifnonnullN hx hb dX6_weigh_28 ?_
    refine lv_aload_n hx hb dX6_weigh_31 rfl (lv_at hl 1 rfl) ?_
    refine lv_bipush (v := (-2)) hx hb dX6_weigh_32 (by decide) ?_
    refine call_i (cVt (k := 0) (av := [.int (-2)]) (rest := []) B hP hS (c_refuse l E r0 (-2)) lk_RX6_58 (hrecv (ci := 6) B hP (hk_lt (c := 6) (by decide +kernel) (by decide)) (hcc6 _ _ (by decide +kernel)) rfl) rfl rfl hl.1 (Nat.le_of_ble_eq_true rfl) ⟨Nat.le_of_ble_eq_true rfl, Nat.le_of_ble_eq_true rfl⟩ ⟨Nat.le_of_ble_eq_true rfl, Nat.le_of_ble_eq_true rfl⟩ dX6_weigh_34) hS (fun r8 ρ9 H locs q10 hP hS => ?_)
    obtain rfl := q10
    exact ret_i B hr hlk hP hS dX6_weigh_37 (Or.inl ⟨q3, rfl⟩)
  · skip
    refine lv_if_ne (tgt := 15) hx hb dX6_weigh_6 (by decide) (fun c11 => absurd c11 (by decide)) (fun _ => ?_)
    refine lv_aload_n hx hb dX6_weigh_9 rfl (lv_at hl 0 rfl) ?_
    refine lv_iconst (v := (-1)) hx hb dX6_weigh_10 (by decide) ?_
    refine call_i (cVt (k := 0) (av := [.int (-1)]) (rest := []) B hP hS (c_refuse l E r0 (-1)) lk_RX6_58 (hrecv (ci := 6) B hP (hk_lt (c := 6) (by decide +kernel) (by decide)) (hcc6 _ _ (by decide +kernel)) rfl) rfl rfl hl.1 (Nat.le_of_ble_eq_true rfl) ⟨Nat.le_of_ble_eq_true rfl, Nat.le_of_ble_eq_true rfl⟩ ⟨Nat.le_of_ble_eq_true rfl, Nat.le_of_ble_eq_true rfl⟩ dX6_weigh_11) hS (fun r12 ρ13 H locs q14 hP hS => ?_)
    obtain rfl := q14
    exact ret_i B hr hlk hP hS dX6_weigh_14 (Or.inr ⟨fun z => q3 z, rfl⟩)

set_option maxHeartbeats 4000000 in
set_option maxRecDepth 100000 in
theorem c_cast (l : Launch) (E : hE) (a1 a2 : Int32) : Met l yX6_cast (.code yX6_cast cX6_cast 4 (some .int) :: gw_all) (rmk 4 160) (cPre E r0 [.ref (E.2.1 + 0), .int a1, .int a2]) (cI E (fun r _ => ((iR a2 0 255) ∧ r = -2) ∨ (¬ (iR a2 0 255) ∧ r = -1))) 0 0 (hA E) := by
  refine ent (own := RX6) (by decide) rfl (Nat.le_of_ble_eq_true rfl) ?_
  intro p e s m below meth c ls B hr hlk hl hP hS
  have hx := B.1.1
  have hb := B.1.2.1
  have hown := B.1.2.2.2.1
  have hts := B.1.2.2.2.2
  have hl : lv_has ls 4 [(0, .ref (E.2.1 + 0)), (1, .int a1), (2, .int a2)] := hl
  refine lv_iload_n hx hb dX6_cast_0 rfl (lv_at hl 2 rfl) ?_
  refine lv_iconst (v := 0) hx hb dX6_cast_1 (by decide) ?_
  refine lv_sipush (v := 255) hx hb dX6_cast_2 (by decide) ?_
  refine call_i (cS (av := [.int a2, .int 0, .int 255]) (rest := []) B hP hS (c_isWithin l E r0 a2 0 255 0 255 (by decide) (by decide)) lk_RX6_54 rfl rfl hl.1 (Nat.le_of_ble_eq_true rfl) ⟨Nat.le_of_ble_eq_true rfl, Nat.le_of_ble_eq_true rfl⟩ ⟨Nat.le_of_ble_eq_true rfl, Nat.le_of_ble_eq_true rfl⟩ dX6_cast_5) hS (fun r1 ρ2 H locs q3 hP hS => ?_)
  obtain ⟨rfl, q3⟩ := q3
  rcases q3 with ⟨rfl, q3⟩ | ⟨rfl, q3⟩
  · skip
    refine lv_if_ne (tgt := 17) hx hb dX6_cast_8 (by decide) (fun _ => ?_) (fun c4 => absurd c4 (by decide))
    refine lv_aload_n hx hb dX6_cast_17 rfl (lv_at hl 0 rfl) ?_
    refine get6 B hP (by decide +kernel) 0 (by decide) mw_412 rfl dX6_cast_18 ?_
    refine lv_iload_n hx hb dX6_cast_21 rfl (lv_at hl 1 rfl) ?_
    refine call_q (cVt (k := 1) (av := [.int a1]) (rest := []) B hP hS (c_netAt l E r0 1 a1 (by decide +kernel) (FrW_r0 (by decide +kernel))) lk_RX6_95 (hrecv (ci := 5) B hP (hk_lt (c := 5) (by decide +kernel) (by decide)) (hcc5 _ _ (by decide +kernel)) rfl) rfl rfl hl.1 (Nat.le_of_ble_eq_true rfl) ⟨Nat.le_of_ble_eq_true rfl, Nat.le_of_ble_eq_true rfl⟩ ⟨Nat.le_of_ble_eq_true rfl, Nat.le_of_ble_eq_true rfl⟩ dX6_cast_22) hS (fun r5 ρ6 H locs q7 hP hS => ?_)
    obtain ⟨rfl, rfl⟩ := q7
    refine W.eq (g2 := F0 m 25 ls [.null]) rfl ?_
    refine lv_astore_nN (lv' := [(3, .null), (0, .ref (E.2.1 + 0)), (1, .int a1), (2, .int a2)]) hx hb dX6_cast_25 rfl hl (by decide) rfl (fun ls hl => ?_)
    refine lv_aload_nN hx hb dX6_cast_26 rfl (lv_at hl 0 rfl) ?_
    refine lv_ifnonnullN hx hb dX6_cast_27 ?_
    refine lv_aload_n hx hb dX6_cast_30 rfl (lv_at hl 1 rfl) ?_
    refine lv_bipush (v := (-2)) hx hb dX6_cast_31 (by decide) ?_
    refine call_i (cVt (k := 0) (av := [.int (-2)]) (rest := []) B hP hS (c_refuse l E r0 (-2)) lk_RX6_58 (hrecv (ci := 6) B hP (hk_lt (c := 6) (by decide +kernel) (by decide)) (hcc6 _ _ (by decide +kernel)) rfl) rfl rfl hl.1 (Nat.le_of_ble_eq_true rfl) ⟨Nat.le_of_ble_eq_true rfl, Nat.le_of_ble_eq_true rfl⟩ ⟨Nat.le_of_ble_eq_true rfl, Nat.le_of_ble_eq_true rfl⟩ dX6_cast_33) hS (fun r8 ρ9 H locs q10 hP hS => ?_)
    obtain rfl := q10
    exact ret_i B hr hlk hP hS dX6_cast_36 (Or.inl ⟨q3, rfl⟩)
  · skip
    refine lv_if_ne (tgt := 17) hx hb dX6_cast_8 (by decide) (fun c11 => absurd c11 (by decide)) (fun _ => ?_)
    refine lv_aload_n hx hb dX6_cast_11 rfl (lv_at hl 0 rfl) ?_
    refine lv_iconst (v := (-1)) hx hb dX6_cast_12 (by decide) ?_
    refine call_i (cVt (k := 0) (av := [.int (-1)]) (rest := []) B hP hS (c_refuse l E r0 (-1)) lk_RX6_58 (hrecv (ci := 6) B hP (hk_lt (c := 6) (by decide +kernel) (by decide)) (hcc6 _ _ (by decide +kernel)) rfl) rfl rfl hl.1 (Nat.le_of_ble_eq_true rfl) ⟨Nat.le_of_ble_eq_true rfl, Nat.le_of_ble_eq_true rfl⟩ ⟨Nat.le_of_ble_eq_true rfl, Nat.le_of_ble_eq_true rfl⟩ dX6_cast_13) hS (fun r12 ρ13 H locs q14 hP hS => ?_)
    obtain rfl := q14
    exact ret_i B hr hlk hP hS dX6_cast_16 (Or.inr ⟨fun z => q3 z, rfl⟩)

set_option maxHeartbeats 4000000 in
set_option maxRecDepth 100000 in
theorem c_adapt (l : Launch) (E : hE) (a1 a2 a3 : Int32) : Met l yX6_adapt (.code yX6_adapt cX6_adapt 7 (some .int) :: gw_all) (rmk 4 160) (cPre E r0 [.ref (E.2.1 + 0), .int a1, .int a2, .int a3]) (cI E (fun r _ => ((iR a2 1 99 ∧ iR a3 1 100) ∧ r = -2) ∨ (¬ (iR a2 1 99 ∧ iR a3 1 100) ∧ r = -1))) 0 0 (hA E) := by
  refine ent (own := RX6) (by decide) rfl (Nat.le_of_ble_eq_true rfl) ?_
  intro p e s m below meth c ls B hr hlk hl hP hS
  have hx := B.1.1
  have hb := B.1.2.1
  have hown := B.1.2.2.2.1
  have hts := B.1.2.2.2.2
  have hl : lv_has ls 7 [(0, .ref (E.2.1 + 0)), (1, .int a1), (2, .int a2), (3, .int a3)] := hl
  refine lv_iload_n hx hb dX6_adapt_0 rfl (lv_at hl 2 rfl) ?_
  refine lv_iconst (v := 1) hx hb dX6_adapt_1 (by decide) ?_
  refine lv_bipush (v := 99) hx hb dX6_adapt_2 (by decide) ?_
  refine call_i (cS (av := [.int a2, .int 1, .int 99]) (rest := []) B hP hS (c_isWithin l E r0 a2 1 99 1 99 (by decide) (by decide)) lk_RX6_54 rfl rfl hl.1 (Nat.le_of_ble_eq_true rfl) ⟨Nat.le_of_ble_eq_true rfl, Nat.le_of_ble_eq_true rfl⟩ ⟨Nat.le_of_ble_eq_true rfl, Nat.le_of_ble_eq_true rfl⟩ dX6_adapt_4) hS (fun r1 ρ2 H locs q3 hP hS => ?_)
  obtain ⟨rfl, q3⟩ := q3
  rcases q3 with ⟨rfl, q3⟩ | ⟨rfl, q3⟩
  · skip
    refine lv_if_eq (tgt := 20) hx hb dX6_adapt_7 (by decide) (fun c4 => absurd c4 (by decide)) (fun _ => ?_)
    refine lv_iload_n hx hb dX6_adapt_10 rfl (lv_at hl 3 rfl) ?_
    refine lv_iconst (v := 1) hx hb dX6_adapt_11 (by decide) ?_
    refine lv_bipush (v := 100) hx hb dX6_adapt_12 (by decide) ?_
    refine call_i (cS (av := [.int a3, .int 1, .int 100]) (rest := []) B hP hS (c_isWithin l E r0 a3 1 100 1 100 (by decide) (by decide)) lk_RX6_54 rfl rfl hl.1 (Nat.le_of_ble_eq_true rfl) ⟨Nat.le_of_ble_eq_true rfl, Nat.le_of_ble_eq_true rfl⟩ ⟨Nat.le_of_ble_eq_true rfl, Nat.le_of_ble_eq_true rfl⟩ dX6_adapt_14) hS (fun r5 ρ6 H locs q7 hP hS => ?_)
    obtain ⟨rfl, q7⟩ := q7
    rcases q7 with ⟨rfl, q7⟩ | ⟨rfl, q7⟩
    · skip
      refine lv_if_ne (tgt := 26) hx hb dX6_adapt_17 (by decide) (fun _ => ?_) (fun c8 => absurd c8 (by decide))
      refine lv_aload_n hx hb dX6_adapt_26 rfl (lv_at hl 0 rfl) ?_
      refine get6 B hP (by decide +kernel) 0 (by decide) mw_412 rfl dX6_adapt_27 ?_
      refine lv_iload_n hx hb dX6_adapt_30 rfl (lv_at hl 1 rfl) ?_
      refine call_q (cVt (k := 1) (av := [.int a1]) (rest := []) B hP hS (c_netAt l E r0 1 a1 (by decide +kernel) (FrW_r0 (by decide +kernel))) lk_RX6_95 (hrecv (ci := 5) B hP (hk_lt (c := 5) (by decide +kernel) (by decide)) (hcc5 _ _ (by decide +kernel)) rfl) rfl rfl hl.1 (Nat.le_of_ble_eq_true rfl) ⟨Nat.le_of_ble_eq_true rfl, Nat.le_of_ble_eq_true rfl⟩ ⟨Nat.le_of_ble_eq_true rfl, Nat.le_of_ble_eq_true rfl⟩ dX6_adapt_31) hS (fun r9 ρ10 H locs q11 hP hS => ?_)
      obtain ⟨rfl, rfl⟩ := q11
      refine W.eq (g2 := F0 m 34 ls [.null]) rfl ?_
      refine lv_astoreN (lv' := [(4, .null), (0, .ref (E.2.1 + 0)), (1, .int a1), (2, .int a2), (3, .int a3)]) hx hb dX6_adapt_34 hl (by decide) rfl (fun ls hl => ?_)
      refine lv_aloadN hx hb dX6_adapt_36 (lv_at hl 0 rfl) ?_
      refine lv_ifnonnullN hx hb dX6_adapt_38 ?_
      refine lv_aload_n hx hb dX6_adapt_41 rfl (lv_at hl 1 rfl) ?_
      refine lv_bipush (v := (-2)) hx hb dX6_adapt_42 (by decide) ?_
      refine call_i (cVt (k := 0) (av := [.int (-2)]) (rest := []) B hP hS (c_refuse l E r0 (-2)) lk_RX6_58 (hrecv (ci := 6) B hP (hk_lt (c := 6) (by decide +kernel) (by decide)) (hcc6 _ _ (by decide +kernel)) rfl) rfl rfl hl.1 (Nat.le_of_ble_eq_true rfl) ⟨Nat.le_of_ble_eq_true rfl, Nat.le_of_ble_eq_true rfl⟩ ⟨Nat.le_of_ble_eq_true rfl, Nat.le_of_ble_eq_true rfl⟩ dX6_adapt_44) hS (fun r12 ρ13 H locs q14 hP hS => ?_)
      obtain rfl := q14
      exact ret_i B hr hlk hP hS dX6_adapt_47 (Or.inl ⟨⟨q3, q7⟩, rfl⟩)
    · skip
      refine lv_if_ne (tgt := 26) hx hb dX6_adapt_17 (by decide) (fun c15 => absurd c15 (by decide)) (fun _ => ?_)
      refine lv_aload_n hx hb dX6_adapt_20 rfl (lv_at hl 0 rfl) ?_
      refine lv_iconst (v := (-1)) hx hb dX6_adapt_21 (by decide) ?_
      refine call_i (cVt (k := 0) (av := [.int (-1)]) (rest := []) B hP hS (c_refuse l E r0 (-1)) lk_RX6_58 (hrecv (ci := 6) B hP (hk_lt (c := 6) (by decide +kernel) (by decide)) (hcc6 _ _ (by decide +kernel)) rfl) rfl rfl hl.1 (Nat.le_of_ble_eq_true rfl) ⟨Nat.le_of_ble_eq_true rfl, Nat.le_of_ble_eq_true rfl⟩ ⟨Nat.le_of_ble_eq_true rfl, Nat.le_of_ble_eq_true rfl⟩ dX6_adapt_22) hS (fun r16 ρ17 H locs q18 hP hS => ?_)
      obtain rfl := q18
      exact ret_i B hr hlk hP hS dX6_adapt_25 (Or.inr ⟨fun z => q7 z.2, rfl⟩)
  · skip
    refine lv_if_eq (tgt := 20) hx hb dX6_adapt_7 (by decide) (fun _ => ?_) (fun c19 => absurd c19 (by decide))
    refine lv_aload_n hx hb dX6_adapt_20 rfl (lv_at hl 0 rfl) ?_
    refine lv_iconst (v := (-1)) hx hb dX6_adapt_21 (by decide) ?_
    refine call_i (cVt (k := 0) (av := [.int (-1)]) (rest := []) B hP hS (c_refuse l E r0 (-1)) lk_RX6_58 (hrecv (ci := 6) B hP (hk_lt (c := 6) (by decide +kernel) (by decide)) (hcc6 _ _ (by decide +kernel)) rfl) rfl rfl hl.1 (Nat.le_of_ble_eq_true rfl) ⟨Nat.le_of_ble_eq_true rfl, Nat.le_of_ble_eq_true rfl⟩ ⟨Nat.le_of_ble_eq_true rfl, Nat.le_of_ble_eq_true rfl⟩ dX6_adapt_22) hS (fun r20 ρ21 H locs q22 hP hS => ?_)
    obtain rfl := q22
    exact ret_i B hr hlk hP hS dX6_adapt_25 (Or.inr ⟨fun z => q3 z.1, rfl⟩)

theorem lk_RX6_213 : LkV RX6 213 RX6 yX6_hasTimeFor cX6_hasTimeFor 2 (some .boolean) 1 := ⟨⟨mw_649, mw_651, mw_4, mw_52, mw_652⟩, by decide +kernel⟩
theorem lk_RX6_216 : LkV RX6 216 RX5 yX5_heardInTurns cX5_heardInTurns 3 (some .int) 1 := ⟨⟨mw_654, mw_655, mw_656, mw_53, mw_657⟩, by decide +kernel⟩
set_option maxHeartbeats 4000000 in
set_option maxRecDepth 100000 in
theorem c_run (l : Launch) (E : hE) (a1 : Int32) : Met l yX6_run (.code yX6_run cX6_run 2 (some .int) :: gw_all) (rmk 4 160) (cPre E r0 [.ref (E.2.1 + 0), .int a1]) (cI E (fun r _ => ((iR a1 1 200) ∧ r = 0) ∨ (¬ (iR a1 1 200) ∧ r = -1))) 0 0 (hA E) := by
  refine ent (own := RX6) (by decide) rfl (Nat.le_of_ble_eq_true rfl) ?_
  intro p e s m below meth c ls B hr hlk hl hP hS
  have hx := B.1.1
  have hb := B.1.2.1
  have hown := B.1.2.2.2.1
  have hts := B.1.2.2.2.2
  have hl : lv_has ls 2 [(0, .ref (E.2.1 + 0)), (1, .int a1)] := hl
  refine lv_iload_n hx hb dX6_run_0 rfl (lv_at hl 1 rfl) ?_
  refine lv_iconst (v := 1) hx hb dX6_run_1 (by decide) ?_
  refine lv_sipush (v := 200) hx hb dX6_run_2 (by decide) ?_
  refine call_i (cS (av := [.int a1, .int 1, .int 200]) (rest := []) B hP hS (c_isWithin l E r0 a1 1 200 1 200 (by decide) (by decide)) lk_RX6_54 rfl rfl hl.1 (Nat.le_of_ble_eq_true rfl) ⟨Nat.le_of_ble_eq_true rfl, Nat.le_of_ble_eq_true rfl⟩ ⟨Nat.le_of_ble_eq_true rfl, Nat.le_of_ble_eq_true rfl⟩ dX6_run_5) hS (fun r1 ρ2 H locs q3 hP hS => ?_)
  obtain ⟨rfl, q3⟩ := q3
  rcases q3 with ⟨rfl, q3⟩ | ⟨rfl, q3⟩
  · skip
    have hn := q3
    obtain ⟨N, hN, rfl⟩ := iR_nat hn (by decide) (by decide)
    refine lv_if_ne (tgt := 17) hx hb dX6_run_8 (by decide) (fun _ => ?_) (fun c4 => absurd c4 (by decide))
    refine lv_aload_n hx hb dX6_run_17 rfl (lv_at hl 0 rfl) ?_
    refine lv_iload_n hx hb dX6_run_18 rfl (lv_at hl 1 rfl) ?_
    refine call_i (cVt (k := 0) (av := [.int (nI N)]) (rest := []) B hP hS (c_hasTimeFor l E r0 (nI N) (show r0 1 5 = 0 by decide +kernel) hn) lk_RX6_213 (hrecv (ci := 6) B hP (hk_lt (c := 6) (by decide +kernel) (by decide)) (hcc6 _ _ (by decide +kernel)) rfl) rfl rfl hl.1 (Nat.le_of_ble_eq_true rfl) ⟨Nat.le_of_ble_eq_true rfl, Nat.le_of_ble_eq_true rfl⟩ ⟨Nat.le_of_ble_eq_true rfl, Nat.le_of_ble_eq_true rfl⟩ dX6_run_19) hS (fun r5 ρ6 H locs q7 hP hS => ?_)
    obtain ⟨rfl, rfl⟩ := q7
    refine lv_if_ne (tgt := 32) hx hb dX6_run_22 (by decide) (fun _ => ?_) (fun c8 => absurd c8 (by decide))
    refine lv_aload_n hx hb dX6_run_32 rfl (lv_at hl 0 rfl) ?_
    refine lv_bipush (v := 9) hx hb dX6_run_33 (by decide) ?_
    refine call_v (cVt (k := 0) (av := [.int 9]) (rest := []) B hP hS (c_keepForUndo l E 9) lk_RX6_65 (hrecv (ci := 6) B hP (hk_lt (c := 6) (by decide +kernel) (by decide)) (hcc6 _ _ (by decide +kernel)) rfl) rfl rfl hl.1 (Nat.le_of_ble_eq_true rfl) ⟨Nat.le_of_ble_eq_true rfl, Nat.le_of_ble_eq_true rfl⟩ ⟨Nat.le_of_ble_eq_true rfl, Nat.le_of_ble_eq_true rfl⟩ dX6_run_35) hS (fun ρ10 H locs q11 hP hS => ?_)
    refine lv_aload_n hx hb dX6_run_38 rfl (lv_at hl 0 rfl) ?_
    refine lv_aload_n hx hb dX6_run_39 rfl (lv_at hl 0 rfl) ?_
    refine get6 B hP (by decide +kernel) 0 (by decide) mw_412 rfl dX6_run_40 ?_
    refine lv_iload_n hx hb dX6_run_43 rfl (lv_at hl 1 rfl) ?_
    refine call_i (cVt (k := 1) (av := [.int (nI N)]) (rest := [.ref (E.2.1 + 0)]) B hP hS (c_heardInTurns l E ρ10 1 N (by decide +kernel) ((FrW_r0 (k := 1) (by decide +kernel)).keep4 (q11 _ (by decide) (by decide)) (q11 _ (by decide) (by decide)) (q11 _ (by decide) (by decide)) (q11 _ (by decide) (by decide))) (by omega)) lk_RX6_216 (hrecv (ci := 5) B hP (hk_lt (c := 5) (by decide +kernel) (by decide)) (hcc5 _ _ (by decide +kernel)) rfl) rfl rfl hl.1 (Nat.le_of_ble_eq_true rfl) ⟨Nat.le_of_ble_eq_true rfl, Nat.le_of_ble_eq_true rfl⟩ ⟨Nat.le_of_ble_eq_true rfl, Nat.le_of_ble_eq_true rfl⟩ dX6_run_44) hS (fun r12 ρ13 H locs q14 hP hS => ?_)
    obtain ⟨rfl, q14⟩ := q14
    refine call_i (cVt (k := 0) (av := [.int 0]) (rest := []) B hP hS (c_accept l E ρ13 0) lk_RX6_72 (hrecv (ci := 6) B hP (hk_lt (c := 6) (by decide +kernel) (by decide)) (hcc6 _ _ (by decide +kernel)) rfl) rfl rfl hl.1 (Nat.le_of_ble_eq_true rfl) ⟨Nat.le_of_ble_eq_true rfl, Nat.le_of_ble_eq_true rfl⟩ ⟨Nat.le_of_ble_eq_true rfl, Nat.le_of_ble_eq_true rfl⟩ dX6_run_47) hS (fun r15 ρ16 H locs q17 hP hS => ?_)
    obtain rfl := q17
    exact ret_i B hr hlk hP hS dX6_run_50 (Or.inl ⟨hn, rfl⟩)
  · skip
    refine lv_if_ne (tgt := 17) hx hb dX6_run_8 (by decide) (fun c18 => absurd c18 (by decide)) (fun _ => ?_)
    refine lv_aload_n hx hb dX6_run_11 rfl (lv_at hl 0 rfl) ?_
    refine lv_iconst (v := (-1)) hx hb dX6_run_12 (by decide) ?_
    refine call_i (cVt (k := 0) (av := [.int (-1)]) (rest := []) B hP hS (c_refuse l E r0 (-1)) lk_RX6_58 (hrecv (ci := 6) B hP (hk_lt (c := 6) (by decide +kernel) (by decide)) (hcc6 _ _ (by decide +kernel)) rfl) rfl rfl hl.1 (Nat.le_of_ble_eq_true rfl) ⟨Nat.le_of_ble_eq_true rfl, Nat.le_of_ble_eq_true rfl⟩ ⟨Nat.le_of_ble_eq_true rfl, Nat.le_of_ble_eq_true rfl⟩ dX6_run_13) hS (fun r19 ρ20 H locs q21 hP hS => ?_)
    obtain rfl := q21
    exact ret_i B hr hlk hP hS dX6_run_16 (Or.inr ⟨fun z => q3 z, rfl⟩)

set_option maxHeartbeats 4000000 in
set_option maxRecDepth 100000 in
theorem c_undo (l : Launch) (E : hE)  : Met l yX6_undo (.code yX6_undo cX6_undo 1 (some .int) :: gw_all) (rmk 4 160) (cPre E r0 [.ref (E.2.1 + 0)]) (cI E (fun r _ => r = (-4))) 0 0 (hA E) := by
  refine ent (own := RX6) (by decide) rfl (Nat.le_of_ble_eq_true rfl) ?_
  intro p e s m below meth c ls B hr hlk hl hP hS
  have hx := B.1.1
  have hb := B.1.2.1
  have hown := B.1.2.2.2.1
  have hts := B.1.2.2.2.2
  have hl : lv_has ls 1 [(0, .ref (E.2.1 + 0))] := hl
  refine lv_aload_n hx hb dX6_undo_0 rfl (lv_at hl 0 rfl) ?_
  refine get6 B hP (by decide +kernel) 7 (by decide) mw_419 (v := .int 0) (show some (Value.int (r0 0 7)) = some (Value.int 0) from congrArg (fun z => some (Value.int z)) (show r0 0 7 = 0 by decide +kernel)) dX6_undo_1 ?_
  refine lv_if_ne (tgt := 14) hx hb dX6_undo_4 (by decide) (fun c1 => absurd c1 (by decide)) (fun _ => ?_)
  refine lv_aload_n hx hb dX6_undo_7 rfl (lv_at hl 0 rfl) ?_
  refine lv_bipush (v := (-4)) hx hb dX6_undo_8 (by decide) ?_
  refine call_i (cVt (k := 0) (av := [.int (-4)]) (rest := []) B hP hS (c_refuse l E r0 (-4)) lk_RX6_58 (hrecv (ci := 6) B hP (hk_lt (c := 6) (by decide +kernel) (by decide)) (hcc6 _ _ (by decide +kernel)) rfl) rfl rfl hl.1 (Nat.le_of_ble_eq_true rfl) ⟨Nat.le_of_ble_eq_true rfl, Nat.le_of_ble_eq_true rfl⟩ ⟨Nat.le_of_ble_eq_true rfl, Nat.le_of_ble_eq_true rfl⟩ dX6_undo_10) hS (fun r2 ρ3 H locs q4 hP hS => ?_)
  obtain rfl := q4
  exact ret_i B hr hlk hP hS dX6_undo_13 (rfl)

set_option maxHeartbeats 4000000 in
set_option maxRecDepth 100000 in
theorem c_image (l : Launch) (E : hE) (a1 : Int32) : Met l yX6_image (.code yX6_image cX6_image 2 (some .int) :: gw_all) (rmk 4 160) (cPre E r0 [.ref (E.2.1 + 0), .int a1]) (cI E (fun r _ => ((iR a1 0 1) ∧ r = 0) ∨ (¬ (iR a1 0 1) ∧ r = -1))) 0 0 (hA E) := by
  refine ent (own := RX6) (by decide) rfl (Nat.le_of_ble_eq_true rfl) ?_
  intro p e s m below meth c ls B hr hlk hl hP hS
  have hx := B.1.1
  have hb := B.1.2.1
  have hown := B.1.2.2.2.1
  have hts := B.1.2.2.2.2
  have hl : lv_has ls 2 [(0, .ref (E.2.1 + 0)), (1, .int a1)] := hl
  refine lv_iload_n hx hb dX6_image_0 rfl (lv_at hl 1 rfl) ?_
  refine lv_iconst (v := 0) hx hb dX6_image_1 (by decide) ?_
  refine lv_iconst (v := 1) hx hb dX6_image_2 (by decide) ?_
  refine call_i (cS (av := [.int a1, .int 0, .int 1]) (rest := []) B hP hS (c_isWithin l E r0 a1 0 1 0 1 (by decide) (by decide)) lk_RX6_54 rfl rfl hl.1 (Nat.le_of_ble_eq_true rfl) ⟨Nat.le_of_ble_eq_true rfl, Nat.le_of_ble_eq_true rfl⟩ ⟨Nat.le_of_ble_eq_true rfl, Nat.le_of_ble_eq_true rfl⟩ dX6_image_3) hS (fun r1 ρ2 H locs q3 hP hS => ?_)
  obtain ⟨rfl, q3⟩ := q3
  rcases q3 with ⟨rfl, q3⟩ | ⟨rfl, q3⟩
  · skip
    have hn := q3
    obtain ⟨j, hj, rfl⟩ := iR_ix (n := 2) hn (by decide) (by decide)
    rcases (show j = 0 ∨ j = 1 by omega) with rfl | rfl
    · skip
      refine lv_if_ne (tgt := 15) hx hb dX6_image_6 (by decide) (fun _ => ?_) (fun c4 => absurd c4 (by decide))
      refine lv_aload_n hx hb dX6_image_15 rfl (lv_at hl 0 rfl) ?_
      refine get6 B hP (by decide +kernel) 2 (by decide) mw_414 rfl dX6_image_16 ?_
      refine lv_iload_n hx hb dX6_image_19 rfl (lv_at hl 1 rfl) ?_
      refine aldWn (n := 2) B hP (by decide +kernel) (by decide +kernel) rfl (by decide) (by decide) dX6_image_20 ?_
      refine lv_aload_n hx hb dX6_image_21 rfl (lv_at hl 0 rfl) ?_
      refine get6 B hP (by decide +kernel) 0 (by decide) mw_412 rfl dX6_image_22 ?_
      refine call_v (cVt (k := 186) (av := [.ref (E.2.1 + 1)]) (rest := []) B hP hS (c_World_copyFrom l E r0 186 1 (by decide +kernel) (by decide +kernel) (by decide) (fun r _ h52 h10 j => congrFun (r0_ag (by decide +kernel) (by decide +kernel) h52 h10) j) ⟨by decide +kernel, by decide +kernel⟩) lk_RX6_219 (hrecv (ci := 5) B hP (hk_lt (c := 5) (by decide +kernel) (by decide)) (hcc5 _ _ (by decide +kernel)) rfl) rfl rfl hl.1 (Nat.le_of_ble_eq_true rfl) ⟨Nat.le_of_ble_eq_true rfl, Nat.le_of_ble_eq_true rfl⟩ ⟨Nat.le_of_ble_eq_true rfl, Nat.le_of_ble_eq_true rfl⟩ dX6_image_25) hS (fun ρ6 H locs q7 hP hS => ?_)
      rw [cpw_self (fun j => congrFun (r0_ag (k1 := 186) (k2 := 1) (r := 0) (by decide +kernel) (by decide +kernel) (by decide) (by decide)) j)] at q7
      subst q7
      refine lv_aload_n hx hb dX6_image_28 rfl (lv_at hl 0 rfl) ?_
      refine get6 B hP (by decide +kernel) 3 (by decide) mw_415 rfl dX6_image_29 ?_
      refine lv_iload_n hx hb dX6_image_32 rfl (lv_at hl 1 rfl) ?_
      refine lv_iconst (v := 1) hx hb dX6_image_33 (by decide) ?_
      refine zstn (n := 2) B hP hS (by decide +kernel) (by decide +kernel) rfl (by decide) (by decide) rfl dX6_image_34 (fun H locs hP hS => ?_)
      obtain ⟨ρ8, e9⟩ : ∃ z, z = up r0 180 0 1 := ⟨_, rfl⟩
      rw [← e9] at hP
      refine lv_aload_n hx hb dX6_image_35 rfl (lv_at hl 0 rfl) ?_
      refine lv_aload_n hx hb dX6_image_36 rfl (lv_at hl 0 rfl) ?_
      refine get6 B hP (by decide +kernel) 0 (by decide) mw_412 rfl dX6_image_37 ?_
      refine get5 B hP (by decide +kernel) 5 (by decide) mw_382 (v := .int 0) (show some (Value.int (ρ8 1 5)) = some (Value.int 0) from congrArg (fun z => some (Value.int z)) (by rw [e9]; exact up_get_ne (Or.inl (by decide)) (show r0 1 5 = 0 by decide +kernel))) dX6_image_40 ?_
      refine call_i (cVt (k := 0) (av := [.int 0]) (rest := []) B hP hS (c_accept l E ρ8 0) lk_RX6_72 (hrecv (ci := 6) B hP (hk_lt (c := 6) (by decide +kernel) (by decide)) (hcc6 _ _ (by decide +kernel)) rfl) rfl rfl hl.1 (Nat.le_of_ble_eq_true rfl) ⟨Nat.le_of_ble_eq_true rfl, Nat.le_of_ble_eq_true rfl⟩ ⟨Nat.le_of_ble_eq_true rfl, Nat.le_of_ble_eq_true rfl⟩ dX6_image_43) hS (fun r10 ρ11 H locs q12 hP hS => ?_)
      obtain rfl := q12
      exact ret_i B hr hlk hP hS dX6_image_46 (Or.inl ⟨hn, rfl⟩)
    · skip
      refine lv_if_ne (tgt := 15) hx hb dX6_image_6 (by decide) (fun _ => ?_) (fun c13 => absurd c13 (by decide))
      refine lv_aload_n hx hb dX6_image_15 rfl (lv_at hl 0 rfl) ?_
      refine get6 B hP (by decide +kernel) 2 (by decide) mw_414 rfl dX6_image_16 ?_
      refine lv_iload_n hx hb dX6_image_19 rfl (lv_at hl 1 rfl) ?_
      refine aldWn (n := 2) B hP (by decide +kernel) (by decide +kernel) rfl (by decide) (by decide) dX6_image_20 ?_
      refine lv_aload_n hx hb dX6_image_21 rfl (lv_at hl 0 rfl) ?_
      refine get6 B hP (by decide +kernel) 0 (by decide) mw_412 rfl dX6_image_22 ?_
      refine call_v (cVt (k := 275) (av := [.ref (E.2.1 + 1)]) (rest := []) B hP hS (c_World_copyFrom l E r0 275 1 (by decide +kernel) (by decide +kernel) (by decide) (fun r _ h52 h10 j => congrFun (r0_ag (by decide +kernel) (by decide +kernel) h52 h10) j) ⟨by decide +kernel, by decide +kernel⟩) lk_RX6_219 (hrecv (ci := 5) B hP (hk_lt (c := 5) (by decide +kernel) (by decide)) (hcc5 _ _ (by decide +kernel)) rfl) rfl rfl hl.1 (Nat.le_of_ble_eq_true rfl) ⟨Nat.le_of_ble_eq_true rfl, Nat.le_of_ble_eq_true rfl⟩ ⟨Nat.le_of_ble_eq_true rfl, Nat.le_of_ble_eq_true rfl⟩ dX6_image_25) hS (fun ρ15 H locs q16 hP hS => ?_)
      rw [cpw_self (fun j => congrFun (r0_ag (k1 := 275) (k2 := 1) (r := 0) (by decide +kernel) (by decide +kernel) (by decide) (by decide)) j)] at q16
      subst q16
      refine lv_aload_n hx hb dX6_image_28 rfl (lv_at hl 0 rfl) ?_
      refine get6 B hP (by decide +kernel) 3 (by decide) mw_415 rfl dX6_image_29 ?_
      refine lv_iload_n hx hb dX6_image_32 rfl (lv_at hl 1 rfl) ?_
      refine lv_iconst (v := 1) hx hb dX6_image_33 (by decide) ?_
      refine zstn (n := 2) B hP hS (by decide +kernel) (by decide +kernel) rfl (by decide) (by decide) rfl dX6_image_34 (fun H locs hP hS => ?_)
      obtain ⟨ρ17, e18⟩ : ∃ z, z = up r0 180 1 1 := ⟨_, rfl⟩
      rw [← e18] at hP
      refine lv_aload_n hx hb dX6_image_35 rfl (lv_at hl 0 rfl) ?_
      refine lv_aload_n hx hb dX6_image_36 rfl (lv_at hl 0 rfl) ?_
      refine get6 B hP (by decide +kernel) 0 (by decide) mw_412 rfl dX6_image_37 ?_
      refine get5 B hP (by decide +kernel) 5 (by decide) mw_382 (v := .int 0) (show some (Value.int (ρ17 1 5)) = some (Value.int 0) from congrArg (fun z => some (Value.int z)) (by rw [e18]; exact up_get_ne (Or.inl (by decide)) (show r0 1 5 = 0 by decide +kernel))) dX6_image_40 ?_
      refine call_i (cVt (k := 0) (av := [.int 0]) (rest := []) B hP hS (c_accept l E ρ17 0) lk_RX6_72 (hrecv (ci := 6) B hP (hk_lt (c := 6) (by decide +kernel) (by decide)) (hcc6 _ _ (by decide +kernel)) rfl) rfl rfl hl.1 (Nat.le_of_ble_eq_true rfl) ⟨Nat.le_of_ble_eq_true rfl, Nat.le_of_ble_eq_true rfl⟩ ⟨Nat.le_of_ble_eq_true rfl, Nat.le_of_ble_eq_true rfl⟩ dX6_image_43) hS (fun r19 ρ20 H locs q21 hP hS => ?_)
      obtain rfl := q21
      exact ret_i B hr hlk hP hS dX6_image_46 (Or.inl ⟨hn, rfl⟩)
  · skip
    refine lv_if_ne (tgt := 15) hx hb dX6_image_6 (by decide) (fun c22 => absurd c22 (by decide)) (fun _ => ?_)
    refine lv_aload_n hx hb dX6_image_9 rfl (lv_at hl 0 rfl) ?_
    refine lv_iconst (v := (-1)) hx hb dX6_image_10 (by decide) ?_
    refine call_i (cVt (k := 0) (av := [.int (-1)]) (rest := []) B hP hS (c_refuse l E r0 (-1)) lk_RX6_58 (hrecv (ci := 6) B hP (hk_lt (c := 6) (by decide +kernel) (by decide)) (hcc6 _ _ (by decide +kernel)) rfl) rfl rfl hl.1 (Nat.le_of_ble_eq_true rfl) ⟨Nat.le_of_ble_eq_true rfl, Nat.le_of_ble_eq_true rfl⟩ ⟨Nat.le_of_ble_eq_true rfl, Nat.le_of_ble_eq_true rfl⟩ dX6_image_11) hS (fun r23 ρ24 H locs q25 hP hS => ?_)
    obtain rfl := q25
    exact ret_i B hr hlk hP hS dX6_image_14 (Or.inr ⟨fun z => q3 z, rfl⟩)

set_option maxHeartbeats 4000000 in
set_option maxRecDepth 100000 in
theorem c_back (l : Launch) (E : hE) (a1 : Int32) : Met l yX6_back (.code yX6_back cX6_back 2 (some .int) :: gw_all) (rmk 4 160) (cPre E r0 [.ref (E.2.1 + 0), .int a1]) (cI E (fun r _ => ((iR a1 0 1) ∧ r = -4) ∨ (¬ (iR a1 0 1) ∧ r = -1))) 0 0 (hA E) := by
  refine ent (own := RX6) (by decide) rfl (Nat.le_of_ble_eq_true rfl) ?_
  intro p e s m below meth c ls B hr hlk hl hP hS
  have hx := B.1.1
  have hb := B.1.2.1
  have hown := B.1.2.2.2.1
  have hts := B.1.2.2.2.2
  have hl : lv_has ls 2 [(0, .ref (E.2.1 + 0)), (1, .int a1)] := hl
  refine lv_iload_n hx hb dX6_back_0 rfl (lv_at hl 1 rfl) ?_
  refine lv_iconst (v := 0) hx hb dX6_back_1 (by decide) ?_
  refine lv_iconst (v := 1) hx hb dX6_back_2 (by decide) ?_
  refine call_i (cS (av := [.int a1, .int 0, .int 1]) (rest := []) B hP hS (c_isWithin l E r0 a1 0 1 0 1 (by decide) (by decide)) lk_RX6_54 rfl rfl hl.1 (Nat.le_of_ble_eq_true rfl) ⟨Nat.le_of_ble_eq_true rfl, Nat.le_of_ble_eq_true rfl⟩ ⟨Nat.le_of_ble_eq_true rfl, Nat.le_of_ble_eq_true rfl⟩ dX6_back_3) hS (fun r1 ρ2 H locs q3 hP hS => ?_)
  obtain ⟨rfl, q3⟩ := q3
  rcases q3 with ⟨rfl, q3⟩ | ⟨rfl, q3⟩
  · skip
    have hn := q3
    obtain ⟨j, hj, rfl⟩ := iR_ix (n := 2) hn (by decide) (by decide)
    rcases (show j = 0 ∨ j = 1 by omega) with rfl | rfl
    · skip
      refine lv_if_ne (tgt := 15) hx hb dX6_back_6 (by decide) (fun _ => ?_) (fun c4 => absurd c4 (by decide))
      refine lv_aload_n hx hb dX6_back_15 rfl (lv_at hl 0 rfl) ?_
      refine get6 B hP (by decide +kernel) 3 (by decide) mw_415 rfl dX6_back_16 ?_
      refine lv_iload_n hx hb dX6_back_19 rfl (lv_at hl 1 rfl) ?_
      refine zldf (n := 2) B hP (by decide +kernel) (by decide +kernel) rfl (by decide) (by decide) (show r0 180 0 = 0 by decide +kernel) dX6_back_20 ?_
      refine lv_if_ne (tgt := 31) hx hb dX6_back_21 (by decide) (fun c5 => absurd c5 (by decide)) (fun _ => ?_)
      refine lv_aload_n hx hb dX6_back_24 rfl (lv_at hl 0 rfl) ?_
      refine lv_bipush (v := (-4)) hx hb dX6_back_25 (by decide) ?_
      refine call_i (cVt (k := 0) (av := [.int (-4)]) (rest := []) B hP hS (c_refuse l E r0 (-4)) lk_RX6_58 (hrecv (ci := 6) B hP (hk_lt (c := 6) (by decide +kernel) (by decide)) (hcc6 _ _ (by decide +kernel)) rfl) rfl rfl hl.1 (Nat.le_of_ble_eq_true rfl) ⟨Nat.le_of_ble_eq_true rfl, Nat.le_of_ble_eq_true rfl⟩ ⟨Nat.le_of_ble_eq_true rfl, Nat.le_of_ble_eq_true rfl⟩ dX6_back_27) hS (fun r6 ρ7 H locs q8 hP hS => ?_)
      obtain rfl := q8
      exact ret_i B hr hlk hP hS dX6_back_30 (Or.inl ⟨hn, rfl⟩)
    · skip
      refine lv_if_ne (tgt := 15) hx hb dX6_back_6 (by decide) (fun _ => ?_) (fun c9 => absurd c9 (by decide))
      refine lv_aload_n hx hb dX6_back_15 rfl (lv_at hl 0 rfl) ?_
      refine get6 B hP (by decide +kernel) 3 (by decide) mw_415 rfl dX6_back_16 ?_
      refine lv_iload_n hx hb dX6_back_19 rfl (lv_at hl 1 rfl) ?_
      refine zldf (n := 2) B hP (by decide +kernel) (by decide +kernel) rfl (by decide) (by decide) (show r0 180 1 = 0 by decide +kernel) dX6_back_20 ?_
      refine lv_if_ne (tgt := 31) hx hb dX6_back_21 (by decide) (fun c10 => absurd c10 (by decide)) (fun _ => ?_)
      refine lv_aload_n hx hb dX6_back_24 rfl (lv_at hl 0 rfl) ?_
      refine lv_bipush (v := (-4)) hx hb dX6_back_25 (by decide) ?_
      refine call_i (cVt (k := 0) (av := [.int (-4)]) (rest := []) B hP hS (c_refuse l E r0 (-4)) lk_RX6_58 (hrecv (ci := 6) B hP (hk_lt (c := 6) (by decide +kernel) (by decide)) (hcc6 _ _ (by decide +kernel)) rfl) rfl rfl hl.1 (Nat.le_of_ble_eq_true rfl) ⟨Nat.le_of_ble_eq_true rfl, Nat.le_of_ble_eq_true rfl⟩ ⟨Nat.le_of_ble_eq_true rfl, Nat.le_of_ble_eq_true rfl⟩ dX6_back_27) hS (fun r11 ρ12 H locs q13 hP hS => ?_)
      obtain rfl := q13
      exact ret_i B hr hlk hP hS dX6_back_30 (Or.inl ⟨hn, rfl⟩)
  · skip
    refine lv_if_ne (tgt := 15) hx hb dX6_back_6 (by decide) (fun c14 => absurd c14 (by decide)) (fun _ => ?_)
    refine lv_aload_n hx hb dX6_back_9 rfl (lv_at hl 0 rfl) ?_
    refine lv_iconst (v := (-1)) hx hb dX6_back_10 (by decide) ?_
    refine call_i (cVt (k := 0) (av := [.int (-1)]) (rest := []) B hP hS (c_refuse l E r0 (-1)) lk_RX6_58 (hrecv (ci := 6) B hP (hk_lt (c := 6) (by decide +kernel) (by decide)) (hcc6 _ _ (by decide +kernel)) rfl) rfl rfl hl.1 (Nat.le_of_ble_eq_true rfl) ⟨Nat.le_of_ble_eq_true rfl, Nat.le_of_ble_eq_true rfl⟩ ⟨Nat.le_of_ble_eq_true rfl, Nat.le_of_ble_eq_true rfl⟩ dX6_back_11) hS (fun r15 ρ16 H locs q17 hP hS => ?_)
    obtain rfl := q17
    exact ret_i B hr hlk hP hS dX6_back_14 (Or.inr ⟨fun z => q3 z, rfl⟩)

theorem lk_RX6_228 : LkV RX6 228 RX6 yX6_planOf cX6_planOf 5 (some (.object "HopNet$Plan")) 2 := ⟨⟨mw_855, mw_857, mw_5, mw_52, mw_858⟩, by decide +kernel⟩
set_option maxHeartbeats 4000000 in
set_option maxRecDepth 100000 in
theorem c_hop (l : Launch) (E : hE) (a1 a2 a3 : Int32) : Met l yX6_hop (.code yX6_hop cX6_hop 5 (some .int) :: gw_all) (rmk 4 160) (cPre E r0 [.ref (E.2.1 + 0), .int a1, .int a2, .int a3]) (cI E (fun r _ => r = (-1))) 0 0 (hA E) := by
  refine ent (own := RX6) (by decide) rfl (Nat.le_of_ble_eq_true rfl) ?_
  intro p e s m below meth c ls B hr hlk hl hP hS
  have hx := B.1.1
  have hb := B.1.2.1
  have hown := B.1.2.2.2.1
  have hts := B.1.2.2.2.2
  have hl : lv_has ls 5 [(0, .ref (E.2.1 + 0)), (1, .int a1), (2, .int a2), (3, .int a3)] := hl
  refine lv_aload_n hx hb dX6_hop_0 rfl (lv_at hl 0 rfl) ?_
  refine lv_iload_n hx hb dX6_hop_1 rfl (lv_at hl 1 rfl) ?_
  refine lv_iload_n hx hb dX6_hop_2 rfl (lv_at hl 2 rfl) ?_
  refine call_q (cVt (k := 0) (av := [.int a1, .int a2]) (rest := []) B hP hS (c_planOf l E r0 a1 a2 (FrW_r0 (by decide +kernel))) lk_RX6_228 (hrecv (ci := 6) B hP (hk_lt (c := 6) (by decide +kernel) (by decide)) (hcc6 _ _ (by decide +kernel)) rfl) rfl rfl hl.1 (Nat.le_of_ble_eq_true rfl) ⟨Nat.le_of_ble_eq_true rfl, Nat.le_of_ble_eq_true rfl⟩ ⟨Nat.le_of_ble_eq_true rfl, Nat.le_of_ble_eq_true rfl⟩ dX6_hop_3) hS (fun r1 ρ2 H locs q3 hP hS => ?_)
  obtain ⟨rfl, rfl⟩ := q3
  refine W.eq (g2 := F0 m 6 ls [.null]) rfl ?_
  refine lv_astoreN (lv' := [(4, .null), (0, .ref (E.2.1 + 0)), (1, .int a1), (2, .int a2), (3, .int a3)]) hx hb dX6_hop_6 hl (by decide) rfl (fun ls hl => ?_)
  refine lv_aloadN hx hb dX6_hop_8 (lv_at hl 0 rfl) ?_
  refine lv_ifnullN (tgt := 23) hx hb dX6_hop_10 (by decide) ?_
  refine lv_iconst (v := (-1)) hx hb dX6_hop_23 (by decide) ?_
  exact ret_i B hr hlk hP hS dX6_hop_24 (rfl)

set_option maxHeartbeats 4000000 in
set_option maxRecDepth 100000 in
theorem c_alike (l : Launch) (E : hE) (a1 a2 a3 : Int32) : Met l yX6_alike (.code yX6_alike cX6_alike 6 (some .int) :: gw_all) (rmk 4 160) (cPre E r0 [.ref (E.2.1 + 0), .int a1, .int a2, .int a3]) (cI E (fun r _ => r = (-1))) 0 0 (hA E) := by
  refine ent (own := RX6) (by decide) rfl (Nat.le_of_ble_eq_true rfl) ?_
  intro p e s m below meth c ls B hr hlk hl hP hS
  have hx := B.1.1
  have hb := B.1.2.1
  have hown := B.1.2.2.2.1
  have hts := B.1.2.2.2.2
  have hl : lv_has ls 6 [(0, .ref (E.2.1 + 0)), (1, .int a1), (2, .int a2), (3, .int a3)] := hl
  refine lv_aload_n hx hb dX6_alike_0 rfl (lv_at hl 0 rfl) ?_
  refine get6 B hP (by decide +kernel) 0 (by decide) mw_412 rfl dX6_alike_1 ?_
  refine lv_iload_n hx hb dX6_alike_4 rfl (lv_at hl 1 rfl) ?_
  refine lv_iload_n hx hb dX6_alike_5 rfl (lv_at hl 2 rfl) ?_
  refine call_q (cVt (k := 1) (av := [.int a1, .int a2]) (rest := []) B hP hS (c_linkAt l E r0 1 a1 a2 (by decide +kernel) (FrW_r0 (by decide +kernel))) lk_RX6_132 (hrecv (ci := 5) B hP (hk_lt (c := 5) (by decide +kernel) (by decide)) (hcc5 _ _ (by decide +kernel)) rfl) rfl rfl hl.1 (Nat.le_of_ble_eq_true rfl) ⟨Nat.le_of_ble_eq_true rfl, Nat.le_of_ble_eq_true rfl⟩ ⟨Nat.le_of_ble_eq_true rfl, Nat.le_of_ble_eq_true rfl⟩ dX6_alike_6) hS (fun r1 ρ2 H locs q3 hP hS => ?_)
  obtain ⟨rfl, rfl⟩ := q3
  refine W.eq (g2 := F0 m 9 ls [.null]) rfl ?_
  refine lv_astoreN (lv' := [(4, .null), (0, .ref (E.2.1 + 0)), (1, .int a1), (2, .int a2), (3, .int a3)]) hx hb dX6_alike_9 hl (by decide) rfl (fun ls hl => ?_)
  refine lv_aloadN hx hb dX6_alike_11 (lv_at hl 0 rfl) ?_
  refine lv_ifnonnullN hx hb dX6_alike_13 ?_
  refine lv_iconst (v := (-1)) hx hb dX6_alike_16 (by decide) ?_
  exact ret_i B hr hlk hP hS dX6_alike_17 (rfl)

set_option maxHeartbeats 4000000 in
set_option maxRecDepth 100000 in
theorem c_mapOf (l : Launch) (E : hE) (a1 a2 a3 : Int32) : Met l yX6_mapOf (.code yX6_mapOf cX6_mapOf 5 (some .int) :: gw_all) (rmk 4 160) (cPre E r0 [.ref (E.2.1 + 0), .int a1, .int a2, .int a3]) (cI E (fun r _ => r = (-1))) 0 0 (hA E) := by
  refine ent (own := RX6) (by decide) rfl (Nat.le_of_ble_eq_true rfl) ?_
  intro p e s m below meth c ls B hr hlk hl hP hS
  have hx := B.1.1
  have hb := B.1.2.1
  have hown := B.1.2.2.2.1
  have hts := B.1.2.2.2.2
  have hl : lv_has ls 5 [(0, .ref (E.2.1 + 0)), (1, .int a1), (2, .int a2), (3, .int a3)] := hl
  refine lv_aload_n hx hb dX6_mapOf_0 rfl (lv_at hl 0 rfl) ?_
  refine lv_iload_n hx hb dX6_mapOf_1 rfl (lv_at hl 1 rfl) ?_
  refine lv_iload_n hx hb dX6_mapOf_2 rfl (lv_at hl 2 rfl) ?_
  refine call_q (cVt (k := 0) (av := [.int a1, .int a2]) (rest := []) B hP hS (c_planOf l E r0 a1 a2 (FrW_r0 (by decide +kernel))) lk_RX6_228 (hrecv (ci := 6) B hP (hk_lt (c := 6) (by decide +kernel) (by decide)) (hcc6 _ _ (by decide +kernel)) rfl) rfl rfl hl.1 (Nat.le_of_ble_eq_true rfl) ⟨Nat.le_of_ble_eq_true rfl, Nat.le_of_ble_eq_true rfl⟩ ⟨Nat.le_of_ble_eq_true rfl, Nat.le_of_ble_eq_true rfl⟩ dX6_mapOf_3) hS (fun r1 ρ2 H locs q3 hP hS => ?_)
  obtain ⟨rfl, rfl⟩ := q3
  refine W.eq (g2 := F0 m 6 ls [.null]) rfl ?_
  refine lv_astoreN (lv' := [(4, .null), (0, .ref (E.2.1 + 0)), (1, .int a1), (2, .int a2), (3, .int a3)]) hx hb dX6_mapOf_6 hl (by decide) rfl (fun ls hl => ?_)
  refine lv_aloadN hx hb dX6_mapOf_8 (lv_at hl 0 rfl) ?_
  refine lv_ifnonnullN hx hb dX6_mapOf_10 ?_
  refine lv_iconst (v := (-1)) hx hb dX6_mapOf_13 (by decide) ?_
  exact ret_i B hr hlk hP hS dX6_mapOf_14 (rfl)

theorem lk_RX6_259 : LkV RX6 259 RX5 yX5_hasBothNets cX5_hasBothNets 1 (some .boolean) 0 := ⟨⟨mw_883, mw_884, mw_885, mw_53, mw_886⟩, by decide +kernel⟩
set_option maxHeartbeats 4000000 in
set_option maxRecDepth 100000 in
theorem c_meets (l : Launch) (E : hE)  : Met l yX6_meets (.code yX6_meets cX6_meets 2 (some .int) :: gw_all) (rmk 4 160) (cPre E r0 [.ref (E.2.1 + 0)]) (cI E (fun r _ => r = (-1))) 0 0 (hA E) := by
  refine ent (own := RX6) (by decide) rfl (Nat.le_of_ble_eq_true rfl) ?_
  intro p e s m below meth c ls B hr hlk hl hP hS
  have hx := B.1.1
  have hb := B.1.2.1
  have hown := B.1.2.2.2.1
  have hts := B.1.2.2.2.2
  have hl : lv_has ls 2 [(0, .ref (E.2.1 + 0))] := hl
  refine lv_aload_n hx hb dX6_meets_0 rfl (lv_at hl 0 rfl) ?_
  refine get6 B hP (by decide +kernel) 0 (by decide) mw_412 rfl dX6_meets_1 ?_
  refine call_i (cVt (k := 1) (av := []) (rest := []) B hP hS (c_hasBothNets l E r0 1 (by decide +kernel) (FrW_r0 (by decide +kernel))) lk_RX6_259 (hrecv (ci := 5) B hP (hk_lt (c := 5) (by decide +kernel) (by decide)) (hcc5 _ _ (by decide +kernel)) rfl) rfl rfl hl.1 (Nat.le_of_ble_eq_true rfl) ⟨Nat.le_of_ble_eq_true rfl, Nat.le_of_ble_eq_true rfl⟩ ⟨Nat.le_of_ble_eq_true rfl, Nat.le_of_ble_eq_true rfl⟩ dX6_meets_4) hS (fun r1 ρ2 H locs q3 hP hS => ?_)
  obtain ⟨rfl, rfl⟩ := q3
  refine lv_if_ne (tgt := 12) hx hb dX6_meets_7 (by decide) (fun c4 => absurd c4 (by decide)) (fun _ => ?_)
  refine lv_iconst (v := (-1)) hx hb dX6_meets_10 (by decide) ?_
  exact ret_i B hr hlk hP hS dX6_meets_11 (rfl)

set_option maxHeartbeats 4000000 in
set_option maxRecDepth 100000 in
theorem c_used (l : Launch) (E : hE) (a1 a2 a3 : Int32) : Met l yX6_used (.code yX6_used cX6_used 7 (some .int) :: gw_all) (rmk 4 160) (cPre E r0 [.ref (E.2.1 + 0), .int a1, .int a2, .int a3]) (cI E (fun r _ => r = (-1))) 0 0 (hA E) := by
  refine ent (own := RX6) (by decide) rfl (Nat.le_of_ble_eq_true rfl) ?_
  intro p e s m below meth c ls B hr hlk hl hP hS
  have hx := B.1.1
  have hb := B.1.2.1
  have hown := B.1.2.2.2.1
  have hts := B.1.2.2.2.2
  have hl : lv_has ls 7 [(0, .ref (E.2.1 + 0)), (1, .int a1), (2, .int a2), (3, .int a3)] := hl
  refine lv_aload_n hx hb dX6_used_0 rfl (lv_at hl 0 rfl) ?_
  refine get6 B hP (by decide +kernel) 0 (by decide) mw_412 rfl dX6_used_1 ?_
  refine lv_iload_n hx hb dX6_used_4 rfl (lv_at hl 1 rfl) ?_
  refine call_q (cVt (k := 1) (av := [.int a1]) (rest := []) B hP hS (c_netAt l E r0 1 a1 (by decide +kernel) (FrW_r0 (by decide +kernel))) lk_RX6_95 (hrecv (ci := 5) B hP (hk_lt (c := 5) (by decide +kernel) (by decide)) (hcc5 _ _ (by decide +kernel)) rfl) rfl rfl hl.1 (Nat.le_of_ble_eq_true rfl) ⟨Nat.le_of_ble_eq_true rfl, Nat.le_of_ble_eq_true rfl⟩ ⟨Nat.le_of_ble_eq_true rfl, Nat.le_of_ble_eq_true rfl⟩ dX6_used_5) hS (fun r1 ρ2 H locs q3 hP hS => ?_)
  obtain ⟨rfl, rfl⟩ := q3
  refine W.eq (g2 := F0 m 8 ls [.null]) rfl ?_
  refine lv_astoreN (lv' := [(4, .null), (0, .ref (E.2.1 + 0)), (1, .int a1), (2, .int a2), (3, .int a3)]) hx hb dX6_used_8 hl (by decide) rfl (fun ls hl => ?_)
  refine lv_aloadN hx hb dX6_used_10 (lv_at hl 0 rfl) ?_
  refine lv_ifnullN (tgt := 36) hx hb dX6_used_12 (by decide) ?_
  refine lv_iconst (v := (-1)) hx hb dX6_used_36 (by decide) ?_
  exact ret_i B hr hlk hP hS dX6_used_37 (rfl)

set_option maxHeartbeats 4000000 in
set_option maxRecDepth 100000 in
theorem c_bad (l : Launch) (E : hE) (a1 a2 : Int32) : Met l yX6_bad (.code yX6_bad cX6_bad 4 (some .int) :: gw_all) (rmk 4 160) (cPre E r0 [.ref (E.2.1 + 0), .int a1, .int a2]) (cI E (fun r _ => r = (-1))) 0 0 (hA E) := by
  refine ent (own := RX6) (by decide) rfl (Nat.le_of_ble_eq_true rfl) ?_
  intro p e s m below meth c ls B hr hlk hl hP hS
  have hx := B.1.1
  have hb := B.1.2.1
  have hown := B.1.2.2.2.1
  have hts := B.1.2.2.2.2
  have hl : lv_has ls 4 [(0, .ref (E.2.1 + 0)), (1, .int a1), (2, .int a2)] := hl
  refine lv_aload_n hx hb dX6_bad_0 rfl (lv_at hl 0 rfl) ?_
  refine get6 B hP (by decide +kernel) 0 (by decide) mw_412 rfl dX6_bad_1 ?_
  refine lv_iload_n hx hb dX6_bad_4 rfl (lv_at hl 1 rfl) ?_
  refine call_q (cVt (k := 1) (av := [.int a1]) (rest := []) B hP hS (c_netAt l E r0 1 a1 (by decide +kernel) (FrW_r0 (by decide +kernel))) lk_RX6_95 (hrecv (ci := 5) B hP (hk_lt (c := 5) (by decide +kernel) (by decide)) (hcc5 _ _ (by decide +kernel)) rfl) rfl rfl hl.1 (Nat.le_of_ble_eq_true rfl) ⟨Nat.le_of_ble_eq_true rfl, Nat.le_of_ble_eq_true rfl⟩ ⟨Nat.le_of_ble_eq_true rfl, Nat.le_of_ble_eq_true rfl⟩ dX6_bad_5) hS (fun r1 ρ2 H locs q3 hP hS => ?_)
  obtain ⟨rfl, rfl⟩ := q3
  refine W.eq (g2 := F0 m 8 ls [.null]) rfl ?_
  refine lv_astore_nN (lv' := [(3, .null), (0, .ref (E.2.1 + 0)), (1, .int a1), (2, .int a2)]) hx hb dX6_bad_8 rfl hl (by decide) rfl (fun ls hl => ?_)
  refine lv_aload_nN hx hb dX6_bad_9 rfl (lv_at hl 0 rfl) ?_
  refine lv_ifnullN (tgt := 23) hx hb dX6_bad_10 (by decide) ?_
  refine lv_iconst (v := (-1)) hx hb dX6_bad_23 (by decide) ?_
  refine lv_goto (tgt := 32) hx hb dX6_bad_24 (by decide) ?_
  exact ret_i B hr hlk hP hS dX6_bad_32 (rfl)

set_option maxHeartbeats 4000000 in
set_option maxRecDepth 100000 in
theorem c_sent (l : Launch) (E : hE) (a1 a2 a3 : Int32) : Met l yX6_sent (.code yX6_sent cX6_sent 5 (some .int) :: gw_all) (rmk 4 160) (cPre E r0 [.ref (E.2.1 + 0), .int a1, .int a2, .int a3]) (cI E (fun r _ => r = (-1))) 0 0 (hA E) := by
  refine ent (own := RX6) (by decide) rfl (Nat.le_of_ble_eq_true rfl) ?_
  intro p e s m below meth c ls B hr hlk hl hP hS
  have hx := B.1.1
  have hb := B.1.2.1
  have hown := B.1.2.2.2.1
  have hts := B.1.2.2.2.2
  have hl : lv_has ls 5 [(0, .ref (E.2.1 + 0)), (1, .int a1), (2, .int a2), (3, .int a3)] := hl
  refine lv_aload_n hx hb dX6_sent_0 rfl (lv_at hl 0 rfl) ?_
  refine get6 B hP (by decide +kernel) 0 (by decide) mw_412 rfl dX6_sent_1 ?_
  refine lv_iload_n hx hb dX6_sent_4 rfl (lv_at hl 1 rfl) ?_
  refine call_q (cVt (k := 1) (av := [.int a1]) (rest := []) B hP hS (c_netAt l E r0 1 a1 (by decide +kernel) (FrW_r0 (by decide +kernel))) lk_RX6_95 (hrecv (ci := 5) B hP (hk_lt (c := 5) (by decide +kernel) (by decide)) (hcc5 _ _ (by decide +kernel)) rfl) rfl rfl hl.1 (Nat.le_of_ble_eq_true rfl) ⟨Nat.le_of_ble_eq_true rfl, Nat.le_of_ble_eq_true rfl⟩ ⟨Nat.le_of_ble_eq_true rfl, Nat.le_of_ble_eq_true rfl⟩ dX6_sent_5) hS (fun r1 ρ2 H locs q3 hP hS => ?_)
  obtain ⟨rfl, rfl⟩ := q3
  refine W.eq (g2 := F0 m 8 ls [.null]) rfl ?_
  refine lv_astoreN (lv' := [(4, .null), (0, .ref (E.2.1 + 0)), (1, .int a1), (2, .int a2), (3, .int a3)]) hx hb dX6_sent_8 hl (by decide) rfl (fun ls hl => ?_)
  refine lv_aloadN hx hb dX6_sent_10 (lv_at hl 0 rfl) ?_
  refine lv_ifnullN (tgt := 25) hx hb dX6_sent_12 (by decide) ?_
  refine lv_iconst (v := (-1)) hx hb dX6_sent_25 (by decide) ?_
  exact ret_i B hr hlk hP hS dX6_sent_26 (rfl)

set_option maxHeartbeats 4000000 in
set_option maxRecDepth 100000 in
theorem c_link (l : Launch) (E : hE) (a1 a2 a3 : Int32) : Met l yX6_link (.code yX6_link cX6_link 5 (some .int) :: gw_all) (rmk 4 160) (cPre E r0 [.ref (E.2.1 + 0), .int a1, .int a2, .int a3]) (cI E (fun r _ => r = (-1))) 0 0 (hA E) := by
  refine ent (own := RX6) (by decide) rfl (Nat.le_of_ble_eq_true rfl) ?_
  intro p e s m below meth c ls B hr hlk hl hP hS
  have hx := B.1.1
  have hb := B.1.2.1
  have hown := B.1.2.2.2.1
  have hts := B.1.2.2.2.2
  have hl : lv_has ls 5 [(0, .ref (E.2.1 + 0)), (1, .int a1), (2, .int a2), (3, .int a3)] := hl
  refine lv_aload_n hx hb dX6_link_0 rfl (lv_at hl 0 rfl) ?_
  refine get6 B hP (by decide +kernel) 0 (by decide) mw_412 rfl dX6_link_1 ?_
  refine lv_iload_n hx hb dX6_link_4 rfl (lv_at hl 1 rfl) ?_
  refine lv_iload_n hx hb dX6_link_5 rfl (lv_at hl 2 rfl) ?_
  refine call_q (cVt (k := 1) (av := [.int a1, .int a2]) (rest := []) B hP hS (c_linkAt l E r0 1 a1 a2 (by decide +kernel) (FrW_r0 (by decide +kernel))) lk_RX6_132 (hrecv (ci := 5) B hP (hk_lt (c := 5) (by decide +kernel) (by decide)) (hcc5 _ _ (by decide +kernel)) rfl) rfl rfl hl.1 (Nat.le_of_ble_eq_true rfl) ⟨Nat.le_of_ble_eq_true rfl, Nat.le_of_ble_eq_true rfl⟩ ⟨Nat.le_of_ble_eq_true rfl, Nat.le_of_ble_eq_true rfl⟩ dX6_link_6) hS (fun r1 ρ2 H locs q3 hP hS => ?_)
  obtain ⟨rfl, rfl⟩ := q3
  refine W.eq (g2 := F0 m 9 ls [.null]) rfl ?_
  refine lv_astoreN (lv' := [(4, .null), (0, .ref (E.2.1 + 0)), (1, .int a1), (2, .int a2), (3, .int a3)]) hx hb dX6_link_9 hl (by decide) rfl (fun ls hl => ?_)
  refine lv_aloadN hx hb dX6_link_11 (lv_at hl 0 rfl) ?_
  refine lv_ifnonnullN hx hb dX6_link_13 ?_
  refine lv_iconst (v := (-1)) hx hb dX6_link_16 (by decide) ?_
  exact ret_i B hr hlk hP hS dX6_link_17 (rfl)

set_option maxHeartbeats 4000000 in
set_option maxRecDepth 100000 in
theorem c_reserved (l : Launch) (E : hE) (a1 a2 a3 : Int32) : Met l yX6_reserved (.code yX6_reserved cX6_reserved 5 (some .int) :: gw_all) (rmk 4 160) (cPre E r0 [.ref (E.2.1 + 0), .int a1, .int a2, .int a3]) (cI E (fun r _ => r = (-1))) 0 0 (hA E) := by
  refine ent (own := RX6) (by decide) rfl (Nat.le_of_ble_eq_true rfl) ?_
  intro p e s m below meth c ls B hr hlk hl hP hS
  have hx := B.1.1
  have hb := B.1.2.1
  have hown := B.1.2.2.2.1
  have hts := B.1.2.2.2.2
  have hl : lv_has ls 5 [(0, .ref (E.2.1 + 0)), (1, .int a1), (2, .int a2), (3, .int a3)] := hl
  refine lv_aload_n hx hb dX6_reserved_0 rfl (lv_at hl 0 rfl) ?_
  refine get6 B hP (by decide +kernel) 0 (by decide) mw_412 rfl dX6_reserved_1 ?_
  refine lv_iload_n hx hb dX6_reserved_4 rfl (lv_at hl 1 rfl) ?_
  refine lv_iload_n hx hb dX6_reserved_5 rfl (lv_at hl 2 rfl) ?_
  refine call_q (cVt (k := 1) (av := [.int a1, .int a2]) (rest := []) B hP hS (c_linkAt l E r0 1 a1 a2 (by decide +kernel) (FrW_r0 (by decide +kernel))) lk_RX6_132 (hrecv (ci := 5) B hP (hk_lt (c := 5) (by decide +kernel) (by decide)) (hcc5 _ _ (by decide +kernel)) rfl) rfl rfl hl.1 (Nat.le_of_ble_eq_true rfl) ⟨Nat.le_of_ble_eq_true rfl, Nat.le_of_ble_eq_true rfl⟩ ⟨Nat.le_of_ble_eq_true rfl, Nat.le_of_ble_eq_true rfl⟩ dX6_reserved_6) hS (fun r1 ρ2 H locs q3 hP hS => ?_)
  obtain ⟨rfl, rfl⟩ := q3
  refine W.eq (g2 := F0 m 9 ls [.null]) rfl ?_
  refine lv_astoreN (lv' := [(4, .null), (0, .ref (E.2.1 + 0)), (1, .int a1), (2, .int a2), (3, .int a3)]) hx hb dX6_reserved_9 hl (by decide) rfl (fun ls hl => ?_)
  refine lv_aloadN hx hb dX6_reserved_11 (lv_at hl 0 rfl) ?_
  refine lv_ifnullN (tgt := 27) hx hb dX6_reserved_13 (by decide) ?_
  refine lv_iconst (v := (-1)) hx hb dX6_reserved_27 (by decide) ?_
  exact ret_i B hr hlk hP hS dX6_reserved_28 (rfl)

set_option maxHeartbeats 4000000 in
set_option maxRecDepth 100000 in
theorem c_odds (l : Launch) (E : hE) (a1 a2 a3 a4 : Int32) : Met l yX6_odds (.code yX6_odds cX6_odds 9 (some .int) :: gw_all) (rmk 4 160) (cPre E r0 [.ref (E.2.1 + 0), .int a1, .int a2, .int a3, .int a4]) (cI E (fun r _ => r = (-1))) 0 0 (hA E) := by
  refine ent (own := RX6) (by decide) rfl (Nat.le_of_ble_eq_true rfl) ?_
  intro p e s m below meth c ls B hr hlk hl hP hS
  have hx := B.1.1
  have hb := B.1.2.1
  have hown := B.1.2.2.2.1
  have hts := B.1.2.2.2.2
  have hl : lv_has ls 9 [(0, .ref (E.2.1 + 0)), (1, .int a1), (2, .int a2), (3, .int a3), (4, .int a4)] := hl
  refine lv_aload_n hx hb dX6_odds_0 rfl (lv_at hl 0 rfl) ?_
  refine get6 B hP (by decide +kernel) 0 (by decide) mw_412 rfl dX6_odds_1 ?_
  refine lv_iload_n hx hb dX6_odds_4 rfl (lv_at hl 1 rfl) ?_
  refine lv_iload_n hx hb dX6_odds_5 rfl (lv_at hl 2 rfl) ?_
  refine call_q (cVt (k := 1) (av := [.int a1, .int a2]) (rest := []) B hP hS (c_linkAt l E r0 1 a1 a2 (by decide +kernel) (FrW_r0 (by decide +kernel))) lk_RX6_132 (hrecv (ci := 5) B hP (hk_lt (c := 5) (by decide +kernel) (by decide)) (hcc5 _ _ (by decide +kernel)) rfl) rfl rfl hl.1 (Nat.le_of_ble_eq_true rfl) ⟨Nat.le_of_ble_eq_true rfl, Nat.le_of_ble_eq_true rfl⟩ ⟨Nat.le_of_ble_eq_true rfl, Nat.le_of_ble_eq_true rfl⟩ dX6_odds_6) hS (fun r1 ρ2 H locs q3 hP hS => ?_)
  obtain ⟨rfl, rfl⟩ := q3
  refine W.eq (g2 := F0 m 9 ls [.null]) rfl ?_
  refine lv_astoreN (lv' := [(5, .null), (0, .ref (E.2.1 + 0)), (1, .int a1), (2, .int a2), (3, .int a3), (4, .int a4)]) hx hb dX6_odds_9 hl (by decide) rfl (fun ls hl => ?_)
  refine lv_aloadN hx hb dX6_odds_11 (lv_at hl 0 rfl) ?_
  refine lv_ifnullN (tgt := 36) hx hb dX6_odds_13 (by decide) ?_
  refine lv_iconst (v := (-1)) hx hb dX6_odds_36 (by decide) ?_
  exact ret_i B hr hlk hP hS dX6_odds_37 (rfl)

set_option maxHeartbeats 4000000 in
set_option maxRecDepth 100000 in
theorem c_clashes (l : Launch) (E : hE) (a1 : Int32) : Met l yX6_clashes (.code yX6_clashes cX6_clashes 4 (some .int) :: gw_all) (rmk 4 160) (cPre E r0 [.ref (E.2.1 + 0), .int a1]) (cI E (fun r _ => r = (-1))) 0 0 (hA E) := by
  refine ent (own := RX6) (by decide) rfl (Nat.le_of_ble_eq_true rfl) ?_
  intro p e s m below meth c ls B hr hlk hl hP hS
  have hx := B.1.1
  have hb := B.1.2.1
  have hown := B.1.2.2.2.1
  have hts := B.1.2.2.2.2
  have hl : lv_has ls 4 [(0, .ref (E.2.1 + 0)), (1, .int a1)] := hl
  refine lv_aload_n hx hb dX6_clashes_0 rfl (lv_at hl 0 rfl) ?_
  refine get6 B hP (by decide +kernel) 0 (by decide) mw_412 rfl dX6_clashes_1 ?_
  refine call_i (cVt (k := 1) (av := []) (rest := []) B hP hS (c_hasBothNets l E r0 1 (by decide +kernel) (FrW_r0 (by decide +kernel))) lk_RX6_259 (hrecv (ci := 5) B hP (hk_lt (c := 5) (by decide +kernel) (by decide)) (hcc5 _ _ (by decide +kernel)) rfl) rfl rfl hl.1 (Nat.le_of_ble_eq_true rfl) ⟨Nat.le_of_ble_eq_true rfl, Nat.le_of_ble_eq_true rfl⟩ ⟨Nat.le_of_ble_eq_true rfl, Nat.le_of_ble_eq_true rfl⟩ dX6_clashes_4) hS (fun r1 ρ2 H locs q3 hP hS => ?_)
  obtain ⟨rfl, rfl⟩ := q3
  refine lv_if_eq (tgt := 21) hx hb dX6_clashes_7 (by decide) (fun _ => ?_) (fun c4 => absurd c4 (by decide))
  refine lv_iconst (v := (-1)) hx hb dX6_clashes_21 (by decide) ?_
  exact ret_i B hr hlk hP hS dX6_clashes_22 (rfl)

set_option maxHeartbeats 4000000 in
set_option maxRecDepth 100000 in
theorem c_bestOffset (l : Launch) (E : hE) (a1 : Int32) : Met l yX6_bestOffset (.code yX6_bestOffset cX6_bestOffset 6 (some .int) :: gw_all) (rmk 4 160) (cPre E r0 [.ref (E.2.1 + 0), .int a1]) (cI E (fun r _ => r = (-1))) 0 0 (hA E) := by
  refine ent (own := RX6) (by decide) rfl (Nat.le_of_ble_eq_true rfl) ?_
  intro p e s m below meth c ls B hr hlk hl hP hS
  have hx := B.1.1
  have hb := B.1.2.1
  have hown := B.1.2.2.2.1
  have hts := B.1.2.2.2.2
  have hl : lv_has ls 6 [(0, .ref (E.2.1 + 0)), (1, .int a1)] := hl
  refine lv_aload_n hx hb dX6_bestOffset_0 rfl (lv_at hl 0 rfl) ?_
  refine get6 B hP (by decide +kernel) 0 (by decide) mw_412 rfl dX6_bestOffset_1 ?_
  refine call_i (cVt (k := 1) (av := []) (rest := []) B hP hS (c_hasBothNets l E r0 1 (by decide +kernel) (FrW_r0 (by decide +kernel))) lk_RX6_259 (hrecv (ci := 5) B hP (hk_lt (c := 5) (by decide +kernel) (by decide)) (hcc5 _ _ (by decide +kernel)) rfl) rfl rfl hl.1 (Nat.le_of_ble_eq_true rfl) ⟨Nat.le_of_ble_eq_true rfl, Nat.le_of_ble_eq_true rfl⟩ ⟨Nat.le_of_ble_eq_true rfl, Nat.le_of_ble_eq_true rfl⟩ dX6_bestOffset_4) hS (fun r1 ρ2 H locs q3 hP hS => ?_)
  obtain ⟨rfl, rfl⟩ := q3
  refine lv_if_eq (tgt := 21) hx hb dX6_bestOffset_7 (by decide) (fun _ => ?_) (fun c4 => absurd c4 (by decide))
  refine lv_iconst (v := (-1)) hx hb dX6_bestOffset_21 (by decide) ?_
  exact ret_i B hr hlk hP hS dX6_bestOffset_22 (rfl)

set_option maxHeartbeats 4000000 in
set_option maxRecDepth 100000 in
theorem c_drain (l : Launch) (E : hE) (a1 a2 : Int32) : Met l yX6_drain (.code yX6_drain cX6_drain 5 (some .int) :: gw_all) (rmk 4 160) (cPre E r0 [.ref (E.2.1 + 0), .int a1, .int a2]) (cI E (fun r _ => r = (-1))) 0 0 (hA E) := by
  refine ent (own := RX6) (by decide) rfl (Nat.le_of_ble_eq_true rfl) ?_
  intro p e s m below meth c ls B hr hlk hl hP hS
  have hx := B.1.1
  have hb := B.1.2.1
  have hown := B.1.2.2.2.1
  have hts := B.1.2.2.2.2
  have hl : lv_has ls 5 [(0, .ref (E.2.1 + 0)), (1, .int a1), (2, .int a2)] := hl
  refine lv_aload_n hx hb dX6_drain_0 rfl (lv_at hl 0 rfl) ?_
  refine get6 B hP (by decide +kernel) 0 (by decide) mw_412 rfl dX6_drain_1 ?_
  refine lv_iload_n hx hb dX6_drain_4 rfl (lv_at hl 1 rfl) ?_
  refine lv_iload_n hx hb dX6_drain_5 rfl (lv_at hl 2 rfl) ?_
  refine call_q (cVt (k := 1) (av := [.int a1, .int a2]) (rest := []) B hP hS (c_linkAt l E r0 1 a1 a2 (by decide +kernel) (FrW_r0 (by decide +kernel))) lk_RX6_132 (hrecv (ci := 5) B hP (hk_lt (c := 5) (by decide +kernel) (by decide)) (hcc5 _ _ (by decide +kernel)) rfl) rfl rfl hl.1 (Nat.le_of_ble_eq_true rfl) ⟨Nat.le_of_ble_eq_true rfl, Nat.le_of_ble_eq_true rfl⟩ ⟨Nat.le_of_ble_eq_true rfl, Nat.le_of_ble_eq_true rfl⟩ dX6_drain_6) hS (fun r1 ρ2 H locs q3 hP hS => ?_)
  obtain ⟨rfl, rfl⟩ := q3
  refine W.eq (g2 := F0 m 9 ls [.null]) rfl ?_
  refine lv_ifnonnullN hx hb dX6_drain_9 ?_
  refine lv_iconst (v := (-1)) hx hb dX6_drain_12 (by decide) ?_
  exact ret_i B hr hlk hP hS dX6_drain_13 (rfl)

set_option maxHeartbeats 4000000 in
set_option maxRecDepth 100000 in
theorem c_ready (l : Launch) (E : hE) (a1 a2 : Int32) : Met l yX6_ready (.code yX6_ready cX6_ready 5 (some .int) :: gw_all) (rmk 4 160) (cPre E r0 [.ref (E.2.1 + 0), .int a1, .int a2]) (cI E (fun r _ => r = (-1))) 0 0 (hA E) := by
  refine ent (own := RX6) (by decide) rfl (Nat.le_of_ble_eq_true rfl) ?_
  intro p e s m below meth c ls B hr hlk hl hP hS
  have hx := B.1.1
  have hb := B.1.2.1
  have hown := B.1.2.2.2.1
  have hts := B.1.2.2.2.2
  have hl : lv_has ls 5 [(0, .ref (E.2.1 + 0)), (1, .int a1), (2, .int a2)] := hl
  refine lv_aload_n hx hb dX6_ready_0 rfl (lv_at hl 0 rfl) ?_
  refine get6 B hP (by decide +kernel) 0 (by decide) mw_412 rfl dX6_ready_1 ?_
  refine lv_iload_n hx hb dX6_ready_4 rfl (lv_at hl 1 rfl) ?_
  refine lv_iload_n hx hb dX6_ready_5 rfl (lv_at hl 2 rfl) ?_
  refine call_q (cVt (k := 1) (av := [.int a1, .int a2]) (rest := []) B hP hS (c_linkAt l E r0 1 a1 a2 (by decide +kernel) (FrW_r0 (by decide +kernel))) lk_RX6_132 (hrecv (ci := 5) B hP (hk_lt (c := 5) (by decide +kernel) (by decide)) (hcc5 _ _ (by decide +kernel)) rfl) rfl rfl hl.1 (Nat.le_of_ble_eq_true rfl) ⟨Nat.le_of_ble_eq_true rfl, Nat.le_of_ble_eq_true rfl⟩ ⟨Nat.le_of_ble_eq_true rfl, Nat.le_of_ble_eq_true rfl⟩ dX6_ready_6) hS (fun r1 ρ2 H locs q3 hP hS => ?_)
  obtain ⟨rfl, rfl⟩ := q3
  refine W.eq (g2 := F0 m 9 ls [.null]) rfl ?_
  refine lv_astore_nN (lv' := [(3, .null), (0, .ref (E.2.1 + 0)), (1, .int a1), (2, .int a2)]) hx hb dX6_ready_9 rfl hl (by decide) rfl (fun ls hl => ?_)
  refine lv_aload_nN hx hb dX6_ready_10 rfl (lv_at hl 0 rfl) ?_
  refine lv_ifnonnullN hx hb dX6_ready_11 ?_
  refine lv_iconst (v := (-1)) hx hb dX6_ready_14 (by decide) ?_
  exact ret_i B hr hlk hP hS dX6_ready_15 (rfl)

set_option maxHeartbeats 4000000 in
set_option maxRecDepth 100000 in
theorem c_bothReady (l : Launch) (E : hE) (a1 a2 a3 a4 : Int32) : Met l yX6_bothReady (.code yX6_bothReady cX6_bothReady 10 (some .int) :: gw_all) (rmk 4 160) (cPre E r0 [.ref (E.2.1 + 0), .int a1, .int a2, .int a3, .int a4]) (cI E (fun r _ => r = (-1))) 0 0 (hA E) := by
  refine ent (own := RX6) (by decide) rfl (Nat.le_of_ble_eq_true rfl) ?_
  intro p e s m below meth c ls B hr hlk hl hP hS
  have hx := B.1.1
  have hb := B.1.2.1
  have hown := B.1.2.2.2.1
  have hts := B.1.2.2.2.2
  have hl : lv_has ls 10 [(0, .ref (E.2.1 + 0)), (1, .int a1), (2, .int a2), (3, .int a3), (4, .int a4)] := hl
  refine lv_aload_n hx hb dX6_bothReady_0 rfl (lv_at hl 0 rfl) ?_
  refine get6 B hP (by decide +kernel) 0 (by decide) mw_412 rfl dX6_bothReady_1 ?_
  refine lv_iload_n hx hb dX6_bothReady_4 rfl (lv_at hl 1 rfl) ?_
  refine lv_iload_n hx hb dX6_bothReady_5 rfl (lv_at hl 2 rfl) ?_
  refine call_q (cVt (k := 1) (av := [.int a1, .int a2]) (rest := []) B hP hS (c_linkAt l E r0 1 a1 a2 (by decide +kernel) (FrW_r0 (by decide +kernel))) lk_RX6_132 (hrecv (ci := 5) B hP (hk_lt (c := 5) (by decide +kernel) (by decide)) (hcc5 _ _ (by decide +kernel)) rfl) rfl rfl hl.1 (Nat.le_of_ble_eq_true rfl) ⟨Nat.le_of_ble_eq_true rfl, Nat.le_of_ble_eq_true rfl⟩ ⟨Nat.le_of_ble_eq_true rfl, Nat.le_of_ble_eq_true rfl⟩ dX6_bothReady_6) hS (fun r1 ρ2 H locs q3 hP hS => ?_)
  obtain ⟨rfl, rfl⟩ := q3
  refine W.eq (g2 := F0 m 9 ls [.null]) rfl ?_
  refine lv_astoreN (lv' := [(5, .null), (0, .ref (E.2.1 + 0)), (1, .int a1), (2, .int a2), (3, .int a3), (4, .int a4)]) hx hb dX6_bothReady_9 hl (by decide) rfl (fun ls hl => ?_)
  refine lv_aload_n hx hb dX6_bothReady_11 rfl (lv_at hl 1 rfl) ?_
  refine get6 B hP (by decide +kernel) 0 (by decide) mw_412 rfl dX6_bothReady_12 ?_
  refine lv_iload_n hx hb dX6_bothReady_15 rfl (lv_at hl 2 rfl) ?_
  refine lv_iload_n hx hb dX6_bothReady_16 rfl (lv_at hl 4 rfl) ?_
  refine call_q (cVt (k := 1) (av := [.int a1, .int a3]) (rest := []) B hP hS (c_linkAt l E r0 1 a1 a3 (by decide +kernel) (FrW_r0 (by decide +kernel))) lk_RX6_132 (hrecv (ci := 5) B hP (hk_lt (c := 5) (by decide +kernel) (by decide)) (hcc5 _ _ (by decide +kernel)) rfl) rfl rfl hl.1 (Nat.le_of_ble_eq_true rfl) ⟨Nat.le_of_ble_eq_true rfl, Nat.le_of_ble_eq_true rfl⟩ ⟨Nat.le_of_ble_eq_true rfl, Nat.le_of_ble_eq_true rfl⟩ dX6_bothReady_17) hS (fun r4 ρ5 H locs q6 hP hS => ?_)
  obtain ⟨rfl, rfl⟩ := q6
  refine W.eq (g2 := F0 m 20 ls [.null]) rfl ?_
  refine lv_astoreN (lv' := [(6, .null), (5, .null), (0, .ref (E.2.1 + 0)), (1, .int a1), (2, .int a2), (3, .int a3), (4, .int a4)]) hx hb dX6_bothReady_20 hl (by decide) rfl (fun ls hl => ?_)
  refine lv_aloadN hx hb dX6_bothReady_22 (lv_at hl 1 rfl) ?_
  refine lv_ifnullN (tgt := 44) hx hb dX6_bothReady_24 (by decide) ?_
  refine lv_iconst (v := (-1)) hx hb dX6_bothReady_44 (by decide) ?_
  exact ret_i B hr hlk hP hS dX6_bothReady_45 (rfl)

set_option maxHeartbeats 4000000 in
set_option maxRecDepth 100000 in
theorem c_ahead (l : Launch) (E : hE) (a1 a2 : Int32) : Met l yX6_ahead (.code yX6_ahead cX6_ahead 4 (some .int) :: gw_all) (rmk 4 160) (cPre E r0 [.ref (E.2.1 + 0), .int a1, .int a2]) (cI E (fun r _ => r = (-1))) 0 0 (hA E) := by
  refine ent (own := RX6) (by decide) rfl (Nat.le_of_ble_eq_true rfl) ?_
  intro p e s m below meth c ls B hr hlk hl hP hS
  have hx := B.1.1
  have hb := B.1.2.1
  have hown := B.1.2.2.2.1
  have hts := B.1.2.2.2.2
  have hl : lv_has ls 4 [(0, .ref (E.2.1 + 0)), (1, .int a1), (2, .int a2)] := hl
  refine lv_aload_n hx hb dX6_ahead_0 rfl (lv_at hl 0 rfl) ?_
  refine get6 B hP (by decide +kernel) 0 (by decide) mw_412 rfl dX6_ahead_1 ?_
  refine lv_iload_n hx hb dX6_ahead_4 rfl (lv_at hl 1 rfl) ?_
  refine call_q (cVt (k := 1) (av := [.int a1]) (rest := []) B hP hS (c_netAt l E r0 1 a1 (by decide +kernel) (FrW_r0 (by decide +kernel))) lk_RX6_95 (hrecv (ci := 5) B hP (hk_lt (c := 5) (by decide +kernel) (by decide)) (hcc5 _ _ (by decide +kernel)) rfl) rfl rfl hl.1 (Nat.le_of_ble_eq_true rfl) ⟨Nat.le_of_ble_eq_true rfl, Nat.le_of_ble_eq_true rfl⟩ ⟨Nat.le_of_ble_eq_true rfl, Nat.le_of_ble_eq_true rfl⟩ dX6_ahead_5) hS (fun r1 ρ2 H locs q3 hP hS => ?_)
  obtain ⟨rfl, rfl⟩ := q3
  refine W.eq (g2 := F0 m 8 ls [.null]) rfl ?_
  refine lv_ifnullN (tgt := 30) hx hb dX6_ahead_8 (by decide) ?_
  refine lv_iconst (v := (-1)) hx hb dX6_ahead_30 (by decide) ?_
  exact ret_i B hr hlk hP hS dX6_ahead_31 (rfl)

set_option maxHeartbeats 4000000 in
set_option maxRecDepth 100000 in
theorem c_together (l : Launch) (E : hE) (a1 a2 a3 : Int32) : Met l yX6_together (.code yX6_together cX6_together 8 (some .int) :: gw_all) (rmk 4 160) (cPre E r0 [.ref (E.2.1 + 0), .int a1, .int a2, .int a3]) (cI E (fun r _ => r = (-1))) 0 0 (hA E) := by
  refine ent (own := RX6) (by decide) rfl (Nat.le_of_ble_eq_true rfl) ?_
  intro p e s m below meth c ls B hr hlk hl hP hS
  have hx := B.1.1
  have hb := B.1.2.1
  have hown := B.1.2.2.2.1
  have hts := B.1.2.2.2.2
  have hl : lv_has ls 8 [(0, .ref (E.2.1 + 0)), (1, .int a1), (2, .int a2), (3, .int a3)] := hl
  refine lv_aload_n hx hb dX6_together_0 rfl (lv_at hl 0 rfl) ?_
  refine get6 B hP (by decide +kernel) 0 (by decide) mw_412 rfl dX6_together_1 ?_
  refine lv_iload_n hx hb dX6_together_4 rfl (lv_at hl 1 rfl) ?_
  refine lv_iload_n hx hb dX6_together_5 rfl (lv_at hl 2 rfl) ?_
  refine call_q (cVt (k := 1) (av := [.int a1, .int a2]) (rest := []) B hP hS (c_linkAt l E r0 1 a1 a2 (by decide +kernel) (FrW_r0 (by decide +kernel))) lk_RX6_132 (hrecv (ci := 5) B hP (hk_lt (c := 5) (by decide +kernel) (by decide)) (hcc5 _ _ (by decide +kernel)) rfl) rfl rfl hl.1 (Nat.le_of_ble_eq_true rfl) ⟨Nat.le_of_ble_eq_true rfl, Nat.le_of_ble_eq_true rfl⟩ ⟨Nat.le_of_ble_eq_true rfl, Nat.le_of_ble_eq_true rfl⟩ dX6_together_6) hS (fun r1 ρ2 H locs q3 hP hS => ?_)
  obtain ⟨rfl, rfl⟩ := q3
  refine W.eq (g2 := F0 m 9 ls [.null]) rfl ?_
  refine lv_astoreN (lv' := [(4, .null), (0, .ref (E.2.1 + 0)), (1, .int a1), (2, .int a2), (3, .int a3)]) hx hb dX6_together_9 hl (by decide) rfl (fun ls hl => ?_)
  refine lv_aload_n hx hb dX6_together_11 rfl (lv_at hl 1 rfl) ?_
  refine get6 B hP (by decide +kernel) 0 (by decide) mw_412 rfl dX6_together_12 ?_
  refine lv_iload_n hx hb dX6_together_15 rfl (lv_at hl 2 rfl) ?_
  refine lv_iload_n hx hb dX6_together_16 rfl (lv_at hl 4 rfl) ?_
  refine call_q (cVt (k := 1) (av := [.int a1, .int a3]) (rest := []) B hP hS (c_linkAt l E r0 1 a1 a3 (by decide +kernel) (FrW_r0 (by decide +kernel))) lk_RX6_132 (hrecv (ci := 5) B hP (hk_lt (c := 5) (by decide +kernel) (by decide)) (hcc5 _ _ (by decide +kernel)) rfl) rfl rfl hl.1 (Nat.le_of_ble_eq_true rfl) ⟨Nat.le_of_ble_eq_true rfl, Nat.le_of_ble_eq_true rfl⟩ ⟨Nat.le_of_ble_eq_true rfl, Nat.le_of_ble_eq_true rfl⟩ dX6_together_17) hS (fun r4 ρ5 H locs q6 hP hS => ?_)
  obtain ⟨rfl, rfl⟩ := q6
  refine W.eq (g2 := F0 m 20 ls [.null]) rfl ?_
  refine lv_astoreN (lv' := [(5, .null), (4, .null), (0, .ref (E.2.1 + 0)), (1, .int a1), (2, .int a2), (3, .int a3)]) hx hb dX6_together_20 hl (by decide) rfl (fun ls hl => ?_)
  refine lv_aloadN hx hb dX6_together_22 (lv_at hl 1 rfl) ?_
  refine lv_ifnullN (tgt := 37) hx hb dX6_together_24 (by decide) ?_
  refine lv_iconst (v := (-1)) hx hb dX6_together_37 (by decide) ?_
  exact ret_i B hr hlk hP hS dX6_together_38 (rfl)

set_option maxHeartbeats 4000000 in
set_option maxRecDepth 100000 in
theorem c_ranked (l : Launch) (E : hE) (a1 a2 : Int32) : Met l yX6_ranked (.code yX6_ranked cX6_ranked 5 (some .int) :: gw_all) (rmk 4 160) (cPre E r0 [.ref (E.2.1 + 0), .int a1, .int a2]) (cI E (fun r _ => r = (-1))) 0 0 (hA E) := by
  refine ent (own := RX6) (by decide) rfl (Nat.le_of_ble_eq_true rfl) ?_
  intro p e s m below meth c ls B hr hlk hl hP hS
  have hx := B.1.1
  have hb := B.1.2.1
  have hown := B.1.2.2.2.1
  have hts := B.1.2.2.2.2
  have hl : lv_has ls 5 [(0, .ref (E.2.1 + 0)), (1, .int a1), (2, .int a2)] := hl
  refine lv_aload_n hx hb dX6_ranked_0 rfl (lv_at hl 0 rfl) ?_
  refine get6 B hP (by decide +kernel) 0 (by decide) mw_412 rfl dX6_ranked_1 ?_
  refine lv_iload_n hx hb dX6_ranked_4 rfl (lv_at hl 1 rfl) ?_
  refine call_q (cVt (k := 1) (av := [.int a1]) (rest := []) B hP hS (c_netAt l E r0 1 a1 (by decide +kernel) (FrW_r0 (by decide +kernel))) lk_RX6_95 (hrecv (ci := 5) B hP (hk_lt (c := 5) (by decide +kernel) (by decide)) (hcc5 _ _ (by decide +kernel)) rfl) rfl rfl hl.1 (Nat.le_of_ble_eq_true rfl) ⟨Nat.le_of_ble_eq_true rfl, Nat.le_of_ble_eq_true rfl⟩ ⟨Nat.le_of_ble_eq_true rfl, Nat.le_of_ble_eq_true rfl⟩ dX6_ranked_5) hS (fun r1 ρ2 H locs q3 hP hS => ?_)
  obtain ⟨rfl, rfl⟩ := q3
  refine W.eq (g2 := F0 m 8 ls [.null]) rfl ?_
  refine lv_astore_nN (lv' := [(3, .null), (0, .ref (E.2.1 + 0)), (1, .int a1), (2, .int a2)]) hx hb dX6_ranked_8 rfl hl (by decide) rfl (fun ls hl => ?_)
  refine lv_aload_nN hx hb dX6_ranked_9 rfl (lv_at hl 0 rfl) ?_
  refine lv_ifnullN (tgt := 23) hx hb dX6_ranked_10 (by decide) ?_
  refine lv_iconst (v := (-1)) hx hb dX6_ranked_23 (by decide) ?_
  exact ret_i B hr hlk hP hS dX6_ranked_24 (rfl)

set_option maxHeartbeats 4000000 in
set_option maxRecDepth 100000 in
theorem c_quiet (l : Launch) (E : hE) (a1 a2 : Int32) : Met l yX6_quiet (.code yX6_quiet cX6_quiet 6 (some .int) :: gw_all) (rmk 4 160) (cPre E r0 [.ref (E.2.1 + 0), .int a1, .int a2]) (cI E (fun r _ => r = (-1))) 0 0 (hA E) := by
  refine ent (own := RX6) (by decide) rfl (Nat.le_of_ble_eq_true rfl) ?_
  intro p e s m below meth c ls B hr hlk hl hP hS
  have hx := B.1.1
  have hb := B.1.2.1
  have hown := B.1.2.2.2.1
  have hts := B.1.2.2.2.2
  have hl : lv_has ls 6 [(0, .ref (E.2.1 + 0)), (1, .int a1), (2, .int a2)] := hl
  refine lv_aload_n hx hb dX6_quiet_0 rfl (lv_at hl 0 rfl) ?_
  refine get6 B hP (by decide +kernel) 0 (by decide) mw_412 rfl dX6_quiet_1 ?_
  refine lv_iload_n hx hb dX6_quiet_4 rfl (lv_at hl 1 rfl) ?_
  refine call_q (cVt (k := 1) (av := [.int a1]) (rest := []) B hP hS (c_netAt l E r0 1 a1 (by decide +kernel) (FrW_r0 (by decide +kernel))) lk_RX6_95 (hrecv (ci := 5) B hP (hk_lt (c := 5) (by decide +kernel) (by decide)) (hcc5 _ _ (by decide +kernel)) rfl) rfl rfl hl.1 (Nat.le_of_ble_eq_true rfl) ⟨Nat.le_of_ble_eq_true rfl, Nat.le_of_ble_eq_true rfl⟩ ⟨Nat.le_of_ble_eq_true rfl, Nat.le_of_ble_eq_true rfl⟩ dX6_quiet_5) hS (fun r1 ρ2 H locs q3 hP hS => ?_)
  obtain ⟨rfl, rfl⟩ := q3
  refine W.eq (g2 := F0 m 8 ls [.null]) rfl ?_
  refine lv_astore_nN (lv' := [(3, .null), (0, .ref (E.2.1 + 0)), (1, .int a1), (2, .int a2)]) hx hb dX6_quiet_8 rfl hl (by decide) rfl (fun ls hl => ?_)
  refine lv_aload_nN hx hb dX6_quiet_9 rfl (lv_at hl 0 rfl) ?_
  refine lv_ifnullN (tgt := 24) hx hb dX6_quiet_10 (by decide) ?_
  refine lv_iconst (v := (-1)) hx hb dX6_quiet_24 (by decide) ?_
  exact ret_i B hr hlk hP hS dX6_quiet_25 (rfl)

set_option maxHeartbeats 4000000 in
set_option maxRecDepth 100000 in
theorem c_ofNet (l : Launch) (E : hE) (a1 a2 : Int32) : Met l yX6_ofNet (.code yX6_ofNet cX6_ofNet 4 (some .int) :: gw_all) (rmk 4 160) (cPre E r0 [.ref (E.2.1 + 0), .int a1, .int a2]) (cI E (fun r _ => r = (-1))) 0 0 (hA E) := by
  refine ent (own := RX6) (by decide) rfl (Nat.le_of_ble_eq_true rfl) ?_
  intro p e s m below meth c ls B hr hlk hl hP hS
  have hx := B.1.1
  have hb := B.1.2.1
  have hown := B.1.2.2.2.1
  have hts := B.1.2.2.2.2
  have hl : lv_has ls 4 [(0, .ref (E.2.1 + 0)), (1, .int a1), (2, .int a2)] := hl
  refine lv_aload_n hx hb dX6_ofNet_0 rfl (lv_at hl 0 rfl) ?_
  refine get6 B hP (by decide +kernel) 0 (by decide) mw_412 rfl dX6_ofNet_1 ?_
  refine lv_iload_n hx hb dX6_ofNet_4 rfl (lv_at hl 1 rfl) ?_
  refine call_q (cVt (k := 1) (av := [.int a1]) (rest := []) B hP hS (c_netAt l E r0 1 a1 (by decide +kernel) (FrW_r0 (by decide +kernel))) lk_RX6_95 (hrecv (ci := 5) B hP (hk_lt (c := 5) (by decide +kernel) (by decide)) (hcc5 _ _ (by decide +kernel)) rfl) rfl rfl hl.1 (Nat.le_of_ble_eq_true rfl) ⟨Nat.le_of_ble_eq_true rfl, Nat.le_of_ble_eq_true rfl⟩ ⟨Nat.le_of_ble_eq_true rfl, Nat.le_of_ble_eq_true rfl⟩ dX6_ofNet_5) hS (fun r1 ρ2 H locs q3 hP hS => ?_)
  obtain ⟨rfl, rfl⟩ := q3
  refine W.eq (g2 := F0 m 8 ls [.null]) rfl ?_
  refine lv_astore_nN (lv' := [(3, .null), (0, .ref (E.2.1 + 0)), (1, .int a1), (2, .int a2)]) hx hb dX6_ofNet_8 rfl hl (by decide) rfl (fun ls hl => ?_)
  refine lv_aload_nN hx hb dX6_ofNet_9 rfl (lv_at hl 0 rfl) ?_
  refine lv_ifnonnullN hx hb dX6_ofNet_10 ?_
  refine lv_iconst (v := (-1)) hx hb dX6_ofNet_13 (by decide) ?_
  exact ret_i B hr hlk hP hS dX6_ofNet_14 (rfl)

set_option maxHeartbeats 4000000 in
set_option maxRecDepth 100000 in
theorem c_hash (l : Launch) (E : hE) (a1 a2 a3 : Int32) : Met l yX6_hash (.code yX6_hash cX6_hash 5 (some .int) :: gw_all) (rmk 4 160) (cPre E r0 [.ref (E.2.1 + 0), .int a1, .int a2, .int a3]) (cI E (fun r _ => r = 0)) 0 0 (hA E) := by
  refine ent (own := RX6) (by decide) rfl (Nat.le_of_ble_eq_true rfl) ?_
  intro p e s m below meth c ls B hr hlk hl hP hS
  have hx := B.1.1
  have hb := B.1.2.1
  have hown := B.1.2.2.2.1
  have hts := B.1.2.2.2.2
  have hl : lv_has ls 5 [(0, .ref (E.2.1 + 0)), (1, .int a1), (2, .int a2), (3, .int a3)] := hl
  refine lv_aload_n hx hb dX6_hash_0 rfl (lv_at hl 0 rfl) ?_
  refine get6 B hP (by decide +kernel) 0 (by decide) mw_412 rfl dX6_hash_1 ?_
  refine lv_iload_n hx hb dX6_hash_4 rfl (lv_at hl 1 rfl) ?_
  refine lv_iload_n hx hb dX6_hash_5 rfl (lv_at hl 2 rfl) ?_
  refine call_q (cVt (k := 1) (av := [.int a1, .int a2]) (rest := []) B hP hS (c_linkAt l E r0 1 a1 a2 (by decide +kernel) (FrW_r0 (by decide +kernel))) lk_RX6_132 (hrecv (ci := 5) B hP (hk_lt (c := 5) (by decide +kernel) (by decide)) (hcc5 _ _ (by decide +kernel)) rfl) rfl rfl hl.1 (Nat.le_of_ble_eq_true rfl) ⟨Nat.le_of_ble_eq_true rfl, Nat.le_of_ble_eq_true rfl⟩ ⟨Nat.le_of_ble_eq_true rfl, Nat.le_of_ble_eq_true rfl⟩ dX6_hash_6) hS (fun r1 ρ2 H locs q3 hP hS => ?_)
  obtain ⟨rfl, rfl⟩ := q3
  refine W.eq (g2 := F0 m 9 ls [.null]) rfl ?_
  refine lv_astoreN (lv' := [(4, .null), (0, .ref (E.2.1 + 0)), (1, .int a1), (2, .int a2), (3, .int a3)]) hx hb dX6_hash_9 hl (by decide) rfl (fun ls hl => ?_)
  refine lv_aloadN hx hb dX6_hash_11 (lv_at hl 0 rfl) ?_
  refine lv_ifnonnullN hx hb dX6_hash_13 ?_
  refine lv_iconst (v := 0) hx hb dX6_hash_16 (by decide) ?_
  exact ret_i B hr hlk hP hS dX6_hash_17 (rfl)

set_option maxHeartbeats 4000000 in
set_option maxRecDepth 100000 in
theorem c_isThere (l : Launch) (E : hE) (a1 a2 a3 : Int32) : Met l yX6_isThere (.code yX6_isThere cX6_isThere 5 (some .int) :: gw_all) (rmk 4 160) (cPre E r0 [.ref (E.2.1 + 0), .int a1, .int a2, .int a3]) (cI E (fun r _ => r = (-1))) 0 0 (hA E) := by
  refine ent (own := RX6) (by decide) rfl (Nat.le_of_ble_eq_true rfl) ?_
  intro p e s m below meth c ls B hr hlk hl hP hS
  have hx := B.1.1
  have hb := B.1.2.1
  have hown := B.1.2.2.2.1
  have hts := B.1.2.2.2.2
  have hl : lv_has ls 5 [(0, .ref (E.2.1 + 0)), (1, .int a1), (2, .int a2), (3, .int a3)] := hl
  refine lv_iload_n hx hb dX6_isThere_0 rfl (lv_at hl 2 rfl) ?_
  refine lv_iconst (v := 0) hx hb dX6_isThere_1 (by decide) ?_
  refine lv_iconst (v := 1) hx hb dX6_isThere_2 (by decide) ?_
  refine call_i (cS (av := [.int a2, .int 0, .int 1]) (rest := []) B hP hS (c_isWithin l E r0 a2 0 1 0 1 (by decide) (by decide)) lk_RX6_54 rfl rfl hl.1 (Nat.le_of_ble_eq_true rfl) ⟨Nat.le_of_ble_eq_true rfl, Nat.le_of_ble_eq_true rfl⟩ ⟨Nat.le_of_ble_eq_true rfl, Nat.le_of_ble_eq_true rfl⟩ dX6_isThere_3) hS (fun r1 ρ2 H locs q3 hP hS => ?_)
  obtain ⟨rfl, q3⟩ := q3
  rcases q3 with ⟨rfl, q3⟩ | ⟨rfl, q3⟩
  · skip
    refine lv_if_eq (tgt := 23) hx hb dX6_isThere_6 (by decide) (fun c4 => absurd c4 (by decide)) (fun _ => ?_)
    refine lv_iload_n hx hb dX6_isThere_9 rfl (lv_at hl 3 rfl) ?_
    refine lv_iconst (v := 0) hx hb dX6_isThere_10 (by decide) ?_
    refine lv_ldc (v := 199999) hx hb hown (hts _ mw_859) dX6_isThere_11 ?_
    refine call_i (cS (av := [.int a3, .int 0, .int 199999]) (rest := []) B hP hS (c_isWithin l E r0 a3 0 199999 0 199999 (by decide) (by decide)) lk_RX6_54 rfl rfl hl.1 (Nat.le_of_ble_eq_true rfl) ⟨Nat.le_of_ble_eq_true rfl, Nat.le_of_ble_eq_true rfl⟩ ⟨Nat.le_of_ble_eq_true rfl, Nat.le_of_ble_eq_true rfl⟩ dX6_isThere_13) hS (fun r5 ρ6 H locs q7 hP hS => ?_)
    obtain ⟨rfl, q7⟩ := q7
    rcases q7 with ⟨rfl, q7⟩ | ⟨rfl, q7⟩
    · skip
      refine lv_if_eq (tgt := 23) hx hb dX6_isThere_16 (by decide) (fun c8 => absurd c8 (by decide)) (fun _ => ?_)
      refine lv_iconst (v := 1) hx hb dX6_isThere_19 (by decide) ?_
      refine lv_goto (tgt := 24) hx hb dX6_isThere_20 (by decide) ?_
      refine lv_istore (lv' := [(4, .int 1), (0, .ref (E.2.1 + 0)), (1, .int a1), (2, .int a2), (3, .int a3)]) hx hb dX6_isThere_24 hl (by decide) rfl (fun ls hl => ?_)
      refine lv_iload hx hb dX6_isThere_26 (lv_at hl 0 rfl) ?_
      refine lv_if_eq (tgt := 42) hx hb dX6_isThere_28 (by decide) (fun c9 => absurd c9 (by decide)) (fun _ => ?_)
      refine lv_aload_n hx hb dX6_isThere_31 rfl (lv_at hl 1 rfl) ?_
      refine get6 B hP (by decide +kernel) 0 (by decide) mw_412 rfl dX6_isThere_32 ?_
      refine lv_iload_n hx hb dX6_isThere_35 rfl (lv_at hl 2 rfl) ?_
      refine call_i (cVt (k := 1) (av := [.int a1]) (rest := []) B hP hS (c_hasRadio l E r0 1 a1 (by decide +kernel) (show r0 1 4 = 0 by decide +kernel)) lk_RX6_76 (hrecv (ci := 5) B hP (hk_lt (c := 5) (by decide +kernel) (by decide)) (hcc5 _ _ (by decide +kernel)) rfl) rfl rfl hl.1 (Nat.le_of_ble_eq_true rfl) ⟨Nat.le_of_ble_eq_true rfl, Nat.le_of_ble_eq_true rfl⟩ ⟨Nat.le_of_ble_eq_true rfl, Nat.le_of_ble_eq_true rfl⟩ dX6_isThere_36) hS (fun r10 ρ11 H locs q12 hP hS => ?_)
      obtain ⟨rfl, rfl⟩ := q12
      refine lv_if_ne (tgt := 44) hx hb dX6_isThere_39 (by decide) (fun c13 => absurd c13 (by decide)) (fun _ => ?_)
      refine lv_iconst (v := (-1)) hx hb dX6_isThere_42 (by decide) ?_
      exact ret_i B hr hlk hP hS dX6_isThere_43 (rfl)
    · skip
      refine lv_if_eq (tgt := 23) hx hb dX6_isThere_16 (by decide) (fun _ => ?_) (fun c14 => absurd c14 (by decide))
      refine lv_iconst (v := 0) hx hb dX6_isThere_23 (by decide) ?_
      refine lv_istore (lv' := [(4, .int 0), (0, .ref (E.2.1 + 0)), (1, .int a1), (2, .int a2), (3, .int a3)]) hx hb dX6_isThere_24 hl (by decide) rfl (fun ls hl => ?_)
      refine lv_iload hx hb dX6_isThere_26 (lv_at hl 0 rfl) ?_
      refine lv_if_eq (tgt := 42) hx hb dX6_isThere_28 (by decide) (fun _ => ?_) (fun c15 => absurd c15 (by decide))
      refine lv_iconst (v := (-1)) hx hb dX6_isThere_42 (by decide) ?_
      exact ret_i B hr hlk hP hS dX6_isThere_43 (rfl)
  · skip
    refine lv_if_eq (tgt := 23) hx hb dX6_isThere_6 (by decide) (fun _ => ?_) (fun c16 => absurd c16 (by decide))
    refine lv_iconst (v := 0) hx hb dX6_isThere_23 (by decide) ?_
    refine lv_istore (lv' := [(4, .int 0), (0, .ref (E.2.1 + 0)), (1, .int a1), (2, .int a2), (3, .int a3)]) hx hb dX6_isThere_24 hl (by decide) rfl (fun ls hl => ?_)
    refine lv_iload hx hb dX6_isThere_26 (lv_at hl 0 rfl) ?_
    refine lv_if_eq (tgt := 42) hx hb dX6_isThere_28 (by decide) (fun _ => ?_) (fun c17 => absurd c17 (by decide))
    refine lv_iconst (v := (-1)) hx hb dX6_isThere_42 (by decide) ?_
    exact ret_i B hr hlk hP hS dX6_isThere_43 (rfl)

set_option maxHeartbeats 4000000 in
set_option maxRecDepth 100000 in
theorem c_status (l : Launch) (E : hE)  : Met l yX6_status (.code yX6_status cX6_status 1 (some .int) :: gw_all) (rmk 4 160) (cPre E r0 [.ref (E.2.1 + 0)]) (cI E (fun r _ => r = 0)) 0 0 (hA E) := by
  refine ent (own := RX6) (by decide) rfl (Nat.le_of_ble_eq_true rfl) ?_
  intro p e s m below meth c ls B hr hlk hl hP hS
  have hx := B.1.1
  have hb := B.1.2.1
  have hown := B.1.2.2.2.1
  have hts := B.1.2.2.2.2
  have hl : lv_has ls 1 [(0, .ref (E.2.1 + 0))] := hl
  refine lv_aload_n hx hb dX6_status_0 rfl (lv_at hl 0 rfl) ?_
  refine get6 B hP (by decide +kernel) 9 (by decide) mw_421 (v := .int 0) (show some (Value.int (r0 0 9)) = some (Value.int 0) from congrArg (fun z => some (Value.int z)) (show r0 0 9 = 0 by decide +kernel)) dX6_status_1 ?_
  exact ret_i B hr hlk hP hS dX6_status_4 (rfl)

theorem lk_RX6_382 : LkV RX6 382 RX5 yX5_heardOfAll cX5_heardOfAll 4 (some .int) 0 := ⟨⟨mw_1013, mw_1014, mw_1015, mw_53, mw_1016⟩, by decide +kernel⟩
set_option maxHeartbeats 4000000 in
set_option maxRecDepth 100000 in
theorem c_count (l : Launch) (E : hE) (a1 : Int32) : Met l yX6_count (.code yX6_count cX6_count 2 (some .int) :: gw_all) (rmk 4 160) (cPre E r0 [.ref (E.2.1 + 0), .int a1]) (cI E (fun r _ => r = cnt a1.toInt)) 0 0 (hA E) := by
  refine ent (own := RX6) (by decide) rfl (Nat.le_of_ble_eq_true rfl) ?_
  intro p e s m below meth c ls B hr hlk hl hP hS
  have hx := B.1.1
  have hb := B.1.2.1
  have hown := B.1.2.2.2.1
  have hts := B.1.2.2.2.2
  have hl : lv_has ls 2 [(0, .ref (E.2.1 + 0)), (1, .int a1)] := hl
  refine lv_iload_n hx hb dX6_count_0 rfl (lv_at hl 1 rfl) ?_
  rcases sw_split (x := a1) (lo := 0) (hi := 19) (by decide) with c1 | c1
  · skip
    refine lv_tableOut (tgt := 270) hx hb dX6_count_1 c1 (by decide) ?_
    refine lv_iconst (v := (-1)) hx hb dX6_count_270 (by decide) ?_
    exact ret_i B hr hlk hP hS dX6_count_271 (cnt_out c1)
  · skip
    rcases sw_step (x := a1) (n := 0) (n' := 1) (by decide) c1 with c1 | c1
    · skip
      refine lv_tableIn (off := 95) (tgt := 96) hx hb dX6_count_1 (by rw [c1]; decide) (by rw [c1]; decide) (by rw [c1]; decide) (by decide) ?_
      refine lv_aload_n hx hb dX6_count_96 rfl (lv_at hl 0 rfl) ?_
      refine get6 B hP (by decide +kernel) 0 (by decide) mw_412 rfl dX6_count_97 ?_
      refine get5 B hP (by decide +kernel) 5 (by decide) mw_382 (v := .int 0) (show some (Value.int (r0 1 5)) = some (Value.int 0) from congrArg (fun z => some (Value.int z)) (show r0 1 5 = 0 by decide +kernel)) dX6_count_100 ?_
      exact ret_i B hr hlk hP hS dX6_count_103 ((by rw [c1]; decide))
    · skip
      rcases sw_step (x := a1) (n := 1) (n' := 2) (by decide) c1 with c1 | c1
      · skip
        refine lv_tableIn (off := 103) (tgt := 104) hx hb dX6_count_1 (by rw [c1]; decide) (by rw [c1]; decide) (by rw [c1]; decide) (by decide) ?_
        refine lv_aload_n hx hb dX6_count_104 rfl (lv_at hl 0 rfl) ?_
        refine get6 B hP (by decide +kernel) 0 (by decide) mw_412 rfl dX6_count_105 ?_
        refine get5 B hP (by decide +kernel) 4 (by decide) mw_380 (v := .int 0) (show some (Value.int (r0 1 4)) = some (Value.int 0) from congrArg (fun z => some (Value.int z)) (show r0 1 4 = 0 by decide +kernel)) dX6_count_108 ?_
        exact ret_i B hr hlk hP hS dX6_count_111 ((by rw [c1]; decide))
      · skip
        rcases sw_step (x := a1) (n := 2) (n' := 3) (by decide) c1 with c1 | c1
        · skip
          refine lv_tableIn (off := 111) (tgt := 112) hx hb dX6_count_1 (by rw [c1]; decide) (by rw [c1]; decide) (by rw [c1]; decide) (by decide) ?_
          refine lv_aload_n hx hb dX6_count_112 rfl (lv_at hl 0 rfl) ?_
          refine get6 B hP (by decide +kernel) 0 (by decide) mw_412 rfl dX6_count_113 ?_
          refine get5 B hP (by decide +kernel) 6 (by decide) mw_384 (v := .int 1) (show some (Value.int (r0 1 6)) = some (Value.int 1) from congrArg (fun z => some (Value.int z)) (show r0 1 6 = 1 by decide +kernel)) dX6_count_116 ?_
          exact ret_i B hr hlk hP hS dX6_count_119 ((by rw [c1]; decide))
        · skip
          rcases sw_step (x := a1) (n := 3) (n' := 4) (by decide) c1 with c1 | c1
          · skip
            refine lv_tableIn (off := 119) (tgt := 120) hx hb dX6_count_1 (by rw [c1]; decide) (by rw [c1]; decide) (by rw [c1]; decide) (by decide) ?_
            refine lv_aload_n hx hb dX6_count_120 rfl (lv_at hl 0 rfl) ?_
            refine get6 B hP (by decide +kernel) 0 (by decide) mw_412 rfl dX6_count_121 ?_
            refine get5 B hP (by decide +kernel) 7 (by decide) mw_386 (v := .int 16) (show some (Value.int (r0 1 7)) = some (Value.int 16) from congrArg (fun z => some (Value.int z)) (show r0 1 7 = 16 by decide +kernel)) dX6_count_124 ?_
            exact ret_i B hr hlk hP hS dX6_count_127 ((by rw [c1]; decide))
          · skip
            rcases sw_step (x := a1) (n := 4) (n' := 5) (by decide) c1 with c1 | c1
            · skip
              refine lv_tableIn (off := 127) (tgt := 128) hx hb dX6_count_1 (by rw [c1]; decide) (by rw [c1]; decide) (by rw [c1]; decide) (by decide) ?_
              refine lv_aload_n hx hb dX6_count_128 rfl (lv_at hl 0 rfl) ?_
              refine get6 B hP (by decide +kernel) 0 (by decide) mw_412 rfl dX6_count_129 ?_
              refine call_i (cVt (k := 1) (av := []) (rest := []) B hP hS (c_heardOfAll l E r0 1 (by decide +kernel) (FrW_r0 (by decide +kernel))) lk_RX6_382 (hrecv (ci := 5) B hP (hk_lt (c := 5) (by decide +kernel) (by decide)) (hcc5 _ _ (by decide +kernel)) rfl) rfl rfl hl.1 (Nat.le_of_ble_eq_true rfl) ⟨Nat.le_of_ble_eq_true rfl, Nat.le_of_ble_eq_true rfl⟩ ⟨Nat.le_of_ble_eq_true rfl, Nat.le_of_ble_eq_true rfl⟩ dX6_count_132) hS (fun r2 ρ3 H locs q4 hP hS => ?_)
              obtain ⟨rfl, rfl⟩ := q4
              exact ret_i B hr hlk hP hS dX6_count_135 ((by rw [c1]; decide))
            · skip
              rcases sw_step (x := a1) (n := 5) (n' := 6) (by decide) c1 with c1 | c1
              · skip
                refine lv_tableIn (off := 135) (tgt := 136) hx hb dX6_count_1 (by rw [c1]; decide) (by rw [c1]; decide) (by rw [c1]; decide) (by decide) ?_
                refine lv_aload_n hx hb dX6_count_136 rfl (lv_at hl 0 rfl) ?_
                refine get6 B hP (by decide +kernel) 8 (by decide) mw_420 rfl dX6_count_137 ?_
                refine lv_iconst (v := 0) hx hb dX6_count_140 (by decide) ?_
                refine aldf (n := 5) B hP (by decide +kernel) (by decide +kernel) rfl (by decide) (by decide) (show r0 183 0 = 0 by decide +kernel) dX6_count_141 ?_
                exact ret_i B hr hlk hP hS dX6_count_142 ((by rw [c1]; decide))
              · skip
                rcases sw_step (x := a1) (n := 6) (n' := 7) (by decide) c1 with c1 | c1
                · skip
                  refine lv_tableIn (off := 142) (tgt := 143) hx hb dX6_count_1 (by rw [c1]; decide) (by rw [c1]; decide) (by rw [c1]; decide) (by decide) ?_
                  refine lv_aload_n hx hb dX6_count_143 rfl (lv_at hl 0 rfl) ?_
                  refine get6 B hP (by decide +kernel) 8 (by decide) mw_420 rfl dX6_count_144 ?_
                  refine lv_iconst (v := 1) hx hb dX6_count_147 (by decide) ?_
                  refine aldf (n := 5) B hP (by decide +kernel) (by decide +kernel) rfl (by decide) (by decide) (show r0 183 1 = 0 by decide +kernel) dX6_count_148 ?_
                  exact ret_i B hr hlk hP hS dX6_count_149 ((by rw [c1]; decide))
                · skip
                  rcases sw_step (x := a1) (n := 7) (n' := 8) (by decide) c1 with c1 | c1
                  · skip
                    refine lv_tableIn (off := 149) (tgt := 150) hx hb dX6_count_1 (by rw [c1]; decide) (by rw [c1]; decide) (by rw [c1]; decide) (by decide) ?_
                    refine lv_aload_n hx hb dX6_count_150 rfl (lv_at hl 0 rfl) ?_
                    refine get6 B hP (by decide +kernel) 8 (by decide) mw_420 rfl dX6_count_151 ?_
                    refine lv_iconst (v := 3) hx hb dX6_count_154 (by decide) ?_
                    refine aldf (n := 5) B hP (by decide +kernel) (by decide +kernel) rfl (by decide) (by decide) (show r0 183 3 = 0 by decide +kernel) dX6_count_155 ?_
                    exact ret_i B hr hlk hP hS dX6_count_156 ((by rw [c1]; decide))
                  · skip
                    rcases sw_step (x := a1) (n := 8) (n' := 9) (by decide) c1 with c1 | c1
                    · skip
                      refine lv_tableIn (off := 156) (tgt := 157) hx hb dX6_count_1 (by rw [c1]; decide) (by rw [c1]; decide) (by rw [c1]; decide) (by decide) ?_
                      refine lv_aload_n hx hb dX6_count_157 rfl (lv_at hl 0 rfl) ?_
                      refine get6 B hP (by decide +kernel) 8 (by decide) mw_420 rfl dX6_count_158 ?_
                      refine lv_iconst (v := 4) hx hb dX6_count_161 (by decide) ?_
                      refine aldf (n := 5) B hP (by decide +kernel) (by decide +kernel) rfl (by decide) (by decide) (show r0 183 4 = 0 by decide +kernel) dX6_count_162 ?_
                      exact ret_i B hr hlk hP hS dX6_count_163 ((by rw [c1]; decide))
                    · skip
                      rcases sw_step (x := a1) (n := 9) (n' := 10) (by decide) c1 with c1 | c1
                      · skip
                        refine lv_tableIn (off := 163) (tgt := 164) hx hb dX6_count_1 (by rw [c1]; decide) (by rw [c1]; decide) (by rw [c1]; decide) (by decide) ?_
                        refine lv_aload_n hx hb dX6_count_164 rfl (lv_at hl 0 rfl) ?_
                        refine get6 B hP (by decide +kernel) 7 (by decide) mw_419 (v := .int 0) (show some (Value.int (r0 0 7)) = some (Value.int 0) from congrArg (fun z => some (Value.int z)) (show r0 0 7 = 0 by decide +kernel)) dX6_count_165 ?_
                        exact ret_i B hr hlk hP hS dX6_count_168 ((by rw [c1]; decide))
                      · skip
                        rcases sw_step (x := a1) (n := 10) (n' := 11) (by decide) c1 with c1 | c1
                        · skip
                          refine lv_tableIn (off := 168) (tgt := 169) hx hb dX6_count_1 (by rw [c1]; decide) (by rw [c1]; decide) (by rw [c1]; decide) (by decide) ?_
                          refine lv_aload_n hx hb dX6_count_169 rfl (lv_at hl 0 rfl) ?_
                          refine get6 B hP (by decide +kernel) 0 (by decide) mw_412 rfl dX6_count_170 ?_
                          refine get5 B hP (by decide +kernel) 2 (by decide) mw_376 rfl dX6_count_173 ?_
                          refine lv_iconst (v := 0) hx hb dX6_count_176 (by decide) ?_
                          refine aldf (n := 9) B hP (by decide +kernel) (by decide +kernel) rfl (by decide) (by decide) (show r0 4 0 = 0 by decide +kernel) dX6_count_177 ?_
                          exact ret_i B hr hlk hP hS dX6_count_178 ((by rw [c1]; decide))
                        · skip
                          rcases sw_step (x := a1) (n := 11) (n' := 12) (by decide) c1 with c1 | c1
                          · skip
                            refine lv_tableIn (off := 178) (tgt := 179) hx hb dX6_count_1 (by rw [c1]; decide) (by rw [c1]; decide) (by rw [c1]; decide) (by decide) ?_
                            refine lv_aload_n hx hb dX6_count_179 rfl (lv_at hl 0 rfl) ?_
                            refine get6 B hP (by decide +kernel) 0 (by decide) mw_412 rfl dX6_count_180 ?_
                            refine get5 B hP (by decide +kernel) 2 (by decide) mw_376 rfl dX6_count_183 ?_
                            refine lv_iconst (v := 1) hx hb dX6_count_186 (by decide) ?_
                            refine aldf (n := 9) B hP (by decide +kernel) (by decide +kernel) rfl (by decide) (by decide) (show r0 4 1 = 0 by decide +kernel) dX6_count_187 ?_
                            exact ret_i B hr hlk hP hS dX6_count_188 ((by rw [c1]; decide))
                          · skip
                            rcases sw_step (x := a1) (n := 12) (n' := 13) (by decide) c1 with c1 | c1
                            · skip
                              refine lv_tableIn (off := 188) (tgt := 189) hx hb dX6_count_1 (by rw [c1]; decide) (by rw [c1]; decide) (by rw [c1]; decide) (by decide) ?_
                              refine lv_aload_n hx hb dX6_count_189 rfl (lv_at hl 0 rfl) ?_
                              refine get6 B hP (by decide +kernel) 0 (by decide) mw_412 rfl dX6_count_190 ?_
                              refine get5 B hP (by decide +kernel) 2 (by decide) mw_376 rfl dX6_count_193 ?_
                              refine lv_iconst (v := 2) hx hb dX6_count_196 (by decide) ?_
                              refine aldf (n := 9) B hP (by decide +kernel) (by decide +kernel) rfl (by decide) (by decide) (show r0 4 2 = 0 by decide +kernel) dX6_count_197 ?_
                              exact ret_i B hr hlk hP hS dX6_count_198 ((by rw [c1]; decide))
                            · skip
                              rcases sw_step (x := a1) (n := 13) (n' := 14) (by decide) c1 with c1 | c1
                              · skip
                                refine lv_tableIn (off := 198) (tgt := 199) hx hb dX6_count_1 (by rw [c1]; decide) (by rw [c1]; decide) (by rw [c1]; decide) (by decide) ?_
                                refine lv_aload_n hx hb dX6_count_199 rfl (lv_at hl 0 rfl) ?_
                                refine get6 B hP (by decide +kernel) 0 (by decide) mw_412 rfl dX6_count_200 ?_
                                refine get5 B hP (by decide +kernel) 2 (by decide) mw_376 rfl dX6_count_203 ?_
                                refine lv_iconst (v := 3) hx hb dX6_count_206 (by decide) ?_
                                refine aldf (n := 9) B hP (by decide +kernel) (by decide +kernel) rfl (by decide) (by decide) (show r0 4 3 = 0 by decide +kernel) dX6_count_207 ?_
                                exact ret_i B hr hlk hP hS dX6_count_208 ((by rw [c1]; decide))
                              · skip
                                rcases sw_step (x := a1) (n := 14) (n' := 15) (by decide) c1 with c1 | c1
                                · skip
                                  refine lv_tableIn (off := 208) (tgt := 209) hx hb dX6_count_1 (by rw [c1]; decide) (by rw [c1]; decide) (by rw [c1]; decide) (by decide) ?_
                                  refine lv_aload_n hx hb dX6_count_209 rfl (lv_at hl 0 rfl) ?_
                                  refine get6 B hP (by decide +kernel) 0 (by decide) mw_412 rfl dX6_count_210 ?_
                                  refine get5 B hP (by decide +kernel) 2 (by decide) mw_376 rfl dX6_count_213 ?_
                                  refine lv_iconst (v := 4) hx hb dX6_count_216 (by decide) ?_
                                  refine aldf (n := 9) B hP (by decide +kernel) (by decide +kernel) rfl (by decide) (by decide) (show r0 4 4 = 0 by decide +kernel) dX6_count_217 ?_
                                  exact ret_i B hr hlk hP hS dX6_count_218 ((by rw [c1]; decide))
                                · skip
                                  rcases sw_step (x := a1) (n := 15) (n' := 16) (by decide) c1 with c1 | c1
                                  · skip
                                    refine lv_tableIn (off := 218) (tgt := 219) hx hb dX6_count_1 (by rw [c1]; decide) (by rw [c1]; decide) (by rw [c1]; decide) (by decide) ?_
                                    refine lv_aload_n hx hb dX6_count_219 rfl (lv_at hl 0 rfl) ?_
                                    refine get6 B hP (by decide +kernel) 0 (by decide) mw_412 rfl dX6_count_220 ?_
                                    refine get5 B hP (by decide +kernel) 2 (by decide) mw_376 rfl dX6_count_223 ?_
                                    refine lv_iconst (v := 5) hx hb dX6_count_226 (by decide) ?_
                                    refine aldf (n := 9) B hP (by decide +kernel) (by decide +kernel) rfl (by decide) (by decide) (show r0 4 5 = 0 by decide +kernel) dX6_count_227 ?_
                                    exact ret_i B hr hlk hP hS dX6_count_228 ((by rw [c1]; decide))
                                  · skip
                                    rcases sw_step (x := a1) (n := 16) (n' := 17) (by decide) c1 with c1 | c1
                                    · skip
                                      refine lv_tableIn (off := 228) (tgt := 229) hx hb dX6_count_1 (by rw [c1]; decide) (by rw [c1]; decide) (by rw [c1]; decide) (by decide) ?_
                                      refine lv_aload_n hx hb dX6_count_229 rfl (lv_at hl 0 rfl) ?_
                                      refine get6 B hP (by decide +kernel) 0 (by decide) mw_412 rfl dX6_count_230 ?_
                                      refine get5 B hP (by decide +kernel) 2 (by decide) mw_376 rfl dX6_count_233 ?_
                                      refine lv_bipush (v := 6) hx hb dX6_count_236 (by decide) ?_
                                      refine aldf (n := 9) B hP (by decide +kernel) (by decide +kernel) rfl (by decide) (by decide) (show r0 4 6 = 0 by decide +kernel) dX6_count_238 ?_
                                      exact ret_i B hr hlk hP hS dX6_count_239 ((by rw [c1]; decide))
                                    · skip
                                      rcases sw_step (x := a1) (n := 17) (n' := 18) (by decide) c1 with c1 | c1
                                      · skip
                                        refine lv_tableIn (off := 239) (tgt := 240) hx hb dX6_count_1 (by rw [c1]; decide) (by rw [c1]; decide) (by rw [c1]; decide) (by decide) ?_
                                        refine lv_aload_n hx hb dX6_count_240 rfl (lv_at hl 0 rfl) ?_
                                        refine get6 B hP (by decide +kernel) 0 (by decide) mw_412 rfl dX6_count_241 ?_
                                        refine get5 B hP (by decide +kernel) 2 (by decide) mw_376 rfl dX6_count_244 ?_
                                        refine lv_bipush (v := 7) hx hb dX6_count_247 (by decide) ?_
                                        refine aldf (n := 9) B hP (by decide +kernel) (by decide +kernel) rfl (by decide) (by decide) (show r0 4 7 = 0 by decide +kernel) dX6_count_249 ?_
                                        exact ret_i B hr hlk hP hS dX6_count_250 ((by rw [c1]; decide))
                                      · skip
                                        rcases sw_step (x := a1) (n := 18) (n' := 19) (by decide) c1 with c1 | c1
                                        · skip
                                          refine lv_tableIn (off := 250) (tgt := 251) hx hb dX6_count_1 (by rw [c1]; decide) (by rw [c1]; decide) (by rw [c1]; decide) (by decide) ?_
                                          refine lv_aload_n hx hb dX6_count_251 rfl (lv_at hl 0 rfl) ?_
                                          refine get6 B hP (by decide +kernel) 0 (by decide) mw_412 rfl dX6_count_252 ?_
                                          refine get5 B hP (by decide +kernel) 8 (by decide) mw_388 (v := .int 2) (show some (Value.int (r0 1 8)) = some (Value.int 2) from congrArg (fun z => some (Value.int z)) (show r0 1 8 = 2 by decide +kernel)) dX6_count_255 ?_
                                          exact ret_i B hr hlk hP hS dX6_count_258 ((by rw [c1]; decide))
                                        · skip
                                          have c1 := sw_last (n := 19) c1
                                          refine lv_tableIn (off := 258) (tgt := 259) hx hb dX6_count_1 (by rw [c1]; decide) (by rw [c1]; decide) (by rw [c1]; decide) (by decide) ?_
                                          refine lv_aload_n hx hb dX6_count_259 rfl (lv_at hl 0 rfl) ?_
                                          refine get6 B hP (by decide +kernel) 0 (by decide) mw_412 rfl dX6_count_260 ?_
                                          refine get5 B hP (by decide +kernel) 2 (by decide) mw_376 rfl dX6_count_263 ?_
                                          refine lv_bipush (v := 8) hx hb dX6_count_266 (by decide) ?_
                                          refine aldf (n := 9) B hP (by decide +kernel) (by decide +kernel) rfl (by decide) (by decide) (show r0 4 8 = 0 by decide +kernel) dX6_count_268 ?_
                                          exact ret_i B hr hlk hP hS dX6_count_269 ((by rw [c1]; decide))

set_option maxHeartbeats 4000000 in
set_option maxRecDepth 100000 in
theorem c_paperWith (l : Launch) (E : hE) (ρ : Nat → Nat → Int32) (a : Int32) (hB : BS ρ) : Met l yX6_paperWith (.code yX6_paperWith cX6_paperWith 2 (some (.object "HopNet$World")) :: gw_all) (rmk 3 120) (cPre E ρ [.ref (E.2.1 + 0), .int a]) (cQ E (fun r ρ1 => r = some (E.2.1 + 90) ∧ BS ρ1)) 0 0 (hA E) := by
  refine ent (own := RX6) (by decide) rfl (Nat.le_of_ble_eq_true rfl) ?_
  intro p e s m below meth c ls B hr hlk hl hP hS
  have hx := B.1.1
  have hb := B.1.2.1
  have hown := B.1.2.2.2.1
  have hts := B.1.2.2.2.2
  have hl : lv_has ls 2 [(0, .ref (E.2.1 + 0)), (1, .int a)] := hl
  refine lv_aload_n hx hb dX6_paperWith_0 rfl (lv_at hl 0 rfl) ?_
  refine get6 B hP (by decide +kernel) 1 (by decide) mw_413 rfl dX6_paperWith_1 ?_
  refine lv_aload_n hx hb dX6_paperWith_4 rfl (lv_at hl 0 rfl) ?_
  refine get6 B hP (by decide +kernel) 0 (by decide) mw_412 rfl dX6_paperWith_5 ?_
  refine call_v (cVt (k := 90) (av := [.ref (E.2.1 + 1)]) (rest := []) B hP hS (c_World_copyFrom l E ρ 90 1 (by decide +kernel) (by decide +kernel) (by decide) (fun r h0 h52 h10 j => by rw [hB (90 + r) (by omega), hB (1 + r) (by omega)]; exact congrFun (r0_ag (by decide +kernel) (by decide +kernel) h52 h10) j) ⟨by rw [hB _ (by decide)]; decide +kernel, by rw [hB _ (by decide)]; decide +kernel⟩) lk_RX6_219 (hrecv (ci := 5) B hP (hk_lt (c := 5) (by decide +kernel) (by decide)) (hcc5 _ _ (by decide +kernel)) rfl) rfl rfl hl.1 (Nat.le_of_ble_eq_true rfl) ⟨Nat.le_of_ble_eq_true rfl, Nat.le_of_ble_eq_true rfl⟩ ⟨Nat.le_of_ble_eq_true rfl, Nat.le_of_ble_eq_true rfl⟩ dX6_paperWith_8) hS (fun ρ2 H locs q3 hP hS => ?_)
  refine lv_aload_n hx hb dX6_paperWith_11 rfl (lv_at hl 0 rfl) ?_
  refine get6 B hP (by decide +kernel) 1 (by decide) mw_413 rfl dX6_paperWith_12 ?_
  refine lv_iload_n hx hb dX6_paperWith_15 rfl (lv_at hl 1 rfl) ?_
  refine put5 B hP hS (by decide +kernel) 7 (by decide) mw_386 rfl rfl rfl (fs5_7 E 90 _ _) dX6_paperWith_16 (fun H locs hP hS => ?_)
  obtain ⟨ρ4, e5⟩ : ∃ z, z = up ρ2 90 7 a := ⟨_, rfl⟩
  rw [← e5] at hP
  refine lv_aload_n hx hb dX6_paperWith_19 rfl (lv_at hl 0 rfl) ?_
  refine get6 B hP (by decide +kernel) 1 (by decide) mw_413 rfl dX6_paperWith_20 ?_
  exact ret_q (some (E.2.1 + 90)) B hr hlk hP hS dX6_paperWith_23 (⟨rfl, fun k hk => by rw [e5, up_ne _ _ _ hk, q3, cpw_ne hk]; exact hB k hk⟩)

theorem lk_RX6_342 : LkV RX6 342 RX6 yX6_paperWith cX6_paperWith 2 (some (.object "HopNet$World")) 1 := ⟨⟨mw_959, mw_961, mw_8, mw_52, mw_962⟩, by decide +kernel⟩
theorem lk_RX6_346 : LkV RX6 346 RX5 yX5_framesMissed cX5_framesMissed 4 (some .int) 0 := ⟨⟨mw_963, mw_964, mw_965, mw_53, mw_966⟩, by decide +kernel⟩
theorem lk_RX6_349 : LkV RX6 349 RX5 yX5_linksOfOtherMap cX5_linksOfOtherMap 4 (some .int) 0 := ⟨⟨mw_967, mw_968, mw_969, mw_53, mw_970⟩, by decide +kernel⟩
set_option maxHeartbeats 4000000 in
set_option maxRecDepth 100000 in
theorem c_would (l : Launch) (E : hE) (a1 a2 a3 : Int32) : Met l yX6_would (.code yX6_would cX6_would 6 (some .int) :: gw_all) (rmk 4 160) (cPre E r0 [.ref (E.2.1 + 0), .int a1, .int a2, .int a3]) (cI E (fun r _ => (((iR a1 0 32 ∧ ev a1) ∧ iR a2 1 200 ∧ iR a3 0 2) ∧ r = 0) ∨ (¬ ((iR a1 0 32 ∧ ev a1) ∧ iR a2 1 200 ∧ iR a3 0 2) ∧ r = -1))) 0 0 (hA E) := by
  refine ent (own := RX6) (by decide) rfl (Nat.le_of_ble_eq_true rfl) ?_
  intro p e s m below meth c ls B hr hlk hl hP hS
  have hx := B.1.1
  have hb := B.1.2.1
  have hown := B.1.2.2.2.1
  have hts := B.1.2.2.2.2
  have hl : lv_has ls 6 [(0, .ref (E.2.1 + 0)), (1, .int a1), (2, .int a2), (3, .int a3)] := hl
  refine lv_iconst (v := 1) hx hb dX6_would_0 (by decide) ?_
  refine lv_iload_n hx hb dX6_would_1 rfl (lv_at hl 1 rfl) ?_
  refine call_i (cS (av := [.int 1, .int a1]) (rest := []) B hP hS (c_isTerm l E r0 1 a1) lk_RX6_119 rfl rfl hl.1 (Nat.le_of_ble_eq_true rfl) ⟨Nat.le_of_ble_eq_true rfl, Nat.le_of_ble_eq_true rfl⟩ ⟨Nat.le_of_ble_eq_true rfl, Nat.le_of_ble_eq_true rfl⟩ dX6_would_2) hS (fun r1 ρ2 H locs q3 hP hS => ?_)
  obtain ⟨rfl, q3⟩ := q3
  rcases q3 with ⟨rfl, q3⟩ | ⟨rfl, q3⟩
  · skip
    refine lv_if_eq (tgt := 32) hx hb dX6_would_5 (by decide) (fun c4 => absurd c4 (by decide)) (fun _ => ?_)
    refine lv_iload_n hx hb dX6_would_8 rfl (lv_at hl 2 rfl) ?_
    refine lv_iconst (v := 1) hx hb dX6_would_9 (by decide) ?_
    refine lv_sipush (v := 200) hx hb dX6_would_10 (by decide) ?_
    refine call_i (cS (av := [.int a2, .int 1, .int 200]) (rest := []) B hP hS (c_isWithin l E r0 a2 1 200 1 200 (by decide) (by decide)) lk_RX6_54 rfl rfl hl.1 (Nat.le_of_ble_eq_true rfl) ⟨Nat.le_of_ble_eq_true rfl, Nat.le_of_ble_eq_true rfl⟩ ⟨Nat.le_of_ble_eq_true rfl, Nat.le_of_ble_eq_true rfl⟩ dX6_would_13) hS (fun r5 ρ6 H locs q7 hP hS => ?_)
    obtain ⟨rfl, q7⟩ := q7
    rcases q7 with ⟨rfl, q7⟩ | ⟨rfl, q7⟩
    · skip
      have hn := q7
      obtain ⟨N, hN, rfl⟩ := iR_nat hn (by decide) (by decide)
      refine lv_if_eq (tgt := 32) hx hb dX6_would_16 (by decide) (fun c8 => absurd c8 (by decide)) (fun _ => ?_)
      refine lv_iload_n hx hb dX6_would_19 rfl (lv_at hl 3 rfl) ?_
      refine lv_iconst (v := 0) hx hb dX6_would_20 (by decide) ?_
      refine lv_iconst (v := 2) hx hb dX6_would_21 (by decide) ?_
      refine call_i (cS (av := [.int a3, .int 0, .int 2]) (rest := []) B hP hS (c_isWithin l E r0 a3 0 2 0 2 (by decide) (by decide)) lk_RX6_54 rfl rfl hl.1 (Nat.le_of_ble_eq_true rfl) ⟨Nat.le_of_ble_eq_true rfl, Nat.le_of_ble_eq_true rfl⟩ ⟨Nat.le_of_ble_eq_true rfl, Nat.le_of_ble_eq_true rfl⟩ dX6_would_22) hS (fun r9 ρ10 H locs q11 hP hS => ?_)
      obtain ⟨rfl, q11⟩ := q11
      rcases q11 with ⟨rfl, q11⟩ | ⟨rfl, q11⟩
      · skip
        refine lv_if_eq (tgt := 32) hx hb dX6_would_25 (by decide) (fun c12 => absurd c12 (by decide)) (fun _ => ?_)
        refine lv_iconst (v := 1) hx hb dX6_would_28 (by decide) ?_
        refine lv_goto (tgt := 33) hx hb dX6_would_29 (by decide) ?_
        refine lv_istore (lv' := [(4, .int 1), (0, .ref (E.2.1 + 0)), (1, .int a1), (2, .int (nI N)), (3, .int a3)]) hx hb dX6_would_33 hl (by decide) rfl (fun ls hl => ?_)
        refine lv_iload hx hb dX6_would_35 (lv_at hl 0 rfl) ?_
        refine lv_if_eq (tgt := 48) hx hb dX6_would_37 (by decide) (fun c13 => absurd c13 (by decide)) (fun _ => ?_)
        refine lv_aload_n hx hb dX6_would_40 rfl (lv_at hl 1 rfl) ?_
        refine lv_iload_n hx hb dX6_would_41 rfl (lv_at hl 3 rfl) ?_
        refine call_i (cVt (k := 0) (av := [.int (nI N)]) (rest := []) B hP hS (c_hasTimeFor l E r0 (nI N) (show r0 1 5 = 0 by decide +kernel) hn) lk_RX6_213 (hrecv (ci := 6) B hP (hk_lt (c := 6) (by decide +kernel) (by decide)) (hcc6 _ _ (by decide +kernel)) rfl) rfl rfl hl.1 (Nat.le_of_ble_eq_true rfl) ⟨Nat.le_of_ble_eq_true rfl, Nat.le_of_ble_eq_true rfl⟩ ⟨Nat.le_of_ble_eq_true rfl, Nat.le_of_ble_eq_true rfl⟩ dX6_would_42) hS (fun r14 ρ15 H locs q16 hP hS => ?_)
        obtain ⟨rfl, rfl⟩ := q16
        refine lv_if_ne (tgt := 50) hx hb dX6_would_45 (by decide) (fun _ => ?_) (fun c17 => absurd c17 (by decide))
        refine lv_aload_n hx hb dX6_would_50 rfl (lv_at hl 1 rfl) ?_
        refine lv_iload_n hx hb dX6_would_51 rfl (lv_at hl 2 rfl) ?_
        refine call_q (cVt (k := 0) (av := [.int a1]) (rest := []) B hP hS (c_paperWith l E r0 a1 BS_r0) lk_RX6_342 (hrecv (ci := 6) B hP (hk_lt (c := 6) (by decide +kernel) (by decide)) (hcc6 _ _ (by decide +kernel)) rfl) rfl rfl hl.1 (Nat.le_of_ble_eq_true rfl) ⟨Nat.le_of_ble_eq_true rfl, Nat.le_of_ble_eq_true rfl⟩ ⟨Nat.le_of_ble_eq_true rfl, Nat.le_of_ble_eq_true rfl⟩ dX6_would_52) hS (fun r18 ρ19 H locs q20 hP hS => ?_)
        obtain ⟨rfl, q20⟩ := q20
        refine W.eq (g2 := F0 m 55 ls [.ref (E.2.1 + 90)]) rfl ?_
        refine lv_iload_n hx hb dX6_would_55 rfl (lv_at hl 3 rfl) ?_
        refine call_i (cVt (k := 90) (av := [.int (nI N)]) (rest := []) B hP hS (c_heardInTurns l E ρ19 90 N (by decide +kernel) (q20).F90 (by omega)) lk_RX6_216 (hrecv (ci := 5) B hP (hk_lt (c := 5) (by decide +kernel) (by decide)) (hcc5 _ _ (by decide +kernel)) rfl) rfl rfl hl.1 (Nat.le_of_ble_eq_true rfl) ⟨Nat.le_of_ble_eq_true rfl, Nat.le_of_ble_eq_true rfl⟩ ⟨Nat.le_of_ble_eq_true rfl, Nat.le_of_ble_eq_true rfl⟩ dX6_would_56) hS (fun r21 ρ22 H locs q23 hP hS => ?_)
        obtain ⟨rfl, q23⟩ := q23
        have bq23 : BS ρ22 := fun k hk => (q23 k hk).trans (q20 k hk)
        refine lv_istore (lv' := [(5, .int 0), (4, .int 1), (0, .ref (E.2.1 + 0)), (1, .int a1), (2, .int (nI N)), (3, .int a3)]) hx hb dX6_would_59 hl (by decide) rfl (fun ls hl => ?_)
        refine lv_iload_n hx hb dX6_would_61 rfl (lv_at hl 5 rfl) ?_
        rcases Classical.em (a3.toInt = 0) with c24 | c24
        · skip
          refine lv_lookup (off := 26) (tgt := 88) hx hb dX6_would_62 (by decide) (by rw [c24]; rfl) (by decide) ?_
          refine lv_iload hx hb dX6_would_88 (lv_at hl 0 rfl) ?_
          exact ret_i B hr hlk hP hS dX6_would_90 (Or.inl ⟨⟨tm1.mp q3, hn, q11⟩, rfl⟩)
        · skip
          rcases Classical.em (a3.toInt = 1) with c25 | c25
          · skip
            refine lv_lookup (off := 29) (tgt := 91) hx hb dX6_would_62 (by decide) (by rw [c25]; rfl) (by decide) ?_
            refine lv_aload_n hx hb dX6_would_91 rfl (lv_at hl 2 rfl) ?_
            refine get6 B hP (by decide +kernel) 1 (by decide) mw_413 rfl dX6_would_92 ?_
            refine call_i (cVt (k := 90) (av := []) (rest := []) B hP hS (c_framesMissed l E ρ22 90 (by decide +kernel) (bq23).F90) lk_RX6_346 (hrecv (ci := 5) B hP (hk_lt (c := 5) (by decide +kernel) (by decide)) (hcc5 _ _ (by decide +kernel)) rfl) rfl rfl hl.1 (Nat.le_of_ble_eq_true rfl) ⟨Nat.le_of_ble_eq_true rfl, Nat.le_of_ble_eq_true rfl⟩ ⟨Nat.le_of_ble_eq_true rfl, Nat.le_of_ble_eq_true rfl⟩ dX6_would_95) hS (fun r26 ρ27 H locs q28 hP hS => ?_)
            obtain ⟨rfl, rfl⟩ := q28
            refine lv_aload_n hx hb dX6_would_98 rfl (lv_at hl 2 rfl) ?_
            refine get6 B hP (by decide +kernel) 0 (by decide) mw_412 rfl dX6_would_99 ?_
            refine call_i (cVt (k := 1) (av := []) (rest := [.int 0]) B hP hS (c_framesMissed l E ρ22 1 (by decide +kernel) (bq23).F1) lk_RX6_346 (hrecv (ci := 5) B hP (hk_lt (c := 5) (by decide +kernel) (by decide)) (hcc5 _ _ (by decide +kernel)) rfl) rfl rfl hl.1 (Nat.le_of_ble_eq_true rfl) ⟨Nat.le_of_ble_eq_true rfl, Nat.le_of_ble_eq_true rfl⟩ ⟨Nat.le_of_ble_eq_true rfl, Nat.le_of_ble_eq_true rfl⟩ dX6_would_102) hS (fun r29 ρ30 H locs q31 hP hS => ?_)
            obtain ⟨rfl, rfl⟩ := q31
            refine lv_isub hx hb dX6_would_105 ?_
            refine lv_topi (fun z32 ez32 => ?_)
            obtain rfl : z32 = 0 := ez32.trans (by decide)
            exact ret_i B hr hlk hP hS dX6_would_106 (Or.inl ⟨⟨tm1.mp q3, hn, q11⟩, rfl⟩)
          · skip
            refine lv_lookup (off := 45) (tgt := 107) hx hb dX6_would_62 (by decide) (by simp only [Op.lookupswitch.offset]; rw [if_neg (fun h => c24 h.symm), if_neg (fun h => c25 h.symm)]) (by decide) ?_
            refine lv_aload_n hx hb dX6_would_107 rfl (lv_at hl 2 rfl) ?_
            refine get6 B hP (by decide +kernel) 1 (by decide) mw_413 rfl dX6_would_108 ?_
            refine call_i (cVt (k := 90) (av := []) (rest := []) B hP hS (c_otherMap l E ρ22 90 (by decide +kernel) (bq23).F90) lk_RX6_349 (hrecv (ci := 5) B hP (hk_lt (c := 5) (by decide +kernel) (by decide)) (hcc5 _ _ (by decide +kernel)) rfl) rfl rfl hl.1 (Nat.le_of_ble_eq_true rfl) ⟨Nat.le_of_ble_eq_true rfl, Nat.le_of_ble_eq_true rfl⟩ ⟨Nat.le_of_ble_eq_true rfl, Nat.le_of_ble_eq_true rfl⟩ dX6_would_111) hS (fun r33 ρ34 H locs q35 hP hS => ?_)
            obtain ⟨rfl, rfl⟩ := q35
            exact ret_i B hr hlk hP hS dX6_would_114 (Or.inl ⟨⟨tm1.mp q3, hn, q11⟩, rfl⟩)
      · skip
        refine lv_if_eq (tgt := 32) hx hb dX6_would_25 (by decide) (fun _ => ?_) (fun c36 => absurd c36 (by decide))
        refine lv_iconst (v := 0) hx hb dX6_would_32 (by decide) ?_
        refine lv_istore (lv' := [(4, .int 0), (0, .ref (E.2.1 + 0)), (1, .int a1), (2, .int (nI N)), (3, .int a3)]) hx hb dX6_would_33 hl (by decide) rfl (fun ls hl => ?_)
        refine lv_iload hx hb dX6_would_35 (lv_at hl 0 rfl) ?_
        refine lv_if_eq (tgt := 48) hx hb dX6_would_37 (by decide) (fun _ => ?_) (fun c37 => absurd c37 (by decide))
        refine lv_iconst (v := (-1)) hx hb dX6_would_48 (by decide) ?_
        exact ret_i B hr hlk hP hS dX6_would_49 (Or.inr ⟨fun z => q11 z.2.2, rfl⟩)
    · skip
      refine lv_if_eq (tgt := 32) hx hb dX6_would_16 (by decide) (fun _ => ?_) (fun c38 => absurd c38 (by decide))
      refine lv_iconst (v := 0) hx hb dX6_would_32 (by decide) ?_
      refine lv_istore (lv' := [(4, .int 0), (0, .ref (E.2.1 + 0)), (1, .int a1), (2, .int a2), (3, .int a3)]) hx hb dX6_would_33 hl (by decide) rfl (fun ls hl => ?_)
      refine lv_iload hx hb dX6_would_35 (lv_at hl 0 rfl) ?_
      refine lv_if_eq (tgt := 48) hx hb dX6_would_37 (by decide) (fun _ => ?_) (fun c39 => absurd c39 (by decide))
      refine lv_iconst (v := (-1)) hx hb dX6_would_48 (by decide) ?_
      exact ret_i B hr hlk hP hS dX6_would_49 (Or.inr ⟨fun z => q7 z.2.1, rfl⟩)
  · skip
    refine lv_if_eq (tgt := 32) hx hb dX6_would_5 (by decide) (fun _ => ?_) (fun c40 => absurd c40 (by decide))
    refine lv_iconst (v := 0) hx hb dX6_would_32 (by decide) ?_
    refine lv_istore (lv' := [(4, .int 0), (0, .ref (E.2.1 + 0)), (1, .int a1), (2, .int a2), (3, .int a3)]) hx hb dX6_would_33 hl (by decide) rfl (fun ls hl => ?_)
    refine lv_iload hx hb dX6_would_35 (lv_at hl 0 rfl) ?_
    refine lv_if_eq (tgt := 48) hx hb dX6_would_37 (by decide) (fun _ => ?_) (fun c41 => absurd c41 (by decide))
    refine lv_iconst (v := (-1)) hx hb dX6_would_48 (by decide) ?_
    exact ret_i B hr hlk hP hS dX6_would_49 (Or.inr ⟨fun z => q3 (tm1.mpr z.1), rfl⟩)

set_option maxHeartbeats 4000000 in
set_option maxRecDepth 100000 in
theorem c_bestShare (l : Launch) (E : hE) (a1 : Int32) : Met l yX6_bestShare (.code yX6_bestShare cX6_bestShare 6 (some .int) :: gw_all) (rmk 4 160) (cPre E r0 [.ref (E.2.1 + 0), .int a1]) (cI E (fun r _ => ((iR a1 1 32) ∧ r = 0) ∨ (¬ (iR a1 1 32) ∧ r = -1))) 0 0 (hA E) := by
  refine ent (own := RX6) (by decide) rfl (Nat.le_of_ble_eq_true rfl) ?_
  intro p e s m below meth c ls B hr hlk hl hP hS
  have hx := B.1.1
  have hb := B.1.2.1
  have hown := B.1.2.2.2.1
  have hts := B.1.2.2.2.2
  have hl : lv_has ls 6 [(0, .ref (E.2.1 + 0)), (1, .int a1)] := hl
  refine lv_iload_n hx hb dX6_bestShare_0 rfl (lv_at hl 1 rfl) ?_
  refine lv_iconst (v := 1) hx hb dX6_bestShare_1 (by decide) ?_
  refine lv_bipush (v := 32) hx hb dX6_bestShare_2 (by decide) ?_
  refine call_i (cS (av := [.int a1, .int 1, .int 32]) (rest := []) B hP hS (c_isWithin l E r0 a1 1 32 1 32 (by decide) (by decide)) lk_RX6_54 rfl rfl hl.1 (Nat.le_of_ble_eq_true rfl) ⟨Nat.le_of_ble_eq_true rfl, Nat.le_of_ble_eq_true rfl⟩ ⟨Nat.le_of_ble_eq_true rfl, Nat.le_of_ble_eq_true rfl⟩ dX6_bestShare_4) hS (fun r1 ρ2 H locs q3 hP hS => ?_)
  obtain ⟨rfl, q3⟩ := q3
  rcases q3 with ⟨rfl, q3⟩ | ⟨rfl, q3⟩
  · skip
    have hn := q3
    obtain ⟨N, hN, rfl⟩ := iR_nat hn (by decide) (by decide)
    refine lv_if_eq (tgt := 18) hx hb dX6_bestShare_7 (by decide) (fun c4 => absurd c4 (by decide)) (fun _ => ?_)
    refine lv_aload_n hx hb dX6_bestShare_10 rfl (lv_at hl 0 rfl) ?_
    refine lv_iload_n hx hb dX6_bestShare_11 rfl (lv_at hl 1 rfl) ?_
    refine call_i (cVt (k := 0) (av := [.int (nI N)]) (rest := []) B hP hS (c_hasTimeFor l E r0 (nI N) (show r0 1 5 = 0 by decide +kernel) ⟨hn.1, by have := hn.2; omega⟩) lk_RX6_213 (hrecv (ci := 6) B hP (hk_lt (c := 6) (by decide +kernel) (by decide)) (hcc6 _ _ (by decide +kernel)) rfl) rfl rfl hl.1 (Nat.le_of_ble_eq_true rfl) ⟨Nat.le_of_ble_eq_true rfl, Nat.le_of_ble_eq_true rfl⟩ ⟨Nat.le_of_ble_eq_true rfl, Nat.le_of_ble_eq_true rfl⟩ dX6_bestShare_12) hS (fun r5 ρ6 H locs q7 hP hS => ?_)
    obtain ⟨rfl, rfl⟩ := q7
    refine lv_if_ne (tgt := 20) hx hb dX6_bestShare_15 (by decide) (fun _ => ?_) (fun c8 => absurd c8 (by decide))
    refine lv_iconst (v := 0) hx hb dX6_bestShare_20 (by decide) ?_
    refine lv_istore_n (lv' := [(2, .int 0), (0, .ref (E.2.1 + 0)), (1, .int (nI N))]) hx hb dX6_bestShare_21 rfl hl (by decide) rfl (fun ls hl => ?_)
    refine lv_iconst (v := (-1)) hx hb dX6_bestShare_22 (by decide) ?_
    refine lv_istore_n (lv' := [(3, .int (-1)), (2, .int 0), (0, .ref (E.2.1 + 0)), (1, .int (nI N))]) hx hb dX6_bestShare_23 rfl hl (by decide) rfl (fun ls hl => ?_)
    refine lv_iconst (v := 0) hx hb dX6_bestShare_24 (by decide) ?_
    refine lv_istore (lv' := [(4, .int 0), (3, .int (-1)), (2, .int 0), (0, .ref (E.2.1 + 0)), (1, .int (nI N))]) hx hb dX6_bestShare_25 hl (by decide) rfl (fun ls hl => ?_)
    refine lv_iload hx hb dX6_bestShare_27 (lv_at hl 0 rfl) ?_
    refine lv_bipush (v := 32) hx hb dX6_bestShare_29 (by decide) ?_
    refine lv_icmp_gt (tgt := 64) hx hb dX6_bestShare_31 (by decide) (fun c9 => absurd c9 (by decide)) (fun _ => ?_)
    refine lv_aload_n hx hb dX6_bestShare_34 rfl (lv_at hl 3 rfl) ?_
    refine lv_iload hx hb dX6_bestShare_35 (lv_at hl 0 rfl) ?_
    refine call_q (cVt (k := 0) (av := [.int 0]) (rest := []) B hP hS (c_paperWith l E r0 0 BS_r0) lk_RX6_342 (hrecv (ci := 6) B hP (hk_lt (c := 6) (by decide +kernel) (by decide)) (hcc6 _ _ (by decide +kernel)) rfl) rfl rfl hl.1 (Nat.le_of_ble_eq_true rfl) ⟨Nat.le_of_ble_eq_true rfl, Nat.le_of_ble_eq_true rfl⟩ ⟨Nat.le_of_ble_eq_true rfl, Nat.le_of_ble_eq_true rfl⟩ dX6_bestShare_37) hS (fun r10 ρ11 H locs q12 hP hS => ?_)
    obtain ⟨rfl, q12⟩ := q12
    refine W.eq (g2 := F0 m 40 ls [.ref (E.2.1 + 90)]) rfl ?_
    refine lv_iload_n hx hb dX6_bestShare_40 rfl (lv_at hl 4 rfl) ?_
    refine call_i (cVt (k := 90) (av := [.int (nI N)]) (rest := []) B hP hS (c_heardInTurns l E ρ11 90 N (by decide +kernel) (q12).F90 (by omega)) lk_RX6_216 (hrecv (ci := 5) B hP (hk_lt (c := 5) (by decide +kernel) (by decide)) (hcc5 _ _ (by decide +kernel)) rfl) rfl rfl hl.1 (Nat.le_of_ble_eq_true rfl) ⟨Nat.le_of_ble_eq_true rfl, Nat.le_of_ble_eq_true rfl⟩ ⟨Nat.le_of_ble_eq_true rfl, Nat.le_of_ble_eq_true rfl⟩ dX6_bestShare_41) hS (fun r13 ρ14 H locs q15 hP hS => ?_)
    obtain ⟨rfl, q15⟩ := q15
    have bq15 : BS ρ14 := fun k hk => (q15 k hk).trans (q12 k hk)
    refine lv_istore (lv' := [(5, .int 0), (4, .int 0), (3, .int (-1)), (2, .int 0), (0, .ref (E.2.1 + 0)), (1, .int (nI N))]) hx hb dX6_bestShare_44 hl (by decide) rfl (fun ls hl => ?_)
    refine lv_iload hx hb dX6_bestShare_46 (lv_at hl 0 rfl) ?_
    refine lv_iload_n hx hb dX6_bestShare_48 rfl (lv_at hl 2 rfl) ?_
    refine lv_icmp_le (tgt := 58) hx hb dX6_bestShare_49 (by decide) (fun c16 => absurd c16 (by decide)) (fun _ => ?_)
    refine lv_iload hx hb dX6_bestShare_52 (lv_at hl 0 rfl) ?_
    refine lv_istore_n (lv' := [(3, .int 0), (5, .int 0), (4, .int 0), (2, .int 0), (0, .ref (E.2.1 + 0)), (1, .int (nI N))]) hx hb dX6_bestShare_54 rfl hl (by decide) rfl (fun ls hl => ?_)
    refine lv_iload hx hb dX6_bestShare_55 (lv_at hl 2 rfl) ?_
    refine lv_istore_n (lv' := [(2, .int 0), (3, .int 0), (5, .int 0), (4, .int 0), (0, .ref (E.2.1 + 0)), (1, .int (nI N))]) hx hb dX6_bestShare_57 rfl hl (by decide) rfl (fun ls hl => ?_)
    refine lv_iinc (v := 2) (lv' := [(4, .int 2), (2, .int 0), (3, .int 0), (5, .int 0), (0, .ref (E.2.1 + 0)), (1, .int (nI N))]) hx hb dX6_bestShare_58 hl (k := 3) rfl (by decide) (by decide) rfl (fun ls hl => ?_)
    refine lv_goto (tgt := 27) hx hb dX6_bestShare_61 (by decide) ?_
    refine lv_iload hx hb dX6_bestShare_27 (lv_at hl 0 rfl) ?_
    refine lv_bipush (v := 32) hx hb dX6_bestShare_29 (by decide) ?_
    refine lv_icmp_gt (tgt := 64) hx hb dX6_bestShare_31 (by decide) (fun c17 => absurd c17 (by decide)) (fun _ => ?_)
    refine lv_aload_n hx hb dX6_bestShare_34 rfl (lv_at hl 4 rfl) ?_
    refine lv_iload hx hb dX6_bestShare_35 (lv_at hl 0 rfl) ?_
    refine call_q (cVt (k := 0) (av := [.int 2]) (rest := []) B hP hS (c_paperWith l E ρ14 2 bq15) lk_RX6_342 (hrecv (ci := 6) B hP (hk_lt (c := 6) (by decide +kernel) (by decide)) (hcc6 _ _ (by decide +kernel)) rfl) rfl rfl hl.1 (Nat.le_of_ble_eq_true rfl) ⟨Nat.le_of_ble_eq_true rfl, Nat.le_of_ble_eq_true rfl⟩ ⟨Nat.le_of_ble_eq_true rfl, Nat.le_of_ble_eq_true rfl⟩ dX6_bestShare_37) hS (fun r18 ρ19 H locs q20 hP hS => ?_)
    obtain ⟨rfl, q20⟩ := q20
    refine W.eq (g2 := F0 m 40 ls [.ref (E.2.1 + 90)]) rfl ?_
    refine lv_iload_n hx hb dX6_bestShare_40 rfl (lv_at hl 5 rfl) ?_
    refine call_i (cVt (k := 90) (av := [.int (nI N)]) (rest := []) B hP hS (c_heardInTurns l E ρ19 90 N (by decide +kernel) (q20).F90 (by omega)) lk_RX6_216 (hrecv (ci := 5) B hP (hk_lt (c := 5) (by decide +kernel) (by decide)) (hcc5 _ _ (by decide +kernel)) rfl) rfl rfl hl.1 (Nat.le_of_ble_eq_true rfl) ⟨Nat.le_of_ble_eq_true rfl, Nat.le_of_ble_eq_true rfl⟩ ⟨Nat.le_of_ble_eq_true rfl, Nat.le_of_ble_eq_true rfl⟩ dX6_bestShare_41) hS (fun r21 ρ22 H locs q23 hP hS => ?_)
    obtain ⟨rfl, q23⟩ := q23
    have bq23 : BS ρ22 := fun k hk => (q23 k hk).trans (q20 k hk)
    refine lv_istore (lv' := [(5, .int 0), (4, .int 2), (2, .int 0), (3, .int 0), (0, .ref (E.2.1 + 0)), (1, .int (nI N))]) hx hb dX6_bestShare_44 hl (by decide) rfl (fun ls hl => ?_)
    refine lv_iload hx hb dX6_bestShare_46 (lv_at hl 0 rfl) ?_
    refine lv_iload_n hx hb dX6_bestShare_48 rfl (lv_at hl 3 rfl) ?_
    refine lv_icmp_le (tgt := 58) hx hb dX6_bestShare_49 (by decide) (fun _ => ?_) (fun c24 => absurd c24 (by decide))
    refine lv_iinc (v := 4) (lv' := [(4, .int 4), (5, .int 0), (2, .int 0), (3, .int 0), (0, .ref (E.2.1 + 0)), (1, .int (nI N))]) hx hb dX6_bestShare_58 hl (k := 1) rfl (by decide) (by decide) rfl (fun ls hl => ?_)
    refine lv_goto (tgt := 27) hx hb dX6_bestShare_61 (by decide) ?_
    refine lv_iload hx hb dX6_bestShare_27 (lv_at hl 0 rfl) ?_
    refine lv_bipush (v := 32) hx hb dX6_bestShare_29 (by decide) ?_
    refine lv_icmp_gt (tgt := 64) hx hb dX6_bestShare_31 (by decide) (fun c25 => absurd c25 (by decide)) (fun _ => ?_)
    refine lv_aload_n hx hb dX6_bestShare_34 rfl (lv_at hl 4 rfl) ?_
    refine lv_iload hx hb dX6_bestShare_35 (lv_at hl 0 rfl) ?_
    refine call_q (cVt (k := 0) (av := [.int 4]) (rest := []) B hP hS (c_paperWith l E ρ22 4 bq23) lk_RX6_342 (hrecv (ci := 6) B hP (hk_lt (c := 6) (by decide +kernel) (by decide)) (hcc6 _ _ (by decide +kernel)) rfl) rfl rfl hl.1 (Nat.le_of_ble_eq_true rfl) ⟨Nat.le_of_ble_eq_true rfl, Nat.le_of_ble_eq_true rfl⟩ ⟨Nat.le_of_ble_eq_true rfl, Nat.le_of_ble_eq_true rfl⟩ dX6_bestShare_37) hS (fun r26 ρ27 H locs q28 hP hS => ?_)
    obtain ⟨rfl, q28⟩ := q28
    refine W.eq (g2 := F0 m 40 ls [.ref (E.2.1 + 90)]) rfl ?_
    refine lv_iload_n hx hb dX6_bestShare_40 rfl (lv_at hl 5 rfl) ?_
    refine call_i (cVt (k := 90) (av := [.int (nI N)]) (rest := []) B hP hS (c_heardInTurns l E ρ27 90 N (by decide +kernel) (q28).F90 (by omega)) lk_RX6_216 (hrecv (ci := 5) B hP (hk_lt (c := 5) (by decide +kernel) (by decide)) (hcc5 _ _ (by decide +kernel)) rfl) rfl rfl hl.1 (Nat.le_of_ble_eq_true rfl) ⟨Nat.le_of_ble_eq_true rfl, Nat.le_of_ble_eq_true rfl⟩ ⟨Nat.le_of_ble_eq_true rfl, Nat.le_of_ble_eq_true rfl⟩ dX6_bestShare_41) hS (fun r29 ρ30 H locs q31 hP hS => ?_)
    obtain ⟨rfl, q31⟩ := q31
    have bq31 : BS ρ30 := fun k hk => (q31 k hk).trans (q28 k hk)
    refine lv_istore (lv' := [(5, .int 0), (4, .int 4), (2, .int 0), (3, .int 0), (0, .ref (E.2.1 + 0)), (1, .int (nI N))]) hx hb dX6_bestShare_44 hl (by decide) rfl (fun ls hl => ?_)
    refine lv_iload hx hb dX6_bestShare_46 (lv_at hl 0 rfl) ?_
    refine lv_iload_n hx hb dX6_bestShare_48 rfl (lv_at hl 3 rfl) ?_
    refine lv_icmp_le (tgt := 58) hx hb dX6_bestShare_49 (by decide) (fun _ => ?_) (fun c32 => absurd c32 (by decide))
    refine lv_iinc (v := 6) (lv' := [(4, .int 6), (5, .int 0), (2, .int 0), (3, .int 0), (0, .ref (E.2.1 + 0)), (1, .int (nI N))]) hx hb dX6_bestShare_58 hl (k := 1) rfl (by decide) (by decide) rfl (fun ls hl => ?_)
    refine lv_goto (tgt := 27) hx hb dX6_bestShare_61 (by decide) ?_
    refine lv_iload hx hb dX6_bestShare_27 (lv_at hl 0 rfl) ?_
    refine lv_bipush (v := 32) hx hb dX6_bestShare_29 (by decide) ?_
    refine lv_icmp_gt (tgt := 64) hx hb dX6_bestShare_31 (by decide) (fun c33 => absurd c33 (by decide)) (fun _ => ?_)
    refine lv_aload_n hx hb dX6_bestShare_34 rfl (lv_at hl 4 rfl) ?_
    refine lv_iload hx hb dX6_bestShare_35 (lv_at hl 0 rfl) ?_
    refine call_q (cVt (k := 0) (av := [.int 6]) (rest := []) B hP hS (c_paperWith l E ρ30 6 bq31) lk_RX6_342 (hrecv (ci := 6) B hP (hk_lt (c := 6) (by decide +kernel) (by decide)) (hcc6 _ _ (by decide +kernel)) rfl) rfl rfl hl.1 (Nat.le_of_ble_eq_true rfl) ⟨Nat.le_of_ble_eq_true rfl, Nat.le_of_ble_eq_true rfl⟩ ⟨Nat.le_of_ble_eq_true rfl, Nat.le_of_ble_eq_true rfl⟩ dX6_bestShare_37) hS (fun r34 ρ35 H locs q36 hP hS => ?_)
    obtain ⟨rfl, q36⟩ := q36
    refine W.eq (g2 := F0 m 40 ls [.ref (E.2.1 + 90)]) rfl ?_
    refine lv_iload_n hx hb dX6_bestShare_40 rfl (lv_at hl 5 rfl) ?_
    refine call_i (cVt (k := 90) (av := [.int (nI N)]) (rest := []) B hP hS (c_heardInTurns l E ρ35 90 N (by decide +kernel) (q36).F90 (by omega)) lk_RX6_216 (hrecv (ci := 5) B hP (hk_lt (c := 5) (by decide +kernel) (by decide)) (hcc5 _ _ (by decide +kernel)) rfl) rfl rfl hl.1 (Nat.le_of_ble_eq_true rfl) ⟨Nat.le_of_ble_eq_true rfl, Nat.le_of_ble_eq_true rfl⟩ ⟨Nat.le_of_ble_eq_true rfl, Nat.le_of_ble_eq_true rfl⟩ dX6_bestShare_41) hS (fun r37 ρ38 H locs q39 hP hS => ?_)
    obtain ⟨rfl, q39⟩ := q39
    have bq39 : BS ρ38 := fun k hk => (q39 k hk).trans (q36 k hk)
    refine lv_istore (lv' := [(5, .int 0), (4, .int 6), (2, .int 0), (3, .int 0), (0, .ref (E.2.1 + 0)), (1, .int (nI N))]) hx hb dX6_bestShare_44 hl (by decide) rfl (fun ls hl => ?_)
    refine lv_iload hx hb dX6_bestShare_46 (lv_at hl 0 rfl) ?_
    refine lv_iload_n hx hb dX6_bestShare_48 rfl (lv_at hl 3 rfl) ?_
    refine lv_icmp_le (tgt := 58) hx hb dX6_bestShare_49 (by decide) (fun _ => ?_) (fun c40 => absurd c40 (by decide))
    refine lv_iinc (v := 8) (lv' := [(4, .int 8), (5, .int 0), (2, .int 0), (3, .int 0), (0, .ref (E.2.1 + 0)), (1, .int (nI N))]) hx hb dX6_bestShare_58 hl (k := 1) rfl (by decide) (by decide) rfl (fun ls hl => ?_)
    refine lv_goto (tgt := 27) hx hb dX6_bestShare_61 (by decide) ?_
    refine lv_iload hx hb dX6_bestShare_27 (lv_at hl 0 rfl) ?_
    refine lv_bipush (v := 32) hx hb dX6_bestShare_29 (by decide) ?_
    refine lv_icmp_gt (tgt := 64) hx hb dX6_bestShare_31 (by decide) (fun c41 => absurd c41 (by decide)) (fun _ => ?_)
    refine lv_aload_n hx hb dX6_bestShare_34 rfl (lv_at hl 4 rfl) ?_
    refine lv_iload hx hb dX6_bestShare_35 (lv_at hl 0 rfl) ?_
    refine call_q (cVt (k := 0) (av := [.int 8]) (rest := []) B hP hS (c_paperWith l E ρ38 8 bq39) lk_RX6_342 (hrecv (ci := 6) B hP (hk_lt (c := 6) (by decide +kernel) (by decide)) (hcc6 _ _ (by decide +kernel)) rfl) rfl rfl hl.1 (Nat.le_of_ble_eq_true rfl) ⟨Nat.le_of_ble_eq_true rfl, Nat.le_of_ble_eq_true rfl⟩ ⟨Nat.le_of_ble_eq_true rfl, Nat.le_of_ble_eq_true rfl⟩ dX6_bestShare_37) hS (fun r42 ρ43 H locs q44 hP hS => ?_)
    obtain ⟨rfl, q44⟩ := q44
    refine W.eq (g2 := F0 m 40 ls [.ref (E.2.1 + 90)]) rfl ?_
    refine lv_iload_n hx hb dX6_bestShare_40 rfl (lv_at hl 5 rfl) ?_
    refine call_i (cVt (k := 90) (av := [.int (nI N)]) (rest := []) B hP hS (c_heardInTurns l E ρ43 90 N (by decide +kernel) (q44).F90 (by omega)) lk_RX6_216 (hrecv (ci := 5) B hP (hk_lt (c := 5) (by decide +kernel) (by decide)) (hcc5 _ _ (by decide +kernel)) rfl) rfl rfl hl.1 (Nat.le_of_ble_eq_true rfl) ⟨Nat.le_of_ble_eq_true rfl, Nat.le_of_ble_eq_true rfl⟩ ⟨Nat.le_of_ble_eq_true rfl, Nat.le_of_ble_eq_true rfl⟩ dX6_bestShare_41) hS (fun r45 ρ46 H locs q47 hP hS => ?_)
    obtain ⟨rfl, q47⟩ := q47
    have bq47 : BS ρ46 := fun k hk => (q47 k hk).trans (q44 k hk)
    refine lv_istore (lv' := [(5, .int 0), (4, .int 8), (2, .int 0), (3, .int 0), (0, .ref (E.2.1 + 0)), (1, .int (nI N))]) hx hb dX6_bestShare_44 hl (by decide) rfl (fun ls hl => ?_)
    refine lv_iload hx hb dX6_bestShare_46 (lv_at hl 0 rfl) ?_
    refine lv_iload_n hx hb dX6_bestShare_48 rfl (lv_at hl 3 rfl) ?_
    refine lv_icmp_le (tgt := 58) hx hb dX6_bestShare_49 (by decide) (fun _ => ?_) (fun c48 => absurd c48 (by decide))
    refine lv_iinc (v := 10) (lv' := [(4, .int 10), (5, .int 0), (2, .int 0), (3, .int 0), (0, .ref (E.2.1 + 0)), (1, .int (nI N))]) hx hb dX6_bestShare_58 hl (k := 1) rfl (by decide) (by decide) rfl (fun ls hl => ?_)
    refine lv_goto (tgt := 27) hx hb dX6_bestShare_61 (by decide) ?_
    refine lv_iload hx hb dX6_bestShare_27 (lv_at hl 0 rfl) ?_
    refine lv_bipush (v := 32) hx hb dX6_bestShare_29 (by decide) ?_
    refine lv_icmp_gt (tgt := 64) hx hb dX6_bestShare_31 (by decide) (fun c49 => absurd c49 (by decide)) (fun _ => ?_)
    refine lv_aload_n hx hb dX6_bestShare_34 rfl (lv_at hl 4 rfl) ?_
    refine lv_iload hx hb dX6_bestShare_35 (lv_at hl 0 rfl) ?_
    refine call_q (cVt (k := 0) (av := [.int 10]) (rest := []) B hP hS (c_paperWith l E ρ46 10 bq47) lk_RX6_342 (hrecv (ci := 6) B hP (hk_lt (c := 6) (by decide +kernel) (by decide)) (hcc6 _ _ (by decide +kernel)) rfl) rfl rfl hl.1 (Nat.le_of_ble_eq_true rfl) ⟨Nat.le_of_ble_eq_true rfl, Nat.le_of_ble_eq_true rfl⟩ ⟨Nat.le_of_ble_eq_true rfl, Nat.le_of_ble_eq_true rfl⟩ dX6_bestShare_37) hS (fun r50 ρ51 H locs q52 hP hS => ?_)
    obtain ⟨rfl, q52⟩ := q52
    refine W.eq (g2 := F0 m 40 ls [.ref (E.2.1 + 90)]) rfl ?_
    refine lv_iload_n hx hb dX6_bestShare_40 rfl (lv_at hl 5 rfl) ?_
    refine call_i (cVt (k := 90) (av := [.int (nI N)]) (rest := []) B hP hS (c_heardInTurns l E ρ51 90 N (by decide +kernel) (q52).F90 (by omega)) lk_RX6_216 (hrecv (ci := 5) B hP (hk_lt (c := 5) (by decide +kernel) (by decide)) (hcc5 _ _ (by decide +kernel)) rfl) rfl rfl hl.1 (Nat.le_of_ble_eq_true rfl) ⟨Nat.le_of_ble_eq_true rfl, Nat.le_of_ble_eq_true rfl⟩ ⟨Nat.le_of_ble_eq_true rfl, Nat.le_of_ble_eq_true rfl⟩ dX6_bestShare_41) hS (fun r53 ρ54 H locs q55 hP hS => ?_)
    obtain ⟨rfl, q55⟩ := q55
    have bq55 : BS ρ54 := fun k hk => (q55 k hk).trans (q52 k hk)
    refine lv_istore (lv' := [(5, .int 0), (4, .int 10), (2, .int 0), (3, .int 0), (0, .ref (E.2.1 + 0)), (1, .int (nI N))]) hx hb dX6_bestShare_44 hl (by decide) rfl (fun ls hl => ?_)
    refine lv_iload hx hb dX6_bestShare_46 (lv_at hl 0 rfl) ?_
    refine lv_iload_n hx hb dX6_bestShare_48 rfl (lv_at hl 3 rfl) ?_
    refine lv_icmp_le (tgt := 58) hx hb dX6_bestShare_49 (by decide) (fun _ => ?_) (fun c56 => absurd c56 (by decide))
    refine lv_iinc (v := 12) (lv' := [(4, .int 12), (5, .int 0), (2, .int 0), (3, .int 0), (0, .ref (E.2.1 + 0)), (1, .int (nI N))]) hx hb dX6_bestShare_58 hl (k := 1) rfl (by decide) (by decide) rfl (fun ls hl => ?_)
    refine lv_goto (tgt := 27) hx hb dX6_bestShare_61 (by decide) ?_
    refine lv_iload hx hb dX6_bestShare_27 (lv_at hl 0 rfl) ?_
    refine lv_bipush (v := 32) hx hb dX6_bestShare_29 (by decide) ?_
    refine lv_icmp_gt (tgt := 64) hx hb dX6_bestShare_31 (by decide) (fun c57 => absurd c57 (by decide)) (fun _ => ?_)
    refine lv_aload_n hx hb dX6_bestShare_34 rfl (lv_at hl 4 rfl) ?_
    refine lv_iload hx hb dX6_bestShare_35 (lv_at hl 0 rfl) ?_
    refine call_q (cVt (k := 0) (av := [.int 12]) (rest := []) B hP hS (c_paperWith l E ρ54 12 bq55) lk_RX6_342 (hrecv (ci := 6) B hP (hk_lt (c := 6) (by decide +kernel) (by decide)) (hcc6 _ _ (by decide +kernel)) rfl) rfl rfl hl.1 (Nat.le_of_ble_eq_true rfl) ⟨Nat.le_of_ble_eq_true rfl, Nat.le_of_ble_eq_true rfl⟩ ⟨Nat.le_of_ble_eq_true rfl, Nat.le_of_ble_eq_true rfl⟩ dX6_bestShare_37) hS (fun r58 ρ59 H locs q60 hP hS => ?_)
    obtain ⟨rfl, q60⟩ := q60
    refine W.eq (g2 := F0 m 40 ls [.ref (E.2.1 + 90)]) rfl ?_
    refine lv_iload_n hx hb dX6_bestShare_40 rfl (lv_at hl 5 rfl) ?_
    refine call_i (cVt (k := 90) (av := [.int (nI N)]) (rest := []) B hP hS (c_heardInTurns l E ρ59 90 N (by decide +kernel) (q60).F90 (by omega)) lk_RX6_216 (hrecv (ci := 5) B hP (hk_lt (c := 5) (by decide +kernel) (by decide)) (hcc5 _ _ (by decide +kernel)) rfl) rfl rfl hl.1 (Nat.le_of_ble_eq_true rfl) ⟨Nat.le_of_ble_eq_true rfl, Nat.le_of_ble_eq_true rfl⟩ ⟨Nat.le_of_ble_eq_true rfl, Nat.le_of_ble_eq_true rfl⟩ dX6_bestShare_41) hS (fun r61 ρ62 H locs q63 hP hS => ?_)
    obtain ⟨rfl, q63⟩ := q63
    have bq63 : BS ρ62 := fun k hk => (q63 k hk).trans (q60 k hk)
    refine lv_istore (lv' := [(5, .int 0), (4, .int 12), (2, .int 0), (3, .int 0), (0, .ref (E.2.1 + 0)), (1, .int (nI N))]) hx hb dX6_bestShare_44 hl (by decide) rfl (fun ls hl => ?_)
    refine lv_iload hx hb dX6_bestShare_46 (lv_at hl 0 rfl) ?_
    refine lv_iload_n hx hb dX6_bestShare_48 rfl (lv_at hl 3 rfl) ?_
    refine lv_icmp_le (tgt := 58) hx hb dX6_bestShare_49 (by decide) (fun _ => ?_) (fun c64 => absurd c64 (by decide))
    refine lv_iinc (v := 14) (lv' := [(4, .int 14), (5, .int 0), (2, .int 0), (3, .int 0), (0, .ref (E.2.1 + 0)), (1, .int (nI N))]) hx hb dX6_bestShare_58 hl (k := 1) rfl (by decide) (by decide) rfl (fun ls hl => ?_)
    refine lv_goto (tgt := 27) hx hb dX6_bestShare_61 (by decide) ?_
    refine lv_iload hx hb dX6_bestShare_27 (lv_at hl 0 rfl) ?_
    refine lv_bipush (v := 32) hx hb dX6_bestShare_29 (by decide) ?_
    refine lv_icmp_gt (tgt := 64) hx hb dX6_bestShare_31 (by decide) (fun c65 => absurd c65 (by decide)) (fun _ => ?_)
    refine lv_aload_n hx hb dX6_bestShare_34 rfl (lv_at hl 4 rfl) ?_
    refine lv_iload hx hb dX6_bestShare_35 (lv_at hl 0 rfl) ?_
    refine call_q (cVt (k := 0) (av := [.int 14]) (rest := []) B hP hS (c_paperWith l E ρ62 14 bq63) lk_RX6_342 (hrecv (ci := 6) B hP (hk_lt (c := 6) (by decide +kernel) (by decide)) (hcc6 _ _ (by decide +kernel)) rfl) rfl rfl hl.1 (Nat.le_of_ble_eq_true rfl) ⟨Nat.le_of_ble_eq_true rfl, Nat.le_of_ble_eq_true rfl⟩ ⟨Nat.le_of_ble_eq_true rfl, Nat.le_of_ble_eq_true rfl⟩ dX6_bestShare_37) hS (fun r66 ρ67 H locs q68 hP hS => ?_)
    obtain ⟨rfl, q68⟩ := q68
    refine W.eq (g2 := F0 m 40 ls [.ref (E.2.1 + 90)]) rfl ?_
    refine lv_iload_n hx hb dX6_bestShare_40 rfl (lv_at hl 5 rfl) ?_
    refine call_i (cVt (k := 90) (av := [.int (nI N)]) (rest := []) B hP hS (c_heardInTurns l E ρ67 90 N (by decide +kernel) (q68).F90 (by omega)) lk_RX6_216 (hrecv (ci := 5) B hP (hk_lt (c := 5) (by decide +kernel) (by decide)) (hcc5 _ _ (by decide +kernel)) rfl) rfl rfl hl.1 (Nat.le_of_ble_eq_true rfl) ⟨Nat.le_of_ble_eq_true rfl, Nat.le_of_ble_eq_true rfl⟩ ⟨Nat.le_of_ble_eq_true rfl, Nat.le_of_ble_eq_true rfl⟩ dX6_bestShare_41) hS (fun r69 ρ70 H locs q71 hP hS => ?_)
    obtain ⟨rfl, q71⟩ := q71
    have bq71 : BS ρ70 := fun k hk => (q71 k hk).trans (q68 k hk)
    refine lv_istore (lv' := [(5, .int 0), (4, .int 14), (2, .int 0), (3, .int 0), (0, .ref (E.2.1 + 0)), (1, .int (nI N))]) hx hb dX6_bestShare_44 hl (by decide) rfl (fun ls hl => ?_)
    refine lv_iload hx hb dX6_bestShare_46 (lv_at hl 0 rfl) ?_
    refine lv_iload_n hx hb dX6_bestShare_48 rfl (lv_at hl 3 rfl) ?_
    refine lv_icmp_le (tgt := 58) hx hb dX6_bestShare_49 (by decide) (fun _ => ?_) (fun c72 => absurd c72 (by decide))
    refine lv_iinc (v := 16) (lv' := [(4, .int 16), (5, .int 0), (2, .int 0), (3, .int 0), (0, .ref (E.2.1 + 0)), (1, .int (nI N))]) hx hb dX6_bestShare_58 hl (k := 1) rfl (by decide) (by decide) rfl (fun ls hl => ?_)
    refine lv_goto (tgt := 27) hx hb dX6_bestShare_61 (by decide) ?_
    refine lv_iload hx hb dX6_bestShare_27 (lv_at hl 0 rfl) ?_
    refine lv_bipush (v := 32) hx hb dX6_bestShare_29 (by decide) ?_
    refine lv_icmp_gt (tgt := 64) hx hb dX6_bestShare_31 (by decide) (fun c73 => absurd c73 (by decide)) (fun _ => ?_)
    refine lv_aload_n hx hb dX6_bestShare_34 rfl (lv_at hl 4 rfl) ?_
    refine lv_iload hx hb dX6_bestShare_35 (lv_at hl 0 rfl) ?_
    refine call_q (cVt (k := 0) (av := [.int 16]) (rest := []) B hP hS (c_paperWith l E ρ70 16 bq71) lk_RX6_342 (hrecv (ci := 6) B hP (hk_lt (c := 6) (by decide +kernel) (by decide)) (hcc6 _ _ (by decide +kernel)) rfl) rfl rfl hl.1 (Nat.le_of_ble_eq_true rfl) ⟨Nat.le_of_ble_eq_true rfl, Nat.le_of_ble_eq_true rfl⟩ ⟨Nat.le_of_ble_eq_true rfl, Nat.le_of_ble_eq_true rfl⟩ dX6_bestShare_37) hS (fun r74 ρ75 H locs q76 hP hS => ?_)
    obtain ⟨rfl, q76⟩ := q76
    refine W.eq (g2 := F0 m 40 ls [.ref (E.2.1 + 90)]) rfl ?_
    refine lv_iload_n hx hb dX6_bestShare_40 rfl (lv_at hl 5 rfl) ?_
    refine call_i (cVt (k := 90) (av := [.int (nI N)]) (rest := []) B hP hS (c_heardInTurns l E ρ75 90 N (by decide +kernel) (q76).F90 (by omega)) lk_RX6_216 (hrecv (ci := 5) B hP (hk_lt (c := 5) (by decide +kernel) (by decide)) (hcc5 _ _ (by decide +kernel)) rfl) rfl rfl hl.1 (Nat.le_of_ble_eq_true rfl) ⟨Nat.le_of_ble_eq_true rfl, Nat.le_of_ble_eq_true rfl⟩ ⟨Nat.le_of_ble_eq_true rfl, Nat.le_of_ble_eq_true rfl⟩ dX6_bestShare_41) hS (fun r77 ρ78 H locs q79 hP hS => ?_)
    obtain ⟨rfl, q79⟩ := q79
    have bq79 : BS ρ78 := fun k hk => (q79 k hk).trans (q76 k hk)
    refine lv_istore (lv' := [(5, .int 0), (4, .int 16), (2, .int 0), (3, .int 0), (0, .ref (E.2.1 + 0)), (1, .int (nI N))]) hx hb dX6_bestShare_44 hl (by decide) rfl (fun ls hl => ?_)
    refine lv_iload hx hb dX6_bestShare_46 (lv_at hl 0 rfl) ?_
    refine lv_iload_n hx hb dX6_bestShare_48 rfl (lv_at hl 3 rfl) ?_
    refine lv_icmp_le (tgt := 58) hx hb dX6_bestShare_49 (by decide) (fun _ => ?_) (fun c80 => absurd c80 (by decide))
    refine lv_iinc (v := 18) (lv' := [(4, .int 18), (5, .int 0), (2, .int 0), (3, .int 0), (0, .ref (E.2.1 + 0)), (1, .int (nI N))]) hx hb dX6_bestShare_58 hl (k := 1) rfl (by decide) (by decide) rfl (fun ls hl => ?_)
    refine lv_goto (tgt := 27) hx hb dX6_bestShare_61 (by decide) ?_
    refine lv_iload hx hb dX6_bestShare_27 (lv_at hl 0 rfl) ?_
    refine lv_bipush (v := 32) hx hb dX6_bestShare_29 (by decide) ?_
    refine lv_icmp_gt (tgt := 64) hx hb dX6_bestShare_31 (by decide) (fun c81 => absurd c81 (by decide)) (fun _ => ?_)
    refine lv_aload_n hx hb dX6_bestShare_34 rfl (lv_at hl 4 rfl) ?_
    refine lv_iload hx hb dX6_bestShare_35 (lv_at hl 0 rfl) ?_
    refine call_q (cVt (k := 0) (av := [.int 18]) (rest := []) B hP hS (c_paperWith l E ρ78 18 bq79) lk_RX6_342 (hrecv (ci := 6) B hP (hk_lt (c := 6) (by decide +kernel) (by decide)) (hcc6 _ _ (by decide +kernel)) rfl) rfl rfl hl.1 (Nat.le_of_ble_eq_true rfl) ⟨Nat.le_of_ble_eq_true rfl, Nat.le_of_ble_eq_true rfl⟩ ⟨Nat.le_of_ble_eq_true rfl, Nat.le_of_ble_eq_true rfl⟩ dX6_bestShare_37) hS (fun r82 ρ83 H locs q84 hP hS => ?_)
    obtain ⟨rfl, q84⟩ := q84
    refine W.eq (g2 := F0 m 40 ls [.ref (E.2.1 + 90)]) rfl ?_
    refine lv_iload_n hx hb dX6_bestShare_40 rfl (lv_at hl 5 rfl) ?_
    refine call_i (cVt (k := 90) (av := [.int (nI N)]) (rest := []) B hP hS (c_heardInTurns l E ρ83 90 N (by decide +kernel) (q84).F90 (by omega)) lk_RX6_216 (hrecv (ci := 5) B hP (hk_lt (c := 5) (by decide +kernel) (by decide)) (hcc5 _ _ (by decide +kernel)) rfl) rfl rfl hl.1 (Nat.le_of_ble_eq_true rfl) ⟨Nat.le_of_ble_eq_true rfl, Nat.le_of_ble_eq_true rfl⟩ ⟨Nat.le_of_ble_eq_true rfl, Nat.le_of_ble_eq_true rfl⟩ dX6_bestShare_41) hS (fun r85 ρ86 H locs q87 hP hS => ?_)
    obtain ⟨rfl, q87⟩ := q87
    have bq87 : BS ρ86 := fun k hk => (q87 k hk).trans (q84 k hk)
    refine lv_istore (lv' := [(5, .int 0), (4, .int 18), (2, .int 0), (3, .int 0), (0, .ref (E.2.1 + 0)), (1, .int (nI N))]) hx hb dX6_bestShare_44 hl (by decide) rfl (fun ls hl => ?_)
    refine lv_iload hx hb dX6_bestShare_46 (lv_at hl 0 rfl) ?_
    refine lv_iload_n hx hb dX6_bestShare_48 rfl (lv_at hl 3 rfl) ?_
    refine lv_icmp_le (tgt := 58) hx hb dX6_bestShare_49 (by decide) (fun _ => ?_) (fun c88 => absurd c88 (by decide))
    refine lv_iinc (v := 20) (lv' := [(4, .int 20), (5, .int 0), (2, .int 0), (3, .int 0), (0, .ref (E.2.1 + 0)), (1, .int (nI N))]) hx hb dX6_bestShare_58 hl (k := 1) rfl (by decide) (by decide) rfl (fun ls hl => ?_)
    refine lv_goto (tgt := 27) hx hb dX6_bestShare_61 (by decide) ?_
    refine lv_iload hx hb dX6_bestShare_27 (lv_at hl 0 rfl) ?_
    refine lv_bipush (v := 32) hx hb dX6_bestShare_29 (by decide) ?_
    refine lv_icmp_gt (tgt := 64) hx hb dX6_bestShare_31 (by decide) (fun c89 => absurd c89 (by decide)) (fun _ => ?_)
    refine lv_aload_n hx hb dX6_bestShare_34 rfl (lv_at hl 4 rfl) ?_
    refine lv_iload hx hb dX6_bestShare_35 (lv_at hl 0 rfl) ?_
    refine call_q (cVt (k := 0) (av := [.int 20]) (rest := []) B hP hS (c_paperWith l E ρ86 20 bq87) lk_RX6_342 (hrecv (ci := 6) B hP (hk_lt (c := 6) (by decide +kernel) (by decide)) (hcc6 _ _ (by decide +kernel)) rfl) rfl rfl hl.1 (Nat.le_of_ble_eq_true rfl) ⟨Nat.le_of_ble_eq_true rfl, Nat.le_of_ble_eq_true rfl⟩ ⟨Nat.le_of_ble_eq_true rfl, Nat.le_of_ble_eq_true rfl⟩ dX6_bestShare_37) hS (fun r90 ρ91 H locs q92 hP hS => ?_)
    obtain ⟨rfl, q92⟩ := q92
    refine W.eq (g2 := F0 m 40 ls [.ref (E.2.1 + 90)]) rfl ?_
    refine lv_iload_n hx hb dX6_bestShare_40 rfl (lv_at hl 5 rfl) ?_
    refine call_i (cVt (k := 90) (av := [.int (nI N)]) (rest := []) B hP hS (c_heardInTurns l E ρ91 90 N (by decide +kernel) (q92).F90 (by omega)) lk_RX6_216 (hrecv (ci := 5) B hP (hk_lt (c := 5) (by decide +kernel) (by decide)) (hcc5 _ _ (by decide +kernel)) rfl) rfl rfl hl.1 (Nat.le_of_ble_eq_true rfl) ⟨Nat.le_of_ble_eq_true rfl, Nat.le_of_ble_eq_true rfl⟩ ⟨Nat.le_of_ble_eq_true rfl, Nat.le_of_ble_eq_true rfl⟩ dX6_bestShare_41) hS (fun r93 ρ94 H locs q95 hP hS => ?_)
    obtain ⟨rfl, q95⟩ := q95
    have bq95 : BS ρ94 := fun k hk => (q95 k hk).trans (q92 k hk)
    refine lv_istore (lv' := [(5, .int 0), (4, .int 20), (2, .int 0), (3, .int 0), (0, .ref (E.2.1 + 0)), (1, .int (nI N))]) hx hb dX6_bestShare_44 hl (by decide) rfl (fun ls hl => ?_)
    refine lv_iload hx hb dX6_bestShare_46 (lv_at hl 0 rfl) ?_
    refine lv_iload_n hx hb dX6_bestShare_48 rfl (lv_at hl 3 rfl) ?_
    refine lv_icmp_le (tgt := 58) hx hb dX6_bestShare_49 (by decide) (fun _ => ?_) (fun c96 => absurd c96 (by decide))
    refine lv_iinc (v := 22) (lv' := [(4, .int 22), (5, .int 0), (2, .int 0), (3, .int 0), (0, .ref (E.2.1 + 0)), (1, .int (nI N))]) hx hb dX6_bestShare_58 hl (k := 1) rfl (by decide) (by decide) rfl (fun ls hl => ?_)
    refine lv_goto (tgt := 27) hx hb dX6_bestShare_61 (by decide) ?_
    refine lv_iload hx hb dX6_bestShare_27 (lv_at hl 0 rfl) ?_
    refine lv_bipush (v := 32) hx hb dX6_bestShare_29 (by decide) ?_
    refine lv_icmp_gt (tgt := 64) hx hb dX6_bestShare_31 (by decide) (fun c97 => absurd c97 (by decide)) (fun _ => ?_)
    refine lv_aload_n hx hb dX6_bestShare_34 rfl (lv_at hl 4 rfl) ?_
    refine lv_iload hx hb dX6_bestShare_35 (lv_at hl 0 rfl) ?_
    refine call_q (cVt (k := 0) (av := [.int 22]) (rest := []) B hP hS (c_paperWith l E ρ94 22 bq95) lk_RX6_342 (hrecv (ci := 6) B hP (hk_lt (c := 6) (by decide +kernel) (by decide)) (hcc6 _ _ (by decide +kernel)) rfl) rfl rfl hl.1 (Nat.le_of_ble_eq_true rfl) ⟨Nat.le_of_ble_eq_true rfl, Nat.le_of_ble_eq_true rfl⟩ ⟨Nat.le_of_ble_eq_true rfl, Nat.le_of_ble_eq_true rfl⟩ dX6_bestShare_37) hS (fun r98 ρ99 H locs q100 hP hS => ?_)
    obtain ⟨rfl, q100⟩ := q100
    refine W.eq (g2 := F0 m 40 ls [.ref (E.2.1 + 90)]) rfl ?_
    refine lv_iload_n hx hb dX6_bestShare_40 rfl (lv_at hl 5 rfl) ?_
    refine call_i (cVt (k := 90) (av := [.int (nI N)]) (rest := []) B hP hS (c_heardInTurns l E ρ99 90 N (by decide +kernel) (q100).F90 (by omega)) lk_RX6_216 (hrecv (ci := 5) B hP (hk_lt (c := 5) (by decide +kernel) (by decide)) (hcc5 _ _ (by decide +kernel)) rfl) rfl rfl hl.1 (Nat.le_of_ble_eq_true rfl) ⟨Nat.le_of_ble_eq_true rfl, Nat.le_of_ble_eq_true rfl⟩ ⟨Nat.le_of_ble_eq_true rfl, Nat.le_of_ble_eq_true rfl⟩ dX6_bestShare_41) hS (fun r101 ρ102 H locs q103 hP hS => ?_)
    obtain ⟨rfl, q103⟩ := q103
    have bq103 : BS ρ102 := fun k hk => (q103 k hk).trans (q100 k hk)
    refine lv_istore (lv' := [(5, .int 0), (4, .int 22), (2, .int 0), (3, .int 0), (0, .ref (E.2.1 + 0)), (1, .int (nI N))]) hx hb dX6_bestShare_44 hl (by decide) rfl (fun ls hl => ?_)
    refine lv_iload hx hb dX6_bestShare_46 (lv_at hl 0 rfl) ?_
    refine lv_iload_n hx hb dX6_bestShare_48 rfl (lv_at hl 3 rfl) ?_
    refine lv_icmp_le (tgt := 58) hx hb dX6_bestShare_49 (by decide) (fun _ => ?_) (fun c104 => absurd c104 (by decide))
    refine lv_iinc (v := 24) (lv' := [(4, .int 24), (5, .int 0), (2, .int 0), (3, .int 0), (0, .ref (E.2.1 + 0)), (1, .int (nI N))]) hx hb dX6_bestShare_58 hl (k := 1) rfl (by decide) (by decide) rfl (fun ls hl => ?_)
    refine lv_goto (tgt := 27) hx hb dX6_bestShare_61 (by decide) ?_
    refine lv_iload hx hb dX6_bestShare_27 (lv_at hl 0 rfl) ?_
    refine lv_bipush (v := 32) hx hb dX6_bestShare_29 (by decide) ?_
    refine lv_icmp_gt (tgt := 64) hx hb dX6_bestShare_31 (by decide) (fun c105 => absurd c105 (by decide)) (fun _ => ?_)
    refine lv_aload_n hx hb dX6_bestShare_34 rfl (lv_at hl 4 rfl) ?_
    refine lv_iload hx hb dX6_bestShare_35 (lv_at hl 0 rfl) ?_
    refine call_q (cVt (k := 0) (av := [.int 24]) (rest := []) B hP hS (c_paperWith l E ρ102 24 bq103) lk_RX6_342 (hrecv (ci := 6) B hP (hk_lt (c := 6) (by decide +kernel) (by decide)) (hcc6 _ _ (by decide +kernel)) rfl) rfl rfl hl.1 (Nat.le_of_ble_eq_true rfl) ⟨Nat.le_of_ble_eq_true rfl, Nat.le_of_ble_eq_true rfl⟩ ⟨Nat.le_of_ble_eq_true rfl, Nat.le_of_ble_eq_true rfl⟩ dX6_bestShare_37) hS (fun r106 ρ107 H locs q108 hP hS => ?_)
    obtain ⟨rfl, q108⟩ := q108
    refine W.eq (g2 := F0 m 40 ls [.ref (E.2.1 + 90)]) rfl ?_
    refine lv_iload_n hx hb dX6_bestShare_40 rfl (lv_at hl 5 rfl) ?_
    refine call_i (cVt (k := 90) (av := [.int (nI N)]) (rest := []) B hP hS (c_heardInTurns l E ρ107 90 N (by decide +kernel) (q108).F90 (by omega)) lk_RX6_216 (hrecv (ci := 5) B hP (hk_lt (c := 5) (by decide +kernel) (by decide)) (hcc5 _ _ (by decide +kernel)) rfl) rfl rfl hl.1 (Nat.le_of_ble_eq_true rfl) ⟨Nat.le_of_ble_eq_true rfl, Nat.le_of_ble_eq_true rfl⟩ ⟨Nat.le_of_ble_eq_true rfl, Nat.le_of_ble_eq_true rfl⟩ dX6_bestShare_41) hS (fun r109 ρ110 H locs q111 hP hS => ?_)
    obtain ⟨rfl, q111⟩ := q111
    have bq111 : BS ρ110 := fun k hk => (q111 k hk).trans (q108 k hk)
    refine lv_istore (lv' := [(5, .int 0), (4, .int 24), (2, .int 0), (3, .int 0), (0, .ref (E.2.1 + 0)), (1, .int (nI N))]) hx hb dX6_bestShare_44 hl (by decide) rfl (fun ls hl => ?_)
    refine lv_iload hx hb dX6_bestShare_46 (lv_at hl 0 rfl) ?_
    refine lv_iload_n hx hb dX6_bestShare_48 rfl (lv_at hl 3 rfl) ?_
    refine lv_icmp_le (tgt := 58) hx hb dX6_bestShare_49 (by decide) (fun _ => ?_) (fun c112 => absurd c112 (by decide))
    refine lv_iinc (v := 26) (lv' := [(4, .int 26), (5, .int 0), (2, .int 0), (3, .int 0), (0, .ref (E.2.1 + 0)), (1, .int (nI N))]) hx hb dX6_bestShare_58 hl (k := 1) rfl (by decide) (by decide) rfl (fun ls hl => ?_)
    refine lv_goto (tgt := 27) hx hb dX6_bestShare_61 (by decide) ?_
    refine lv_iload hx hb dX6_bestShare_27 (lv_at hl 0 rfl) ?_
    refine lv_bipush (v := 32) hx hb dX6_bestShare_29 (by decide) ?_
    refine lv_icmp_gt (tgt := 64) hx hb dX6_bestShare_31 (by decide) (fun c113 => absurd c113 (by decide)) (fun _ => ?_)
    refine lv_aload_n hx hb dX6_bestShare_34 rfl (lv_at hl 4 rfl) ?_
    refine lv_iload hx hb dX6_bestShare_35 (lv_at hl 0 rfl) ?_
    refine call_q (cVt (k := 0) (av := [.int 26]) (rest := []) B hP hS (c_paperWith l E ρ110 26 bq111) lk_RX6_342 (hrecv (ci := 6) B hP (hk_lt (c := 6) (by decide +kernel) (by decide)) (hcc6 _ _ (by decide +kernel)) rfl) rfl rfl hl.1 (Nat.le_of_ble_eq_true rfl) ⟨Nat.le_of_ble_eq_true rfl, Nat.le_of_ble_eq_true rfl⟩ ⟨Nat.le_of_ble_eq_true rfl, Nat.le_of_ble_eq_true rfl⟩ dX6_bestShare_37) hS (fun r114 ρ115 H locs q116 hP hS => ?_)
    obtain ⟨rfl, q116⟩ := q116
    refine W.eq (g2 := F0 m 40 ls [.ref (E.2.1 + 90)]) rfl ?_
    refine lv_iload_n hx hb dX6_bestShare_40 rfl (lv_at hl 5 rfl) ?_
    refine call_i (cVt (k := 90) (av := [.int (nI N)]) (rest := []) B hP hS (c_heardInTurns l E ρ115 90 N (by decide +kernel) (q116).F90 (by omega)) lk_RX6_216 (hrecv (ci := 5) B hP (hk_lt (c := 5) (by decide +kernel) (by decide)) (hcc5 _ _ (by decide +kernel)) rfl) rfl rfl hl.1 (Nat.le_of_ble_eq_true rfl) ⟨Nat.le_of_ble_eq_true rfl, Nat.le_of_ble_eq_true rfl⟩ ⟨Nat.le_of_ble_eq_true rfl, Nat.le_of_ble_eq_true rfl⟩ dX6_bestShare_41) hS (fun r117 ρ118 H locs q119 hP hS => ?_)
    obtain ⟨rfl, q119⟩ := q119
    have bq119 : BS ρ118 := fun k hk => (q119 k hk).trans (q116 k hk)
    refine lv_istore (lv' := [(5, .int 0), (4, .int 26), (2, .int 0), (3, .int 0), (0, .ref (E.2.1 + 0)), (1, .int (nI N))]) hx hb dX6_bestShare_44 hl (by decide) rfl (fun ls hl => ?_)
    refine lv_iload hx hb dX6_bestShare_46 (lv_at hl 0 rfl) ?_
    refine lv_iload_n hx hb dX6_bestShare_48 rfl (lv_at hl 3 rfl) ?_
    refine lv_icmp_le (tgt := 58) hx hb dX6_bestShare_49 (by decide) (fun _ => ?_) (fun c120 => absurd c120 (by decide))
    refine lv_iinc (v := 28) (lv' := [(4, .int 28), (5, .int 0), (2, .int 0), (3, .int 0), (0, .ref (E.2.1 + 0)), (1, .int (nI N))]) hx hb dX6_bestShare_58 hl (k := 1) rfl (by decide) (by decide) rfl (fun ls hl => ?_)
    refine lv_goto (tgt := 27) hx hb dX6_bestShare_61 (by decide) ?_
    refine lv_iload hx hb dX6_bestShare_27 (lv_at hl 0 rfl) ?_
    refine lv_bipush (v := 32) hx hb dX6_bestShare_29 (by decide) ?_
    refine lv_icmp_gt (tgt := 64) hx hb dX6_bestShare_31 (by decide) (fun c121 => absurd c121 (by decide)) (fun _ => ?_)
    refine lv_aload_n hx hb dX6_bestShare_34 rfl (lv_at hl 4 rfl) ?_
    refine lv_iload hx hb dX6_bestShare_35 (lv_at hl 0 rfl) ?_
    refine call_q (cVt (k := 0) (av := [.int 28]) (rest := []) B hP hS (c_paperWith l E ρ118 28 bq119) lk_RX6_342 (hrecv (ci := 6) B hP (hk_lt (c := 6) (by decide +kernel) (by decide)) (hcc6 _ _ (by decide +kernel)) rfl) rfl rfl hl.1 (Nat.le_of_ble_eq_true rfl) ⟨Nat.le_of_ble_eq_true rfl, Nat.le_of_ble_eq_true rfl⟩ ⟨Nat.le_of_ble_eq_true rfl, Nat.le_of_ble_eq_true rfl⟩ dX6_bestShare_37) hS (fun r122 ρ123 H locs q124 hP hS => ?_)
    obtain ⟨rfl, q124⟩ := q124
    refine W.eq (g2 := F0 m 40 ls [.ref (E.2.1 + 90)]) rfl ?_
    refine lv_iload_n hx hb dX6_bestShare_40 rfl (lv_at hl 5 rfl) ?_
    refine call_i (cVt (k := 90) (av := [.int (nI N)]) (rest := []) B hP hS (c_heardInTurns l E ρ123 90 N (by decide +kernel) (q124).F90 (by omega)) lk_RX6_216 (hrecv (ci := 5) B hP (hk_lt (c := 5) (by decide +kernel) (by decide)) (hcc5 _ _ (by decide +kernel)) rfl) rfl rfl hl.1 (Nat.le_of_ble_eq_true rfl) ⟨Nat.le_of_ble_eq_true rfl, Nat.le_of_ble_eq_true rfl⟩ ⟨Nat.le_of_ble_eq_true rfl, Nat.le_of_ble_eq_true rfl⟩ dX6_bestShare_41) hS (fun r125 ρ126 H locs q127 hP hS => ?_)
    obtain ⟨rfl, q127⟩ := q127
    have bq127 : BS ρ126 := fun k hk => (q127 k hk).trans (q124 k hk)
    refine lv_istore (lv' := [(5, .int 0), (4, .int 28), (2, .int 0), (3, .int 0), (0, .ref (E.2.1 + 0)), (1, .int (nI N))]) hx hb dX6_bestShare_44 hl (by decide) rfl (fun ls hl => ?_)
    refine lv_iload hx hb dX6_bestShare_46 (lv_at hl 0 rfl) ?_
    refine lv_iload_n hx hb dX6_bestShare_48 rfl (lv_at hl 3 rfl) ?_
    refine lv_icmp_le (tgt := 58) hx hb dX6_bestShare_49 (by decide) (fun _ => ?_) (fun c128 => absurd c128 (by decide))
    refine lv_iinc (v := 30) (lv' := [(4, .int 30), (5, .int 0), (2, .int 0), (3, .int 0), (0, .ref (E.2.1 + 0)), (1, .int (nI N))]) hx hb dX6_bestShare_58 hl (k := 1) rfl (by decide) (by decide) rfl (fun ls hl => ?_)
    refine lv_goto (tgt := 27) hx hb dX6_bestShare_61 (by decide) ?_
    refine lv_iload hx hb dX6_bestShare_27 (lv_at hl 0 rfl) ?_
    refine lv_bipush (v := 32) hx hb dX6_bestShare_29 (by decide) ?_
    refine lv_icmp_gt (tgt := 64) hx hb dX6_bestShare_31 (by decide) (fun c129 => absurd c129 (by decide)) (fun _ => ?_)
    refine lv_aload_n hx hb dX6_bestShare_34 rfl (lv_at hl 4 rfl) ?_
    refine lv_iload hx hb dX6_bestShare_35 (lv_at hl 0 rfl) ?_
    refine call_q (cVt (k := 0) (av := [.int 30]) (rest := []) B hP hS (c_paperWith l E ρ126 30 bq127) lk_RX6_342 (hrecv (ci := 6) B hP (hk_lt (c := 6) (by decide +kernel) (by decide)) (hcc6 _ _ (by decide +kernel)) rfl) rfl rfl hl.1 (Nat.le_of_ble_eq_true rfl) ⟨Nat.le_of_ble_eq_true rfl, Nat.le_of_ble_eq_true rfl⟩ ⟨Nat.le_of_ble_eq_true rfl, Nat.le_of_ble_eq_true rfl⟩ dX6_bestShare_37) hS (fun r130 ρ131 H locs q132 hP hS => ?_)
    obtain ⟨rfl, q132⟩ := q132
    refine W.eq (g2 := F0 m 40 ls [.ref (E.2.1 + 90)]) rfl ?_
    refine lv_iload_n hx hb dX6_bestShare_40 rfl (lv_at hl 5 rfl) ?_
    refine call_i (cVt (k := 90) (av := [.int (nI N)]) (rest := []) B hP hS (c_heardInTurns l E ρ131 90 N (by decide +kernel) (q132).F90 (by omega)) lk_RX6_216 (hrecv (ci := 5) B hP (hk_lt (c := 5) (by decide +kernel) (by decide)) (hcc5 _ _ (by decide +kernel)) rfl) rfl rfl hl.1 (Nat.le_of_ble_eq_true rfl) ⟨Nat.le_of_ble_eq_true rfl, Nat.le_of_ble_eq_true rfl⟩ ⟨Nat.le_of_ble_eq_true rfl, Nat.le_of_ble_eq_true rfl⟩ dX6_bestShare_41) hS (fun r133 ρ134 H locs q135 hP hS => ?_)
    obtain ⟨rfl, q135⟩ := q135
    have bq135 : BS ρ134 := fun k hk => (q135 k hk).trans (q132 k hk)
    refine lv_istore (lv' := [(5, .int 0), (4, .int 30), (2, .int 0), (3, .int 0), (0, .ref (E.2.1 + 0)), (1, .int (nI N))]) hx hb dX6_bestShare_44 hl (by decide) rfl (fun ls hl => ?_)
    refine lv_iload hx hb dX6_bestShare_46 (lv_at hl 0 rfl) ?_
    refine lv_iload_n hx hb dX6_bestShare_48 rfl (lv_at hl 3 rfl) ?_
    refine lv_icmp_le (tgt := 58) hx hb dX6_bestShare_49 (by decide) (fun _ => ?_) (fun c136 => absurd c136 (by decide))
    refine lv_iinc (v := 32) (lv' := [(4, .int 32), (5, .int 0), (2, .int 0), (3, .int 0), (0, .ref (E.2.1 + 0)), (1, .int (nI N))]) hx hb dX6_bestShare_58 hl (k := 1) rfl (by decide) (by decide) rfl (fun ls hl => ?_)
    refine lv_goto (tgt := 27) hx hb dX6_bestShare_61 (by decide) ?_
    refine lv_iload hx hb dX6_bestShare_27 (lv_at hl 0 rfl) ?_
    refine lv_bipush (v := 32) hx hb dX6_bestShare_29 (by decide) ?_
    refine lv_icmp_gt (tgt := 64) hx hb dX6_bestShare_31 (by decide) (fun c137 => absurd c137 (by decide)) (fun _ => ?_)
    refine lv_aload_n hx hb dX6_bestShare_34 rfl (lv_at hl 4 rfl) ?_
    refine lv_iload hx hb dX6_bestShare_35 (lv_at hl 0 rfl) ?_
    refine call_q (cVt (k := 0) (av := [.int 32]) (rest := []) B hP hS (c_paperWith l E ρ134 32 bq135) lk_RX6_342 (hrecv (ci := 6) B hP (hk_lt (c := 6) (by decide +kernel) (by decide)) (hcc6 _ _ (by decide +kernel)) rfl) rfl rfl hl.1 (Nat.le_of_ble_eq_true rfl) ⟨Nat.le_of_ble_eq_true rfl, Nat.le_of_ble_eq_true rfl⟩ ⟨Nat.le_of_ble_eq_true rfl, Nat.le_of_ble_eq_true rfl⟩ dX6_bestShare_37) hS (fun r138 ρ139 H locs q140 hP hS => ?_)
    obtain ⟨rfl, q140⟩ := q140
    refine W.eq (g2 := F0 m 40 ls [.ref (E.2.1 + 90)]) rfl ?_
    refine lv_iload_n hx hb dX6_bestShare_40 rfl (lv_at hl 5 rfl) ?_
    refine call_i (cVt (k := 90) (av := [.int (nI N)]) (rest := []) B hP hS (c_heardInTurns l E ρ139 90 N (by decide +kernel) (q140).F90 (by omega)) lk_RX6_216 (hrecv (ci := 5) B hP (hk_lt (c := 5) (by decide +kernel) (by decide)) (hcc5 _ _ (by decide +kernel)) rfl) rfl rfl hl.1 (Nat.le_of_ble_eq_true rfl) ⟨Nat.le_of_ble_eq_true rfl, Nat.le_of_ble_eq_true rfl⟩ ⟨Nat.le_of_ble_eq_true rfl, Nat.le_of_ble_eq_true rfl⟩ dX6_bestShare_41) hS (fun r141 ρ142 H locs q143 hP hS => ?_)
    obtain ⟨rfl, q143⟩ := q143
    have bq143 : BS ρ142 := fun k hk => (q143 k hk).trans (q140 k hk)
    refine lv_istore (lv' := [(5, .int 0), (4, .int 32), (2, .int 0), (3, .int 0), (0, .ref (E.2.1 + 0)), (1, .int (nI N))]) hx hb dX6_bestShare_44 hl (by decide) rfl (fun ls hl => ?_)
    refine lv_iload hx hb dX6_bestShare_46 (lv_at hl 0 rfl) ?_
    refine lv_iload_n hx hb dX6_bestShare_48 rfl (lv_at hl 3 rfl) ?_
    refine lv_icmp_le (tgt := 58) hx hb dX6_bestShare_49 (by decide) (fun _ => ?_) (fun c144 => absurd c144 (by decide))
    refine lv_iinc (v := 34) (lv' := [(4, .int 34), (5, .int 0), (2, .int 0), (3, .int 0), (0, .ref (E.2.1 + 0)), (1, .int (nI N))]) hx hb dX6_bestShare_58 hl (k := 1) rfl (by decide) (by decide) rfl (fun ls hl => ?_)
    refine lv_goto (tgt := 27) hx hb dX6_bestShare_61 (by decide) ?_
    refine lv_iload hx hb dX6_bestShare_27 (lv_at hl 0 rfl) ?_
    refine lv_bipush (v := 32) hx hb dX6_bestShare_29 (by decide) ?_
    refine lv_icmp_gt (tgt := 64) hx hb dX6_bestShare_31 (by decide) (fun _ => ?_) (fun c145 => absurd c145 (by decide))
    refine lv_iload_n hx hb dX6_bestShare_64 rfl (lv_at hl 2 rfl) ?_
    exact ret_i B hr hlk hP hS dX6_bestShare_65 (Or.inl ⟨hn, rfl⟩)
  · skip
    refine lv_if_eq (tgt := 18) hx hb dX6_bestShare_7 (by decide) (fun _ => ?_) (fun c146 => absurd c146 (by decide))
    refine lv_iconst (v := (-1)) hx hb dX6_bestShare_18 (by decide) ?_
    exact ret_i B hr hlk hP hS dX6_bestShare_19 (Or.inr ⟨fun z => q3 z, rfl⟩)
end
