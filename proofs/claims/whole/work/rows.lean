section
-- ===== PART A: goes FIRST, ahead of the names: the tables' words, and 'selects' of the private methods out of them =====
/-- a private method of a class that the tables say can be made, by its rows of tables_1 -/
def lw_okq (q : MethodName × Nat) : Prop := (q.1.cls ≠ "java/lang/invoke/MethodHandle" ∧ q.1.cls ≠ "java/lang/invoke/VarHandle") ∧ Cond.instantiable q.1.cls q.2 ∈ tables_1 ∧ Cond.privateMethod q.1 ∈ tables_1 ∧ Cond.instanceMethod q.1 ∈ tables_1
theorem lw_p0 : lw_okq (⟨"CableShip", "deadLinks", "()I"⟩, 12) := ⟨⟨by decide +kernel, by decide +kernel⟩, List.mem_of_getElem? (i := 21) (by decide +kernel), List.mem_of_getElem? (i := 254) (by decide +kernel), List.mem_of_getElem? (i := 255) (by decide +kernel)⟩
theorem lw_p1 : lw_okq (⟨"CableShip", "lineWorks", "()Z"⟩, 12) := ⟨⟨by decide +kernel, by decide +kernel⟩, List.mem_of_getElem? (i := 21) (by decide +kernel), List.mem_of_getElem? (i := 266) (by decide +kernel), List.mem_of_getElem? (i := 267) (by decide +kernel)⟩
theorem lw_p2 : lw_okq (⟨"CableShip", "liesAtB", "()Z"⟩, 12) := ⟨⟨by decide +kernel, by decide +kernel⟩, List.mem_of_getElem? (i := 21) (by decide +kernel), List.mem_of_getElem? (i := 270) (by decide +kernel), List.mem_of_getElem? (i := 271) (by decide +kernel)⟩
theorem lw_p3 : lw_okq (⟨"CableShip", "lineIsFed", "()Z"⟩, 12) := ⟨⟨by decide +kernel, by decide +kernel⟩, List.mem_of_getElem? (i := 21) (by decide +kernel), List.mem_of_getElem? (i := 279) (by decide +kernel), List.mem_of_getElem? (i := 280) (by decide +kernel)⟩
theorem lw_p4 : lw_okq (⟨"CableShip", "marginToday", "()I"⟩, 12) := ⟨⟨by decide +kernel, by decide +kernel⟩, List.mem_of_getElem? (i := 21) (by decide +kernel), List.mem_of_getElem? (i := 307) (by decide +kernel), List.mem_of_getElem? (i := 308) (by decide +kernel)⟩
theorem lw_p5 : lw_okq (⟨"CableShip$Network", "usableLinks", "(II)I"⟩, 3) := ⟨⟨by decide +kernel, by decide +kernel⟩, List.mem_of_getElem? (i := 167) (by decide +kernel), List.mem_of_getElem? (i := 335) (by decide +kernel), List.mem_of_getElem? (i := 336) (by decide +kernel)⟩
theorem lw_p6 : lw_okq (⟨"CableShip$Network", "freeOn", "(I)I"⟩, 3) := ⟨⟨by decide +kernel, by decide +kernel⟩, List.mem_of_getElem? (i := 167) (by decide +kernel), List.mem_of_getElem? (i := 339) (by decide +kernel), List.mem_of_getElem? (i := 340) (by decide +kernel)⟩
theorem lw_p7 : lw_okq (⟨"CableShip$Network", "countSteps", "(II)V"⟩, 3) := ⟨⟨by decide +kernel, by decide +kernel⟩, List.mem_of_getElem? (i := 167) (by decide +kernel), List.mem_of_getElem? (i := 343) (by decide +kernel), List.mem_of_getElem? (i := 344) (by decide +kernel)⟩
theorem lw_p8 : lw_okq (⟨"CableShip$Network", "shorten", "(II)V"⟩, 3) := ⟨⟨by decide +kernel, by decide +kernel⟩, List.mem_of_getElem? (i := 167) (by decide +kernel), List.mem_of_getElem? (i := 348) (by decide +kernel), List.mem_of_getElem? (i := 349) (by decide +kernel)⟩
theorem lw_p9 : lw_okq (⟨"CableShip$Network", "stepsFrom", "(I)I"⟩, 3) := ⟨⟨by decide +kernel, by decide +kernel⟩, List.mem_of_getElem? (i := 167) (by decide +kernel), List.mem_of_getElem? (i := 352) (by decide +kernel), List.mem_of_getElem? (i := 353) (by decide +kernel)⟩
theorem lw_p10 : lw_okq (⟨"CableShip$Network", "bestWay", "(II)I"⟩, 3) := ⟨⟨by decide +kernel, by decide +kernel⟩, List.mem_of_getElem? (i := 167) (by decide +kernel), List.mem_of_getElem? (i := 356) (by decide +kernel), List.mem_of_getElem? (i := 357) (by decide +kernel)⟩
theorem lw_p11 : lw_okq (⟨"CableShip$Network", "otherEnd", "(II)I"⟩, 3) := ⟨⟨by decide +kernel, by decide +kernel⟩, List.mem_of_getElem? (i := 167) (by decide +kernel), List.mem_of_getElem? (i := 360) (by decide +kernel), List.mem_of_getElem? (i := 361) (by decide +kernel)⟩
theorem lw_p12 : lw_okq (⟨"java/lang/Throwable", "fillInStackTrace", "(I)Ljava/lang/Throwable;"⟩, 6) := ⟨⟨by decide +kernel, by decide +kernel⟩, List.mem_of_getElem? (i := 478) (by decide +kernel), List.mem_of_getElem? (i := 476) (by decide +kernel), List.mem_of_getElem? (i := 477) (by decide +kernel)⟩
theorem lw_p13 : lw_okq (⟨"CableShip", "passOneDay", "()V"⟩, 12) := ⟨⟨by decide +kernel, by decide +kernel⟩, List.mem_of_getElem? (i := 21) (by decide +kernel), List.mem_of_getElem? (i := 581) (by decide +kernel), List.mem_of_getElem? (i := 582) (by decide +kernel)⟩
theorem lw_p14 : lw_okq (⟨"CableShip", "buoy", "()V"⟩, 12) := ⟨⟨by decide +kernel, by decide +kernel⟩, List.mem_of_getElem? (i := 21) (by decide +kernel), List.mem_of_getElem? (i := 590) (by decide +kernel), List.mem_of_getElem? (i := 591) (by decide +kernel)⟩
theorem lw_p15 : lw_okq (⟨"CableShip", "layOneCell", "(II)Z"⟩, 12) := ⟨⟨by decide +kernel, by decide +kernel⟩, List.mem_of_getElem? (i := 21) (by decide +kernel), List.mem_of_getElem? (i := 650) (by decide +kernel), List.mem_of_getElem? (i := 651) (by decide +kernel)⟩
def lw_privs_1 : List (MethodName × Nat) := [(⟨"CableShip", "deadLinks", "()I"⟩, 12), (⟨"CableShip", "lineWorks", "()Z"⟩, 12), (⟨"CableShip", "liesAtB", "()Z"⟩, 12), (⟨"CableShip", "lineIsFed", "()Z"⟩, 12), (⟨"CableShip", "marginToday", "()I"⟩, 12), (⟨"CableShip$Network", "usableLinks", "(II)I"⟩, 3), (⟨"CableShip$Network", "freeOn", "(I)I"⟩, 3), (⟨"CableShip$Network", "countSteps", "(II)V"⟩, 3), (⟨"CableShip$Network", "shorten", "(II)V"⟩, 3), (⟨"CableShip$Network", "stepsFrom", "(I)I"⟩, 3), (⟨"CableShip$Network", "bestWay", "(II)I"⟩, 3), (⟨"CableShip$Network", "otherEnd", "(II)I"⟩, 3), (⟨"java/lang/Throwable", "fillInStackTrace", "(I)Ljava/lang/Throwable;"⟩, 6), (⟨"CableShip", "passOneDay", "()V"⟩, 12), (⟨"CableShip", "buoy", "()V"⟩, 12), (⟨"CableShip", "layOneCell", "(II)Z"⟩, 12)]
theorem lw_r1 : ∀ q ∈ lw_privs_1, lw_okq q := List.forall_mem_cons.mpr ⟨lw_p0, List.forall_mem_cons.mpr ⟨lw_p1, List.forall_mem_cons.mpr ⟨lw_p2, List.forall_mem_cons.mpr ⟨lw_p3, List.forall_mem_cons.mpr ⟨lw_p4, List.forall_mem_cons.mpr ⟨lw_p5, List.forall_mem_cons.mpr ⟨lw_p6, List.forall_mem_cons.mpr ⟨lw_p7, List.forall_mem_cons.mpr ⟨lw_p8, List.forall_mem_cons.mpr ⟨lw_p9, List.forall_mem_cons.mpr ⟨lw_p10, List.forall_mem_cons.mpr ⟨lw_p11, List.forall_mem_cons.mpr ⟨lw_p12, List.forall_mem_cons.mpr ⟨lw_p13, List.forall_mem_cons.mpr ⟨lw_p14, List.forall_mem_cons.mpr ⟨lw_p15, fun _ h => absurd h List.not_mem_nil⟩⟩⟩⟩⟩⟩⟩⟩⟩⟩⟩⟩⟩⟩⟩⟩
theorem lw_p16 : lw_okq (⟨"CableShip", "mayGoOn", "()Z"⟩, 12) := ⟨⟨by decide +kernel, by decide +kernel⟩, List.mem_of_getElem? (i := 21) (by decide +kernel), List.mem_of_getElem? (i := 654) (by decide +kernel), List.mem_of_getElem? (i := 655) (by decide +kernel)⟩
theorem lw_p17 : lw_okq (⟨"CableShip", "typeAt", "(I)I"⟩, 12) := ⟨⟨by decide +kernel, by decide +kernel⟩, List.mem_of_getElem? (i := 21) (by decide +kernel), List.mem_of_getElem? (i := 692) (by decide +kernel), List.mem_of_getElem? (i := 693) (by decide +kernel)⟩
theorem lw_p18 : lw_okq (⟨"CableShip", "putBehind", "()V"⟩, 12) := ⟨⟨by decide +kernel, by decide +kernel⟩, List.mem_of_getElem? (i := 21) (by decide +kernel), List.mem_of_getElem? (i := 716) (by decide +kernel), List.mem_of_getElem? (i := 717) (by decide +kernel)⟩
theorem lw_p19 : lw_okq (⟨"CableShip$Row", "goesOn", "(III)Z"⟩, 5) := ⟨⟨by decide +kernel, by decide +kernel⟩, List.mem_of_getElem? (i := 116) (by decide +kernel), List.mem_of_getElem? (i := 733) (by decide +kernel), List.mem_of_getElem? (i := 734) (by decide +kernel)⟩
theorem lw_p20 : lw_okq (⟨"CableShip$Row", "cutThings", "(II)I"⟩, 5) := ⟨⟨by decide +kernel, by decide +kernel⟩, List.mem_of_getElem? (i := 116) (by decide +kernel), List.mem_of_getElem? (i := 846) (by decide +kernel), List.mem_of_getElem? (i := 847) (by decide +kernel)⟩
theorem lw_p21 : lw_okq (⟨"CableShip$Row", "divideAt", "(I)V"⟩, 5) := ⟨⟨by decide +kernel, by decide +kernel⟩, List.mem_of_getElem? (i := 116) (by decide +kernel), List.mem_of_getElem? (i := 850) (by decide +kernel), List.mem_of_getElem? (i := 851) (by decide +kernel)⟩
theorem lw_p22 : lw_okq (⟨"CableShipModel", "depthOf", "(I)I"⟩, 54) := ⟨⟨by decide +kernel, by decide +kernel⟩, List.mem_of_getElem? (i := 1001) (by decide +kernel), List.mem_of_getElem? (i := 1184) (by decide +kernel), List.mem_of_getElem? (i := 1185) (by decide +kernel)⟩
theorem lw_p23 : lw_okq (⟨"CableShipModel", "liesAtB", "()Z"⟩, 54) := ⟨⟨by decide +kernel, by decide +kernel⟩, List.mem_of_getElem? (i := 1001) (by decide +kernel), List.mem_of_getElem? (i := 1206) (by decide +kernel), List.mem_of_getElem? (i := 1207) (by decide +kernel)⟩
theorem lw_p24 : lw_okq (⟨"CableShipModel", "buoys", "()V"⟩, 54) := ⟨⟨by decide +kernel, by decide +kernel⟩, List.mem_of_getElem? (i := 1001) (by decide +kernel), List.mem_of_getElem? (i := 1210) (by decide +kernel), List.mem_of_getElem? (i := 1211) (by decide +kernel)⟩
theorem lw_p25 : lw_okq (⟨"CableShipModel", "metres", "()I"⟩, 54) := ⟨⟨by decide +kernel, by decide +kernel⟩, List.mem_of_getElem? (i := 1001) (by decide +kernel), List.mem_of_getElem? (i := 1214) (by decide +kernel), List.mem_of_getElem? (i := 1215) (by decide +kernel)⟩
theorem lw_p26 : lw_okq (⟨"CableShipModel", "lengthOf", "(I)I"⟩, 54) := ⟨⟨by decide +kernel, by decide +kernel⟩, List.mem_of_getElem? (i := 1001) (by decide +kernel), List.mem_of_getElem? (i := 1218) (by decide +kernel), List.mem_of_getElem? (i := 1219) (by decide +kernel)⟩
theorem lw_p27 : lw_okq (⟨"CableShipModel", "doubts", "()V"⟩, 54) := ⟨⟨by decide +kernel, by decide +kernel⟩, List.mem_of_getElem? (i := 1001) (by decide +kernel), List.mem_of_getElem? (i := 1222) (by decide +kernel), List.mem_of_getElem? (i := 1223) (by decide +kernel)⟩
theorem lw_p28 : lw_okq (⟨"CableShipModel", "lays", "(II)Z"⟩, 54) := ⟨⟨by decide +kernel, by decide +kernel⟩, List.mem_of_getElem? (i := 1001) (by decide +kernel), List.mem_of_getElem? (i := 1235) (by decide +kernel), List.mem_of_getElem? (i := 1236) (by decide +kernel)⟩
theorem lw_p29 : lw_okq (⟨"CableShipModel", "ships", "()Z"⟩, 54) := ⟨⟨by decide +kernel, by decide +kernel⟩, List.mem_of_getElem? (i := 1001) (by decide +kernel), List.mem_of_getElem? (i := 1239) (by decide +kernel), List.mem_of_getElem? (i := 1240) (by decide +kernel)⟩
theorem lw_p30 : lw_okq (⟨"CableShipModel", "ground", "(I)I"⟩, 54) := ⟨⟨by decide +kernel, by decide +kernel⟩, List.mem_of_getElem? (i := 1001) (by decide +kernel), List.mem_of_getElem? (i := 1243) (by decide +kernel), List.mem_of_getElem? (i := 1244) (by decide +kernel)⟩
theorem lw_p31 : lw_okq (⟨"CableShipModel", "wouldGo", "(II)Z"⟩, 54) := ⟨⟨by decide +kernel, by decide +kernel⟩, List.mem_of_getElem? (i := 1001) (by decide +kernel), List.mem_of_getElem? (i := 1247) (by decide +kernel), List.mem_of_getElem? (i := 1248) (by decide +kernel)⟩
def lw_privs_2 : List (MethodName × Nat) := [(⟨"CableShip", "mayGoOn", "()Z"⟩, 12), (⟨"CableShip", "typeAt", "(I)I"⟩, 12), (⟨"CableShip", "putBehind", "()V"⟩, 12), (⟨"CableShip$Row", "goesOn", "(III)Z"⟩, 5), (⟨"CableShip$Row", "cutThings", "(II)I"⟩, 5), (⟨"CableShip$Row", "divideAt", "(I)V"⟩, 5), (⟨"CableShipModel", "depthOf", "(I)I"⟩, 54), (⟨"CableShipModel", "liesAtB", "()Z"⟩, 54), (⟨"CableShipModel", "buoys", "()V"⟩, 54), (⟨"CableShipModel", "metres", "()I"⟩, 54), (⟨"CableShipModel", "lengthOf", "(I)I"⟩, 54), (⟨"CableShipModel", "doubts", "()V"⟩, 54), (⟨"CableShipModel", "lays", "(II)Z"⟩, 54), (⟨"CableShipModel", "ships", "()Z"⟩, 54), (⟨"CableShipModel", "ground", "(I)I"⟩, 54), (⟨"CableShipModel", "wouldGo", "(II)Z"⟩, 54)]
theorem lw_r2 : ∀ q ∈ lw_privs_2, lw_okq q := List.forall_mem_cons.mpr ⟨lw_p16, List.forall_mem_cons.mpr ⟨lw_p17, List.forall_mem_cons.mpr ⟨lw_p18, List.forall_mem_cons.mpr ⟨lw_p19, List.forall_mem_cons.mpr ⟨lw_p20, List.forall_mem_cons.mpr ⟨lw_p21, List.forall_mem_cons.mpr ⟨lw_p22, List.forall_mem_cons.mpr ⟨lw_p23, List.forall_mem_cons.mpr ⟨lw_p24, List.forall_mem_cons.mpr ⟨lw_p25, List.forall_mem_cons.mpr ⟨lw_p26, List.forall_mem_cons.mpr ⟨lw_p27, List.forall_mem_cons.mpr ⟨lw_p28, List.forall_mem_cons.mpr ⟨lw_p29, List.forall_mem_cons.mpr ⟨lw_p30, List.forall_mem_cons.mpr ⟨lw_p31, fun _ h => absurd h List.not_mem_nil⟩⟩⟩⟩⟩⟩⟩⟩⟩⟩⟩⟩⟩⟩⟩⟩
theorem lw_p32 : lw_okq (⟨"CableShipModel", "holds", "(I)Z"⟩, 54) := ⟨⟨by decide +kernel, by decide +kernel⟩, List.mem_of_getElem? (i := 1001) (by decide +kernel), List.mem_of_getElem? (i := 1251) (by decide +kernel), List.mem_of_getElem? (i := 1252) (by decide +kernel)⟩
theorem lw_p33 : lw_okq (⟨"CableShipModel", "lastType", "()I"⟩, 54) := ⟨⟨by decide +kernel, by decide +kernel⟩, List.mem_of_getElem? (i := 1001) (by decide +kernel), List.mem_of_getElem? (i := 1258) (by decide +kernel), List.mem_of_getElem? (i := 1259) (by decide +kernel)⟩
theorem lw_p34 : lw_okq (⟨"CableShipModel", "typeAt", "(I)I"⟩, 54) := ⟨⟨by decide +kernel, by decide +kernel⟩, List.mem_of_getElem? (i := 1001) (by decide +kernel), List.mem_of_getElem? (i := 1262) (by decide +kernel), List.mem_of_getElem? (i := 1263) (by decide +kernel)⟩
theorem lw_p35 : lw_okq (⟨"CableShipModel", "typesFit", "(II)Z"⟩, 54) := ⟨⟨by decide +kernel, by decide +kernel⟩, List.mem_of_getElem? (i := 1001) (by decide +kernel), List.mem_of_getElem? (i := 1266) (by decide +kernel), List.mem_of_getElem? (i := 1267) (by decide +kernel)⟩
theorem lw_p36 : lw_okq (⟨"CableShipModel", "goesOut", "(I)V"⟩, 54) := ⟨⟨by decide +kernel, by decide +kernel⟩, List.mem_of_getElem? (i := 1001) (by decide +kernel), List.mem_of_getElem? (i := 1270) (by decide +kernel), List.mem_of_getElem? (i := 1271) (by decide +kernel)⟩
theorem lw_p37 : lw_okq (⟨"CableShipModel", "appends", "()V"⟩, 54) := ⟨⟨by decide +kernel, by decide +kernel⟩, List.mem_of_getElem? (i := 1001) (by decide +kernel), List.mem_of_getElem? (i := 1274) (by decide +kernel), List.mem_of_getElem? (i := 1275) (by decide +kernel)⟩
theorem lw_p38 : lw_okq (⟨"CableShipModel", "puts", "(IIII)V"⟩, 54) := ⟨⟨by decide +kernel, by decide +kernel⟩, List.mem_of_getElem? (i := 1001) (by decide +kernel), List.mem_of_getElem? (i := 1278) (by decide +kernel), List.mem_of_getElem? (i := 1279) (by decide +kernel)⟩
theorem lw_p39 : lw_okq (⟨"CableShipModel", "many", "(I)I"⟩, 54) := ⟨⟨by decide +kernel, by decide +kernel⟩, List.mem_of_getElem? (i := 1001) (by decide +kernel), List.mem_of_getElem? (i := 1286) (by decide +kernel), List.mem_of_getElem? (i := 1287) (by decide +kernel)⟩
theorem lw_p40 : lw_okq (⟨"CableShipModel", "marginOf", "()I"⟩, 54) := ⟨⟨by decide +kernel, by decide +kernel⟩, List.mem_of_getElem? (i := 1001) (by decide +kernel), List.mem_of_getElem? (i := 1302) (by decide +kernel), List.mem_of_getElem? (i := 1303) (by decide +kernel)⟩
theorem lw_p41 : lw_okq (⟨"CableShipModel", "feeds", "()Z"⟩, 54) := ⟨⟨by decide +kernel, by decide +kernel⟩, List.mem_of_getElem? (i := 1001) (by decide +kernel), List.mem_of_getElem? (i := 1314) (by decide +kernel), List.mem_of_getElem? (i := 1315) (by decide +kernel)⟩
theorem lw_p42 : lw_okq (⟨"CableShipModel", "drops", "(II)I"⟩, 54) := ⟨⟨by decide +kernel, by decide +kernel⟩, List.mem_of_getElem? (i := 1001) (by decide +kernel), List.mem_of_getElem? (i := 1318) (by decide +kernel), List.mem_of_getElem? (i := 1319) (by decide +kernel)⟩
theorem lw_p43 : lw_okq (⟨"CableShipModel", "dropsBehind", "(II)I"⟩, 54) := ⟨⟨by decide +kernel, by decide +kernel⟩, List.mem_of_getElem? (i := 1001) (by decide +kernel), List.mem_of_getElem? (i := 1322) (by decide +kernel), List.mem_of_getElem? (i := 1323) (by decide +kernel)⟩
theorem lw_p44 : lw_okq (⟨"CableShipModel", "repeatersUpTo", "(I)I"⟩, 54) := ⟨⟨by decide +kernel, by decide +kernel⟩, List.mem_of_getElem? (i := 1001) (by decide +kernel), List.mem_of_getElem? (i := 1326) (by decide +kernel), List.mem_of_getElem? (i := 1327) (by decide +kernel)⟩
theorem lw_p45 : lw_okq (⟨"CableShipModel", "worksNow", "()Z"⟩, 54) := ⟨⟨by decide +kernel, by decide +kernel⟩, List.mem_of_getElem? (i := 1001) (by decide +kernel), List.mem_of_getElem? (i := 1334) (by decide +kernel), List.mem_of_getElem? (i := 1335) (by decide +kernel)⟩
theorem lw_p46 : lw_okq (⟨"CableShipModel", "comes", "(II)V"⟩, 54) := ⟨⟨by decide +kernel, by decide +kernel⟩, List.mem_of_getElem? (i := 1001) (by decide +kernel), List.mem_of_getElem? (i := 1342) (by decide +kernel), List.mem_of_getElem? (i := 1343) (by decide +kernel)⟩
theorem lw_p47 : lw_okq (⟨"CableShipModel", "begins", "(I)I"⟩, 54) := ⟨⟨by decide +kernel, by decide +kernel⟩, List.mem_of_getElem? (i := 1001) (by decide +kernel), List.mem_of_getElem? (i := 1350) (by decide +kernel), List.mem_of_getElem? (i := 1351) (by decide +kernel)⟩
def lw_privs_3 : List (MethodName × Nat) := [(⟨"CableShipModel", "holds", "(I)Z"⟩, 54), (⟨"CableShipModel", "lastType", "()I"⟩, 54), (⟨"CableShipModel", "typeAt", "(I)I"⟩, 54), (⟨"CableShipModel", "typesFit", "(II)Z"⟩, 54), (⟨"CableShipModel", "goesOut", "(I)V"⟩, 54), (⟨"CableShipModel", "appends", "()V"⟩, 54), (⟨"CableShipModel", "puts", "(IIII)V"⟩, 54), (⟨"CableShipModel", "many", "(I)I"⟩, 54), (⟨"CableShipModel", "marginOf", "()I"⟩, 54), (⟨"CableShipModel", "feeds", "()Z"⟩, 54), (⟨"CableShipModel", "drops", "(II)I"⟩, 54), (⟨"CableShipModel", "dropsBehind", "(II)I"⟩, 54), (⟨"CableShipModel", "repeatersUpTo", "(I)I"⟩, 54), (⟨"CableShipModel", "worksNow", "()Z"⟩, 54), (⟨"CableShipModel", "comes", "(II)V"⟩, 54), (⟨"CableShipModel", "begins", "(I)I"⟩, 54)]
theorem lw_r3 : ∀ q ∈ lw_privs_3, lw_okq q := List.forall_mem_cons.mpr ⟨lw_p32, List.forall_mem_cons.mpr ⟨lw_p33, List.forall_mem_cons.mpr ⟨lw_p34, List.forall_mem_cons.mpr ⟨lw_p35, List.forall_mem_cons.mpr ⟨lw_p36, List.forall_mem_cons.mpr ⟨lw_p37, List.forall_mem_cons.mpr ⟨lw_p38, List.forall_mem_cons.mpr ⟨lw_p39, List.forall_mem_cons.mpr ⟨lw_p40, List.forall_mem_cons.mpr ⟨lw_p41, List.forall_mem_cons.mpr ⟨lw_p42, List.forall_mem_cons.mpr ⟨lw_p43, List.forall_mem_cons.mpr ⟨lw_p44, List.forall_mem_cons.mpr ⟨lw_p45, List.forall_mem_cons.mpr ⟨lw_p46, List.forall_mem_cons.mpr ⟨lw_p47, fun _ h => absurd h List.not_mem_nil⟩⟩⟩⟩⟩⟩⟩⟩⟩⟩⟩⟩⟩⟩⟩⟩
theorem lw_p48 : lw_okq (⟨"CableShipModel", "canMend", "(II)Z"⟩, 54) := ⟨⟨by decide +kernel, by decide +kernel⟩, List.mem_of_getElem? (i := 1001) (by decide +kernel), List.mem_of_getElem? (i := 1362) (by decide +kernel), List.mem_of_getElem? (i := 1363) (by decide +kernel)⟩
theorem lw_p49 : lw_okq (⟨"CableShipModel", "keepsFrom", "(IIIZ)V"⟩, 54) := ⟨⟨by decide +kernel, by decide +kernel⟩, List.mem_of_getElem? (i := 1001) (by decide +kernel), List.mem_of_getElem? (i := 1366) (by decide +kernel), List.mem_of_getElem? (i := 1367) (by decide +kernel)⟩
theorem lw_p50 : lw_okq (⟨"CableShipModel", "keeps", "(IIII)V"⟩, 54) := ⟨⟨by decide +kernel, by decide +kernel⟩, List.mem_of_getElem? (i := 1001) (by decide +kernel), List.mem_of_getElem? (i := 1370) (by decide +kernel), List.mem_of_getElem? (i := 1371) (by decide +kernel)⟩
theorem lw_p51 : lw_okq (⟨"CableShipModel", "mendsFaults", "(III)I"⟩, 54) := ⟨⟨by decide +kernel, by decide +kernel⟩, List.mem_of_getElem? (i := 1001) (by decide +kernel), List.mem_of_getElem? (i := 1374) (by decide +kernel), List.mem_of_getElem? (i := 1375) (by decide +kernel)⟩
theorem lw_p52 : lw_okq (⟨"CableShipModel", "carries", "(I)V"⟩, 54) := ⟨⟨by decide +kernel, by decide +kernel⟩, List.mem_of_getElem? (i := 1001) (by decide +kernel), List.mem_of_getElem? (i := 1390) (by decide +kernel), List.mem_of_getElem? (i := 1391) (by decide +kernel)⟩
theorem lw_p53 : lw_okq (⟨"CableShipModel", "wayOf", "(II)I"⟩, 54) := ⟨⟨by decide +kernel, by decide +kernel⟩, List.mem_of_getElem? (i := 1001) (by decide +kernel), List.mem_of_getElem? (i := 1394) (by decide +kernel), List.mem_of_getElem? (i := 1395) (by decide +kernel)⟩
theorem lw_p54 : lw_okq (⟨"CableShipModel", "hasFree", "(II)Z"⟩, 54) := ⟨⟨by decide +kernel, by decide +kernel⟩, List.mem_of_getElem? (i := 1001) (by decide +kernel), List.mem_of_getElem? (i := 1398) (by decide +kernel), List.mem_of_getElem? (i := 1399) (by decide +kernel)⟩
theorem lw_p55 : lw_okq (⟨"CableShipModel", "isDeadNow", "(I)Z"⟩, 54) := ⟨⟨by decide +kernel, by decide +kernel⟩, List.mem_of_getElem? (i := 1001) (by decide +kernel), List.mem_of_getElem? (i := 1402) (by decide +kernel), List.mem_of_getElem? (i := 1403) (by decide +kernel)⟩
theorem lw_p56 : lw_okq (⟨"CableShipModel", "across", "(II)I"⟩, 54) := ⟨⟨by decide +kernel, by decide +kernel⟩, List.mem_of_getElem? (i := 1001) (by decide +kernel), List.mem_of_getElem? (i := 1406) (by decide +kernel), List.mem_of_getElem? (i := 1407) (by decide +kernel)⟩
theorem lw_p57 : lw_okq (⟨"CableShipModel", "isCarried", "(I)Z"⟩, 54) := ⟨⟨by decide +kernel, by decide +kernel⟩, List.mem_of_getElem? (i := 1001) (by decide +kernel), List.mem_of_getElem? (i := 1414) (by decide +kernel), List.mem_of_getElem? (i := 1415) (by decide +kernel)⟩
theorem lw_p58 : lw_okq (⟨"CableShipModel", "inTank", "(I)I"⟩, 54) := ⟨⟨by decide +kernel, by decide +kernel⟩, List.mem_of_getElem? (i := 1001) (by decide +kernel), List.mem_of_getElem? (i := 1450) (by decide +kernel), List.mem_of_getElem? (i := 1451) (by decide +kernel)⟩
theorem lw_p59 : lw_okq (⟨"CableShipModel", "metreAt", "(I)I"⟩, 54) := ⟨⟨by decide +kernel, by decide +kernel⟩, List.mem_of_getElem? (i := 1001) (by decide +kernel), List.mem_of_getElem? (i := 1466) (by decide +kernel), List.mem_of_getElem? (i := 1467) (by decide +kernel)⟩
def lw_privs_4 : List (MethodName × Nat) := [(⟨"CableShipModel", "canMend", "(II)Z"⟩, 54), (⟨"CableShipModel", "keepsFrom", "(IIIZ)V"⟩, 54), (⟨"CableShipModel", "keeps", "(IIII)V"⟩, 54), (⟨"CableShipModel", "mendsFaults", "(III)I"⟩, 54), (⟨"CableShipModel", "carries", "(I)V"⟩, 54), (⟨"CableShipModel", "wayOf", "(II)I"⟩, 54), (⟨"CableShipModel", "hasFree", "(II)Z"⟩, 54), (⟨"CableShipModel", "isDeadNow", "(I)Z"⟩, 54), (⟨"CableShipModel", "across", "(II)I"⟩, 54), (⟨"CableShipModel", "isCarried", "(I)Z"⟩, 54), (⟨"CableShipModel", "inTank", "(I)I"⟩, 54), (⟨"CableShipModel", "metreAt", "(I)I"⟩, 54)]
theorem lw_r4 : ∀ q ∈ lw_privs_4, lw_okq q := List.forall_mem_cons.mpr ⟨lw_p48, List.forall_mem_cons.mpr ⟨lw_p49, List.forall_mem_cons.mpr ⟨lw_p50, List.forall_mem_cons.mpr ⟨lw_p51, List.forall_mem_cons.mpr ⟨lw_p52, List.forall_mem_cons.mpr ⟨lw_p53, List.forall_mem_cons.mpr ⟨lw_p54, List.forall_mem_cons.mpr ⟨lw_p55, List.forall_mem_cons.mpr ⟨lw_p56, List.forall_mem_cons.mpr ⟨lw_p57, List.forall_mem_cons.mpr ⟨lw_p58, List.forall_mem_cons.mpr ⟨lw_p59, fun _ h => absurd h List.not_mem_nil⟩⟩⟩⟩⟩⟩⟩⟩⟩⟩⟩⟩
def lw_privs : List (MethodName × Nat) := lw_privs_1 ++ (lw_privs_2 ++ (lw_privs_3 ++ (lw_privs_4)))
def lw_tbl : List Cond := k2_sels lw_privs ++ tables_1
theorem lw_privs_ok : ∀ q ∈ lw_privs, lw_okq q := by
  show ∀ q ∈ lw_privs_1 ++ (lw_privs_2 ++ (lw_privs_3 ++ (lw_privs_4))), lw_okq q
  exact List.forall_mem_append.mpr ⟨lw_r1, List.forall_mem_append.mpr ⟨lw_r2, List.forall_mem_append.mpr ⟨lw_r3, lw_r4⟩⟩⟩
/-! ===== BEGIN words of one list among another's, by their places ===== -/
theorem goodIn_r {big : List Cond} (ws : List Cond) (ps : List Nat) (hp : ws = ps.filterMap (fun i => big[i]?)) (h : ws.all goodWord = true) : GoodIn big ws := by
  intro w hw
  have h1 := List.all_eq_true.mp h w hw
  rw [hp] at hw
  obtain ⟨i, -, hi⟩ := List.mem_filterMap.mp hw
  have hm : w ∈ big := by first | exact List.mem_of_getElem? hi | exact List.getElem?_mem hi
  exact ⟨hm, good_of_word h1⟩
theorem goodIn_app {big a b : List Cond} (ha : GoodIn big a) (hb : GoodIn big b) : GoodIn big (a ++ b) := fun w h => (List.mem_append.mp h).elim (ha w) (hb w)
theorem goodIn_ca {big a b : List Cond} {c : Cond} (ha : GoodIn big (c :: a)) (hb : GoodIn big b) : GoodIn big (c :: (a ++ b)) := fun w h => (List.mem_cons.mp h).elim (fun e => ha w (List.mem_cons.mpr (Or.inl e))) (fun h => (List.mem_append.mp h).elim (fun h => ha w (List.mem_cons.mpr (Or.inr h))) (hb w))
theorem goodIn_sub {big ws : List Cond} (hm : ∀ w ∈ ws, w ∈ big) (h : ws.all goodWord = true) : GoodIn big ws := fun w hw => ⟨hm w hw, good_of_word (List.all_eq_true.mp h w hw)⟩
/-! ===== END ===== -/

/-! ===== BEGIN exceptions that leave a method, and their catching by the caller (launches without stack traces) ===== -/
section VXA
/-! The laws vx_back, vx_callV, vx_callS, vx_callSW, vx_throw0, vx_throwS follow proofs of the library, with one case more: JvmDerived/Free/Laws.lean (Back.of_free), Shelf42/LK1.lean (callV, callS), Shelf/KitTraced.lean (throwNew0V, throwNewS). -/
/-- where a method has thrown q: the class by its name, the cell, what was written, the world -/
def vx_T (XC : String → State → State → Prop) (st : State) (q : Addr) (t : State) (mc ms : Nat) (free : Addr → Prop) : Prop :=
  ∃ (E : String) (ce : Cell) (L : List Loc), XC E st t ∧ t.heap[q]? = some ce ∧ ce.vm = .none ∧ st.vm.findClass E = some ce.cls ∧ st.WarmedH t.vm ∧ st.sameButNew ({ t with vm := st.vm } : State) L mc ms ∧ ∀ z ∈ L, free z.base
def vx_Q (Qc : Array Value → State → Outcome → State → Prop) (XC : String → State → State → Prop) (mc ms : Nat) (free : Addr → Prop) : Array Value → State → Outcome → State → Prop := fun a st o t =>
  (Qc a st o t ∧ ∃ L, FrameEnd st o t L mc ms ∧ ∀ q ∈ L, free q.base) ∨ ∃ q, o = .threw q ∧ vx_T XC st q t mc ms free
/-- a callee that returns or throws -/
def vx_Met (l : Launch) (y : MethodName) (ws : List Cond) (rm : Room) (Pc : Array Value → State → Prop) (Qc : Array Value → State → Outcome → State → Prop) (XC : String → State → State → Prop) (mc ms : Nat) (free : Addr → Prop) : Prop :=
  MetFree l y (headSpec ws rm) Pc (fun _ _ _ _ _ => True) (vx_Q Qc XC mc ms free)
def vx_Post (XC : String → State → State → Prop) (mc ms : Nat) (free : Addr → Prop) : Pt → Array Value → Addr → Pt → Prop := fun A a q B =>
  ∃ (g : JFrame) (mk : MethodId) (t : State) (L : List Loc) (E : String) (ce : Cell), B.U.heap = t.heap ∧ B.U.vm = t.vm ∧ XC E (A.U.calling g mk a) t ∧ t.heap[q]? = some ce ∧ ce.vm = .none ∧ A.U.vm.findClass E = some ce.cls ∧ B.locs = A.locs ++ L ∧ (∀ z ∈ L, free z.base) ∧ B.cells = A.cells + mc ∧ B.slots = A.slots + ms
def vx_Back (l : Launch) (R : Room) (p : Program) (e : Env) (below : List Frame) (s : State) (sargs : Array Value) (y : MethodName) (len W9 : Nat)
    (Pre : Pt → Array Value → Prop) (Post : Pt → Array Value → Option Value → Pt → Prop) (PostX : Pt → Array Value → Addr → Pt → Prop) : Prop :=
  ∀ (m : MethodId) (meth : Method) (c : Code) (A : Pt) (g : JFrame) (ig : Instr) (mk : MethodId) (a : Array Value),
    Stand p l e R s m sargs below meth c A.U A.locs A.cells A.slots → g.method = m → g.locals.size = c.maxLocals → decode c.code g.pc = .ok (ig, len) →
    2 * g.monitorRoom + (g.stack.map fun v => v.category).sum ≤ W9 → A.U.methodNamed? y = some mk → Pre A a →
    (∃ (v : Option Value) (B : Pt), Stand p l e R s m sargs below meth c B.U B.locs B.cells B.slots ∧ Post A a v B ∧
      Steps p.tables e below (doInvoke e (A.U.setTop g) [] mk a).1 (B.U.setTop { g with pc := g.pc + len, stack := v.toList ++ g.stack })) ∨
    (∃ (q : Addr) (B : Pt), Stand p l e R s m sargs below meth c B.U B.locs B.cells B.slots ∧ PostX A a q B ∧
      Steps p.tables e below (doInvoke e (A.U.setTop g) [] mk a).1 ((B.U.setTop g).pushFrame (.throwing q)))
section Payer
variable {l : Launch} {R : Room} {p : Program} {e : Env} {below : List Frame} {s : State} {sargs : Array Value} {y : MethodName} {len W9 : Nat}
theorem vx_back {ws : List Cond} {rm : Room} {Pc : Array Value → State → Prop} {Qc : Array Value → State → Outcome → State → Prop} {XC : String → State → State → Prop} {mc ms : Nat} {free : Addr → Prop} {bytes : ByteArray} {maxL : Nat} {ret : Option FieldType}
    (hM : vx_Met l y ws rm Pc Qc XC mc ms free) (hblind : FrameBlind Pc) (hrc : rm.cells = mc) (hrs : rm.slots = ms)
    (hframes : rm.frames + 1 ≤ R.frames) (hlocals : W9 + (maxL + 11) + rm.locals ≤ R.locals)
    (hws : ∀ w ∈ ws, ∀ a' U, s.WarmedH U.vm → w.before a' U = true) (hcode : Cond.code y bytes maxL ret ∈ ws) (hinit : ∀ a' U, s.WarmedH U.vm → (Cond.initialized y.cls).before a' U = true) :
    vx_Back l R p e below s sargs y len W9 (PreOf R mc ms Pc) (PostOf Qc mc ms free) (vx_Post XC mc ms free) := by
  intro m meth c A g ig mk a X hg hsize hdg hW hn hp
  have h1 : (headSpec ws rm).pre.before a A.U = true := atoms_intro fun w hw => hws w hw _ _ X.warmed
  have h2 : (Cond.code y bytes maxL ret).before a A.U = true := hws _ hcode _ _ X.warmed
  have h3 : (Cond.initialized y.cls).before a A.U = true := hinit _ _ X.warmed
  have h4 : A.cells + (headSpec ws rm).room.cells ≤ R.cells := by rw [show (headSpec ws rm).room.cells = mc from hrc]; exact hp.1
  have h5 : A.slots + (headSpec ws rm).room.slots ≤ R.slots := by rw [show (headSpec ws rm).room.slots = ms from hrs]; exact hp.2.1
  have hPc : Pc a (A.U.calling g mk a) := hblind _ _ _ _ hp.2.2
  obtain ⟨U, Ls, c0, s0⟩ := A
  dsimp only [Pt.U, Pt.locs, Pt.cells, Pt.slots] at h1 h2 h3 h4 h5 X hn hPc ⊢
  obtain ⟨methY, cY, hmY, hcY, -, hlY, -, -, -, -⟩ := Cond.code_spec hn h2
  obtain ⟨kY, hkY, -⟩ := className_of_methodNamed hn
  have hinitY : kY.init = .initialized := Cond.initialized_spec (findClass_of_methodNamed hn) hkY h3
  have h : At U g.method c below := by rw [hg]; exact X.here
  have hlocals9 : W9 + (maxL + 11) + (headSpec ws rm).room.locals ≤ R.locals := hlocals
  have happ : (headSpec ws rm).appliesLoose y e.platform (U.calling g mk a) = true :=
    Spec.appliesLoose_calling (g := g) h hdg hn hkY hinitY
      (X.room_calling (g := g) (R' := (headSpec ws rm).room) hsize hmY hcY hframes (by rw [hlY]; omega) h4 h5) h1
  obtain ⟨mid, hmid⟩ := h.above
  have hfr : (U.setTop g).frames = (.java g :: mid) ++ below := by rw [State.frames_setTop' g h.top, hmid]; rfl
  obtain ⟨o, s₂, hsteps, -, hend, hq⟩ := Steps.callFree hM p X.admits X.cas X.clock (acts := []) hfr happ hPc trivial
  have hq' : vx_Q Qc XC mc ms free a (U.calling g mk a) o s₂ := hq
  rw [State.frames_setTop' g h.top] at hend
  obtain ⟨g₀, hg0⟩ := Option.isSome_iff_exists.mp h.top
  obtain ⟨r, hr⟩ := State.topJava?_eq_some.mp hg0
  have hr' : (({ U with heap := s₂.heap, slotsUsed := s₂.slotsUsed } : State).setVm s₂.vm).frames = .java g₀ :: r := hr
  rcases hq' with ⟨hqc, L, hfe, hL⟩ | ⟨q, rfl, E, ce, L, hx, hce, hcv, hcl, hW₂, hsm, hL⟩
  · obtain ⟨⟨v, rfl⟩, hW₂, e2, q2, q3, q4, q5, q6⟩ := id hfe
    have e3 : s₂ = ({ (U.calling g mk a).setFrames s₂.frames with heap := s₂.heap, slotsUsed := s₂.slotsUsed } : State).setVm s₂.vm := by
      have : s₂ = ({ s₂ with vm := (U.calling g mk a).vm } : State).setVm s₂.vm := rfl
      rw [e2] at this
      exact this
    obtain ⟨c₂, i₂, len₂, hc₂, hd₂, hf₂⟩ := hend
    have hW' : U.WarmedH s₂.vm := hW₂
    have hcc : c₂ = c := by
      have h1 : s₂.code? g.method = U.code? g.method := by
        rw [State.code?_eq, State.code?_eq, hW'.alike.method?]
      exact Option.some.inj (hc₂.symm.trans (h1.trans h.code))
    subst hcc
    have hlen : len₂ = len := by rw [hdg] at hd₂; cases hd₂; rfl
    subst hlen
    have hs₂ : s₂ = (({ U with heap := s₂.heap, slotsUsed := s₂.slotsUsed } : State).setVm s₂.vm).setTop { g with pc := g.pc + len₂, stack := v.toList ++ g.stack } := by
      refine e3.trans ?_
      rw [hf₂, State.calling_eq h.top, State.setFrames_setFrames, State.setTop_of_frames _ hr', hr]
      rfl
    have hsame : U.sameButNew ({ U with heap := s₂.heap, slotsUsed := s₂.slotsUsed } : State) L mc ms := by
      refine ⟨?_, q2, q3, q4, q5, q6⟩
      obtain ⟨t, ht, -⟩ := State.frames_cons hr
      show ({ U with heap := s₂.heap, slotsUsed := s₂.slotsUsed } : State) = { U.setFrames U.frames with heap := s₂.heap, slotsUsed := s₂.slotsUsed }
      rw [State.setFrames_self ht]
    subst hg
    refine Or.inl ⟨v, ⟨(({ U with heap := s₂.heap, slotsUsed := s₂.slotsUsed } : State).setVm s₂.vm), Ls ++ L, c0 + mc, s0 + ms⟩,
      ⟨X.admits, X.cas, X.clock, X.frames, X.room, X.hears, X.method, X.code, (X.here.setHeapUsed s₂.heap s₂.slotsUsed).setVm hW'.alike, X.tail, State.WarmedH.trans X.warmed hW', X.limits, X.bytes, X.same.trans (hsame.setVm s.vm)⟩,
      ⟨g, mk, s₂, L, rfl, rfl, hqc, rfl, hL, rfl, rfl⟩, ?_⟩
    show Steps p.tables e below _ ((({ U with heap := s₂.heap, slotsUsed := s₂.slotsUsed } : State).setVm s₂.vm).setTop { g with pc := g.pc + len₂, stack := v.toList ++ g.stack })
    rw [← hs₂]
    exact hsteps
  · obtain ⟨e2, q2, q3, q4, q5, q6⟩ := id hsm
    have e3 : s₂ = ({ (U.calling g mk a).setFrames s₂.frames with heap := s₂.heap, slotsUsed := s₂.slotsUsed } : State).setVm s₂.vm := by
      have : s₂ = ({ s₂ with vm := (U.calling g mk a).vm } : State).setVm s₂.vm := rfl
      rw [e2] at this
      exact this
    have hf₂ : s₂.frames = .throwing q :: .java g :: U.frames.tail := hend
    have hW' : U.WarmedH s₂.vm := hW₂
    have hs₂ : s₂ = ((({ U with heap := s₂.heap, slotsUsed := s₂.slotsUsed } : State).setVm s₂.vm).setTop g).pushFrame (.throwing q) := by
      refine e3.trans ?_
      rw [hf₂, State.calling_eq h.top, State.setFrames_setFrames, State.pushFrame, State.frames_setTop _ hr', State.setTop_of_frames _ hr', State.setFrames_setFrames, hr]
      rfl
    have hsame : U.sameButNew ({ U with heap := s₂.heap, slotsUsed := s₂.slotsUsed } : State) L mc ms := by
      refine ⟨?_, q2, q3, q4, q5, q6⟩
      obtain ⟨t, ht, -⟩ := State.frames_cons hr
      show ({ U with heap := s₂.heap, slotsUsed := s₂.slotsUsed } : State) = { U.setFrames U.frames with heap := s₂.heap, slotsUsed := s₂.slotsUsed }
      rw [State.setFrames_self ht]
    subst hg
    refine Or.inr ⟨q, ⟨(({ U with heap := s₂.heap, slotsUsed := s₂.slotsUsed } : State).setVm s₂.vm), Ls ++ L, c0 + mc, s0 + ms⟩,
      ⟨X.admits, X.cas, X.clock, X.frames, X.room, X.hears, X.method, X.code, (X.here.setHeapUsed s₂.heap s₂.slotsUsed).setVm hW'.alike, X.tail, State.WarmedH.trans X.warmed hW', X.limits, X.bytes, X.same.trans (hsame.setVm s.vm)⟩,
      ⟨g, mk, s₂, L, E, ce, rfl, rfl, hx, hce, hcv, hcl, rfl, hL, rfl, rfl⟩, ?_⟩
    show Steps p.tables e below _ (((({ U with heap := s₂.heap, slotsUsed := s₂.slotsUsed } : State).setVm s₂.vm).setTop g).pushFrame (.throwing q))
    rw [← hs₂]
    exact hsteps
end Payer
section Calls
variable {p : Program} {l : Launch} {e : Env} {R : Room} {s : State} {m : MethodId} {args : Array Value} {below : List Frame} {meth : Method} {c : Code} {T : State} {locs : List Loc} {cells slots : Nat}
theorem vx_callV (X : Stand p l e R s m args below meth c T locs cells slots) (hexec : p.tables.exec = Jvm.exec) {own C : String} {index : Nat} {y : MethodName} {bytes : ByteArray} {maxL : Nat} {ret : Option FieldType}
    (hown : s.vm.findClass own = some m.cls) (hlink : (Cond.methodLink own index y).before args s = true) (hinst : (Cond.instanceMethod y).before args s = true) (hsel : (Cond.selects C y y).before args s = true)
    (hcode : (Cond.code y bytes maxL ret).before args s = true) (hy : y.cls ≠ "java/lang/invoke/MethodHandle" ∧ y.cls ≠ "java/lang/invoke/VarHandle")
    {W9 : Nat} {Pre : Pt → Array Value → Prop} {Post : Pt → Array Value → Option Value → Pt → Prop} {PostX : Pt → Array Value → Addr → Pt → Prop} (hK : vx_Back l R p e below s args y 3 W9 Pre Post PostX)
    {b : Addr} {cellB : Cell} (hcell : T.heap[b]? = some cellB) (hobj : cellB.vm.isStatics = false) (hcls : s.vm.findClass C = some cellB.cls)
    {g : JFrame} (hg : g.method = m) (hsize : g.locals.size = c.maxLocals) {argsL rest : List Value} (hlen : ∀ sig, parseMethodDescriptor y.desc = some sig → argsL.length = sig.parameters.length)
    (hstack : g.stack = argsL.reverse ++ .ref b :: rest) (hW : 2 * g.monitorRoom + (rest.map fun v => v.category).sum ≤ W9) (hdg : decode c.code g.pc = .ok (.invokevirtual index, 3))
    (hpre : ∀ vm₁, s.WarmedH vm₁ → Pre ⟨T.setVm vm₁, locs, cells, slots⟩ (Value.ref b :: argsL).toArray) :
    (∃ (v : Option Value) (vm₁ : Vm) (B : Pt), s.WarmedH vm₁ ∧ Stand p l e R s m args below meth c B.U B.locs B.cells B.slots ∧ Post ⟨T.setVm vm₁, locs, cells, slots⟩ (Value.ref b :: argsL).toArray v B ∧
      ∀ target, Steps p.tables e below (B.U.setTop { g with pc := g.pc + 3, stack := v.toList ++ rest }) target → Steps p.tables e below (T.setTop g) target) ∨
    (∃ (q : Addr) (vm₁ : Vm) (B : Pt), s.WarmedH vm₁ ∧ Stand p l e R s m args below meth c B.U B.locs B.cells B.slots ∧ PostX ⟨T.setVm vm₁, locs, cells, slots⟩ (Value.ref b :: argsL).toArray q B ∧
      Steps p.tables e below (T.setTop g) ((B.U.setTop { g with stack := rest }).pushFrame (.throwing q))) := by
  obtain ⟨mk, methM, hnamed, hmethM, hstM, habM⟩ := Cond.instanceMethod_spec hinst
  obtain ⟨methM', cM, hmethM', -, -, -, -, -, -, hsigM⟩ := Cond.code_spec hnamed hcode
  cases hmethM.symm.trans hmethM'
  obtain ⟨c2, r2, m2, q1, q2, q3, q4, kP, hkP, hkPi⟩ := Cond.selects_spec hsel
  cases hcls.symm.trans q1
  cases (State.methodFound?_of_named hnamed hy).symm.trans q2
  cases hnamed.symm.trans q3
  have hselP : selectMethod e.platform s.vm cellB.cls mk = .method mk := by rw [Launch.admits_selectMethod X.admits]; exact q4
  obtain ⟨vm₁, X₁, hstep₁⟩ := X.invokevirtual hexec hown hlink hnamed hmethM hstM hkP hkPi hy (a := b) (cell := cellB) hcell
    (fun z h => by rw [h] at hobj; cases hobj) hselP hmethM habM hkP hkPi (g := g) hg (argsL := argsL) (rest := rest) (hlen _ hsigM) hstack hdg
  rcases hK m meth c ⟨T.setVm vm₁, locs, cells, slots⟩ { g with stack := rest } (.invokevirtual index) mk (Value.ref b :: argsL).toArray X₁ hg hsize hdg hW (X₁.named hnamed) (hpre vm₁ X₁.warmed) with ⟨v, B, X', hpost, hsteps⟩ | ⟨q, B, X', hpost, hsteps⟩
  · exact Or.inl ⟨v, vm₁, B, X₁.warmed, X', hpost, fun target h => hstep₁ _ fun acts => by rw [doInvoke_state]; exact hsteps.trans h⟩
  · exact Or.inr ⟨q, vm₁, B, X₁.warmed, X', hpost, hstep₁ _ fun acts => by rw [doInvoke_state]; exact hsteps⟩
theorem vx_callS (X : Stand p l e R s m args below meth c T locs cells slots) (hexec : p.tables.exec = Jvm.exec) {own : String} {index : Nat} {y : MethodName} {bytes : ByteArray} {maxL : Nat} {ret : Option FieldType}
    (hown : s.vm.findClass own = some m.cls) (hlink : (Cond.methodLink own index y).before args s = true) (hstat : (Cond.static y).before args s = true) (hinit : (Cond.initialized y.cls).before args s = true)
    (hcode : (Cond.code y bytes maxL ret).before args s = true) (hy : y.cls ≠ "java/lang/invoke/MethodHandle" ∧ y.cls ≠ "java/lang/invoke/VarHandle")
    {W9 : Nat} {Pre : Pt → Array Value → Prop} {Post : Pt → Array Value → Option Value → Pt → Prop} {PostX : Pt → Array Value → Addr → Pt → Prop} (hK : vx_Back l R p e below s args y 3 W9 Pre Post PostX)
    {g : JFrame} (hg : g.method = m) (hsize : g.locals.size = c.maxLocals) {argsL rest : List Value} (hlen : ∀ sig, parseMethodDescriptor y.desc = some sig → argsL.length = sig.parameters.length)
    (hstack : g.stack = argsL.reverse ++ rest) (hW : 2 * g.monitorRoom + (rest.map fun v => v.category).sum ≤ W9) (hdg : decode c.code g.pc = .ok (.invokestatic index, 3))
    (hpre : ∀ vm₁, s.WarmedH vm₁ → Pre ⟨T.setVm vm₁, locs, cells, slots⟩ argsL.toArray) :
    (∃ (v : Option Value) (vm₁ : Vm) (B : Pt), s.WarmedH vm₁ ∧ Stand p l e R s m args below meth c B.U B.locs B.cells B.slots ∧ Post ⟨T.setVm vm₁, locs, cells, slots⟩ argsL.toArray v B ∧
      ∀ target, Steps p.tables e below (B.U.setTop { g with pc := g.pc + 3, stack := v.toList ++ rest }) target → Steps p.tables e below (T.setTop g) target) ∨
    (∃ (q : Addr) (vm₁ : Vm) (B : Pt), s.WarmedH vm₁ ∧ Stand p l e R s m args below meth c B.U B.locs B.cells B.slots ∧ PostX ⟨T.setVm vm₁, locs, cells, slots⟩ argsL.toArray q B ∧
      Steps p.tables e below (T.setTop g) ((B.U.setTop { g with stack := rest }).pushFrame (.throwing q))) := by
  obtain ⟨mk, hnamed⟩ := Cond.code_named hcode
  obtain ⟨methM, cM, hmethM, -, -, -, -, -, -, hsigM⟩ := Cond.code_spec hnamed hcode
  have hstatic : methM.isStatic = true := Cond.static_spec hnamed hmethM hstat
  obtain ⟨kP, hkP, -⟩ := className_of_methodNamed hnamed
  have hinitP : kP.init = .initialized := Cond.initialized_spec (findClass_of_methodNamed hnamed) hkP hinit
  obtain ⟨vm₁, X₁, hstep₁⟩ := X.invokestatic hexec hown hlink hnamed hmethM hstatic hkP hinitP hy (g := g) hg (argsL := argsL) (rest := rest) (hlen _ hsigM) hstack hdg
  rcases hK m meth c ⟨T.setVm vm₁, locs, cells, slots⟩ { g with stack := rest } (.invokestatic index) mk argsL.toArray X₁ hg hsize hdg hW (X₁.named hnamed) (hpre vm₁ X₁.warmed) with ⟨v, B, X', hpost, hsteps⟩ | ⟨q, B, X', hpost, hsteps⟩
  · exact Or.inl ⟨v, vm₁, B, X₁.warmed, X', hpost, fun target h => hstep₁ _ fun acts => by rw [doInvoke_state]; exact hsteps.trans h⟩
  · exact Or.inr ⟨q, vm₁, B, X₁.warmed, X', hpost, hstep₁ _ fun acts => by rw [doInvoke_state]; exact hsteps⟩
end Calls
theorem vx_cls {s : State} {T : State} {vm₁ : Vm} {E : String} {k : ClassId} (hW : s.WarmedH vm₁) (h : (T.setVm vm₁).vm.findClass E = some k) : s.vm.findClass E = some k := by
  have h1 : vm₁.findClass E = some k := h
  rw [hW.alike.findClass] at h1
  exact h1
/-- the method's frame g, with q thrown over it -/
def vx_W (p : Program) (l : Launch) (e : Env) (R : Room) (s : State) (m : MethodId) (args : Array Value) (below : List Frame) (meth : Method) (c : Code) (H : Heap) (locs : List Loc) (cells slots : Nat) (Q : State → Prop) (g : JFrame) (q : Addr) : Prop :=
  ∀ T : State, T.heap = H → Stand p l e R s m args below meth c T locs cells slots → ∃ t, Steps p.tables e below ((T.setTop g).pushFrame (.throwing q)) t ∧ Q t
def vx_Run (p : Program) (l : Launch) (e : Env) (R : Room) (s : State) (m : MethodId) (args : Array Value) (below : List Frame) (meth : Method) (c : Code) (H : Heap) (locs : List Loc) (cells slots mc ms : Nat) (g : JFrame) (rest : List Value) (Qa : State → Outcome → State → Prop) (XC : String → State → State → Prop) (free : Addr → Prop) : Prop :=
  ∀ T : State, T.heap = H → Stand p l e R s m args below meth c T locs cells slots →
    (∃ (v : Option Value) (st₀ t T' : State) (L : List Loc), st₀.heap = H ∧ Stand p l e R s m args below meth c T' (locs ++ L) (cells + mc) (slots + ms) ∧ (∀ q ∈ L, free q.base) ∧ T'.heap = t.heap ∧ T'.vm = t.vm ∧ Qa st₀ (.returned v) t ∧
      Goes p e below T g T' { g with pc := g.pc + 3, stack := v.toList ++ rest }) ∨
    (∃ (q : Addr) (st₀ t T' : State) (L : List Loc) (E : String) (ce : Cell), st₀.heap = H ∧ Stand p l e R s m args below meth c T' (locs ++ L) (cells + mc) (slots + ms) ∧ (∀ z ∈ L, free z.base) ∧ T'.heap = t.heap ∧ T'.vm = t.vm ∧ XC E st₀ t ∧ t.heap[q]? = some ce ∧ ce.vm = .none ∧ s.vm.findClass E = some ce.cls ∧
      Steps p.tables e below (T.setTop g) ((T'.setTop { g with stack := rest }).pushFrame (.throwing q)))
def vx_X {S : Type} (px : S → Prop) (B : String → S → State → Prop) (A : Nat → Prop) : String → State → State → Prop := fun E st t => ∃ u : S, px u ∧ B E u t ∧ va_F A st t
section Runs
variable {p : Program} {l : Launch} {e : Env} {R : Room} {s : State} {m : MethodId} {args : Array Value} {below : List Frame} {meth : Method} {c : Code} {H : Heap} {locs : List Loc} {cells slots : Nat}
variable {y : MethodName} {bytes cc : ByteArray} {maxL nL mc ms n index : Nat} {ret : Option FieldType} {ws : List Cond} {rm : Room} {Pc : Array Value → State → Prop} {Qc : Array Value → State → Outcome → State → Prop} {XC : String → State → State → Prop} {free : Addr → Prop} {Ts : List Cond} {own C : String} {b : Addr} {As rest : List Value} {g : JFrame}
theorem vx_callBack (cb : CallB R s args own index y bytes maxL ret ws rm mc ms n) (hM : vx_Met l y ws rm Pc Qc XC mc ms free) (hbl : FrameBlind Pc) : vx_Back l R p e below s args y 3 8 (PreOf R mc ms Pc) (PostOf Qc mc ms free) (vx_Post XC mc ms free) := by
  obtain ⟨hrc, hrs, hfr, hlo, hws, hcw, -, hini, -⟩ := cb
  exact vx_back (bytes := bytes) (maxL := maxL) (ret := ret) hM hbl hrc hrs hfr hlo hws hcw (fun a' U hW => word_at hW (Or.inl (by first | rfl | simp [Cond.onTables, Cond.keeps, Cond.steady])) hini)
theorem vx_runV (S : CallFix p m c cc nL s args Ts own) (hM : vx_Met l y ws rm Pc Qc XC mc ms free) (cw : CallW R s args own C index y bytes maxL ret ws rm mc ms n) (hp : PreV s H C b Pc As)
    (hg : g.method = m) (hn : As.length = n) (hsize : g.locals.size = nL) (hstack : g.stack = As.reverse ++ .ref b :: rest) (hW : 2 * g.monitorRoom + (rest.map fun v => v.category).sum ≤ 8) (hdg : decode cc g.pc = .ok (.invokevirtual index, 3)) (hf : cells + mc ≤ R.cells ∧ slots + ms ≤ R.slots) :
    vx_Run p l e R s m args below meth c H locs cells slots mc ms g rest (Qc (Value.ref b :: As).toArray) XC free := by
  have hK : vx_Back l R p e below s args y 3 8 (PreOf R mc ms Pc) (PostOf Qc mc ms free) (vx_Post XC mc ms free) := vx_callBack cw.1 hM hp.1
  obtain ⟨⟨-, -, -, -, -, -, hcode, -, hy, hlen, hl⟩, hin, hse⟩ := cw
  obtain ⟨hx, hb, hml, ho, -⟩ := S
  obtain ⟨-, ⟨cellB, hcB, hoB, hclB⟩, hPc⟩ := hp
  intro T hT X
  rcases vx_callV X hx (C := C) (bytes := bytes) (maxL := maxL) (ret := ret) ho hl hin hse hcode hy hK (by rw [hT]; exact hcB) hoB hclB hg (hsize.trans hml.symm) (argsL := As) (rest := rest) (fun sig h => hn.trans (hlen sig h)) hstack hW (by rw [hb]; exact hdg)
    (fun vm₁ hW₁ => ⟨hf.1, hf.2, hPc (T.setVm vm₁) hT hW₁⟩) with ⟨v, vm₁, ⟨U', l2, c2, s2⟩, hW₁, X', ⟨g', mk, t, L, e1, e2, hq, h1, hL, h2, h3⟩, st⟩ | ⟨q, vm₁, ⟨U', l2, c2, s2⟩, hW₁, X', ⟨g', mk, t, L, E, ce, e1, e2, hq, hce, hcv, hcl, h1, hL, h2, h3⟩, st⟩
  · dsimp only [Pt.U, Pt.locs, Pt.cells, Pt.slots] at X' e1 e2 h1 h2 h3 st
    subst h1; subst h2; subst h3
    exact Or.inl ⟨v, (T.setVm vm₁).calling g' mk (Value.ref b :: As).toArray, t, U', L, hT, X', hL, e1, e2, hq, st⟩
  · dsimp only [Pt.U, Pt.locs, Pt.cells, Pt.slots] at X' e1 e2 h1 h2 h3 st hcl
    subst h1; subst h2; subst h3
    exact Or.inr ⟨q, (T.setVm vm₁).calling g' mk (Value.ref b :: As).toArray, t, U', L, E, ce, hT, X', hL, e1, e2, hq, hce, hcv, vx_cls hW₁ hcl, st⟩
theorem vx_runS (S : CallFix p m c cc nL s args Ts own) (hM : vx_Met l y ws rm Pc Qc XC mc ms free) (cw : CallB R s args own index y bytes maxL ret ws rm mc ms n ∧ (Cond.static y).before args s = true) (hp : PreS s H Pc As)
    (hg : g.method = m) (hn : As.length = n) (hsize : g.locals.size = nL) (hstack : g.stack = As.reverse ++ rest) (hW : 2 * g.monitorRoom + (rest.map fun v => v.category).sum ≤ 8) (hdg : decode cc g.pc = .ok (.invokestatic index, 3)) (hf : cells + mc ≤ R.cells ∧ slots + ms ≤ R.slots) :
    vx_Run p l e R s m args below meth c H locs cells slots mc ms g rest (Qc As.toArray) XC free := by
  have hK : vx_Back l R p e below s args y 3 8 (PreOf R mc ms Pc) (PostOf Qc mc ms free) (vx_Post XC mc ms free) := vx_callBack cw.1 hM hp.1
  obtain ⟨⟨-, -, -, -, -, -, hcode, hini, hy, hlen, hl⟩, hstt⟩ := cw
  obtain ⟨hx, hb, hml, ho, -⟩ := S
  intro T hT X
  rcases vx_callS X hx (bytes := bytes) (maxL := maxL) (ret := ret) ho hl hstt hini hcode hy hK hg (hsize.trans hml.symm) (argsL := As) (rest := rest) (fun sig h => hn.trans (hlen sig h)) hstack hW (by rw [hb]; exact hdg)
    (fun vm₁ hW₁ => ⟨hf.1, hf.2, hp.2 (T.setVm vm₁) hT hW₁⟩) with ⟨v, vm₁, ⟨U', l2, c2, s2⟩, hW₁, X', ⟨g', mk, t, L, e1, e2, hq, h1, hL, h2, h3⟩, st⟩ | ⟨q, vm₁, ⟨U', l2, c2, s2⟩, hW₁, X', ⟨g', mk, t, L, E, ce, e1, e2, hq, hce, hcv, hcl, h1, hL, h2, h3⟩, st⟩
  · dsimp only [Pt.U, Pt.locs, Pt.cells, Pt.slots] at X' e1 e2 h1 h2 h3 st
    subst h1; subst h2; subst h3
    exact Or.inl ⟨v, (T.setVm vm₁).calling g' mk As.toArray, t, U', L, hT, X', hL, e1, e2, hq, st⟩
  · dsimp only [Pt.U, Pt.locs, Pt.cells, Pt.slots] at X' e1 e2 h1 h2 h3 st hcl
    subst h1; subst h2; subst h3
    exact Or.inr ⟨q, (T.setVm vm₁).calling g' mk As.toArray, t, U', L, E, ce, hT, X', hL, e1, e2, hq, hce, hcv, vx_cls hW₁ hcl, st⟩
end Runs
section Rows
variable {p : Program} {l : Launch} {e : Env} {R : Room} {s : State} {m : MethodId} {args : Array Value} {below : List Frame} {meth : Method} {c : Code} {H : Heap} {locs : List Loc} {cells slots : Nat} {Q : State → Prop}
variable {mc ms : Nat} {free : Addr → Prop} {A0 A1 : Nat → Prop} {H0 : Heap} {a : Array Value} {pc : Nat} {ls : Array Slot} {st0 rest : List Value}
theorem vx_keep {st₀ t T' : State} {L : List Loc} (h0 : st₀.heap = H) (e1 : T'.heap = t.heap) (hS : va_S A0 H0 H locs) (hA : ∀ q, q < H.size → A1 q → A0 q) (hf : ∀ q, free q → A0 q) (hL : ∀ q ∈ L, free q.base) (hF : va_F A1 st₀ t) :
    H.size ≤ T'.heap.size ∧ (∀ q : Nat, q < H.size → ¬ A1 q → T'.heap[q]? = H[q]?) ∧ va_S A0 H0 T'.heap (locs ++ L) := by
  obtain ⟨hz, hk⟩ := hF
  rw [h0] at hz hk
  exact ⟨by rw [e1]; exact hz, fun q h1 h2 => by rw [e1]; exact hk q h1 h2,
    ⟨Nat.le_trans hS.1 (by rw [e1]; exact hz), fun q h1 h2 => by rw [e1, hk q (Nat.lt_of_lt_of_le h1 hS.1) (fun z => h2 (hA q (Nat.lt_of_lt_of_le h1 hS.1) z))]; exact hS.2.1 q h1 h2, fun q hq => by
      rcases List.mem_append.mp hq with h | h
      · exact hS.2.2 q h
      · exact hf _ (hL q h)⟩⟩
theorem vx_calli {S SX : Type} {post : Int32 → S → Prop} {px : SX → Prop} {B : S → State → Prop} {BX : String → SX → State → Prop} {AX : Nat → Prop} (hr : vx_Run p l e R s m args below meth c H locs cells slots mc ms (F0 m pc ls st0) rest (va_Qi post B A1 a) (vx_X px BX AX) free) (hS : va_S A0 H0 H locs) (hA : ∀ q, q < H.size → A1 q → A0 q) (hf : ∀ q, free q → A0 q) (hAX : ∀ q, q < H.size → AX q → A0 q)
    (kx : ∀ (E : String) (ce : Cell) (q9 : Addr) (u : SX) (t : State) (H1 : Heap) (locs1 : List Loc), t.heap = H1 → s.vm.Alike t.vm → px u → BX E u t → H.size ≤ H1.size → (∀ q : Nat, q < H.size → ¬ AX q → H1[q]? = H[q]?) → va_S A0 H0 H1 locs1 → H1[q9]? = some ce → ce.vm = .none → s.vm.findClass E = some ce.cls → vx_W p l e R s m args below meth c H1 locs1 (cells + mc) (slots + ms) Q (F0 m pc ls rest) q9)
    (kk : ∀ (r : Int32) (u : S) (t : State) (H1 : Heap) (locs1 : List Loc), t.heap = H1 → s.vm.Alike t.vm → post r u → B u t → H.size ≤ H1.size → (∀ q : Nat, q < H.size → ¬ A1 q → H1[q]? = H[q]?) → va_S A0 H0 H1 locs1 → W p l e R s m args below meth c H1 locs1 (cells + mc) (slots + ms) Q (F0 m (pc + 3) ls (.int r :: rest))) : W p l e R s m args below meth c H locs cells slots Q (F0 m pc ls st0) := by
  intro T hT X
  rcases hr T hT X with ⟨v, st₀, t, T', L, h0, X', hL, e1, e2, ⟨⟨r, u, hv, hp, hb⟩, hF⟩, st⟩ | ⟨q, st₀, t, T', L, E, ce, h0, X', hL, e1, e2, ⟨u, hp, hb, hF⟩, hce, hcv, hcl, st⟩
  · cases hv
    obtain ⟨k1, k2, k3⟩ := vx_keep h0 e1 hS hA hf hL hF
    obtain ⟨t2, a1, b1⟩ := kk r u t T'.heap (locs ++ L) e1.symm (by rw [← e2]; exact X'.warmed.alike) hp hb k1 k2 k3 T' rfl X'
    exact ⟨t2, st t2 a1, b1⟩
  · obtain ⟨k1, k2, k3⟩ := vx_keep h0 e1 hS hAX hf hL hF
    obtain ⟨t2, a1, b1⟩ := kx E ce q u t T'.heap (locs ++ L) e1.symm (by rw [← e2]; exact X'.warmed.alike) hp hb k1 k2 k3 (by rw [e1]; exact hce) hcv hcl T' rfl X'
    exact ⟨t2, st.trans a1, b1⟩
theorem vx_calll {S SX : Type} {post : Int64 → S → Prop} {px : SX → Prop} {B : S → State → Prop} {BX : String → SX → State → Prop} {AX : Nat → Prop} (hr : vx_Run p l e R s m args below meth c H locs cells slots mc ms (F0 m pc ls st0) rest (va_Ql post B A1 a) (vx_X px BX AX) free) (hS : va_S A0 H0 H locs) (hA : ∀ q, q < H.size → A1 q → A0 q) (hf : ∀ q, free q → A0 q) (hAX : ∀ q, q < H.size → AX q → A0 q)
    (kx : ∀ (E : String) (ce : Cell) (q9 : Addr) (u : SX) (t : State) (H1 : Heap) (locs1 : List Loc), t.heap = H1 → s.vm.Alike t.vm → px u → BX E u t → H.size ≤ H1.size → (∀ q : Nat, q < H.size → ¬ AX q → H1[q]? = H[q]?) → va_S A0 H0 H1 locs1 → H1[q9]? = some ce → ce.vm = .none → s.vm.findClass E = some ce.cls → vx_W p l e R s m args below meth c H1 locs1 (cells + mc) (slots + ms) Q (F0 m pc ls rest) q9)
    (kk : ∀ (r : Int64) (u : S) (t : State) (H1 : Heap) (locs1 : List Loc), t.heap = H1 → s.vm.Alike t.vm → post r u → B u t → H.size ≤ H1.size → (∀ q : Nat, q < H.size → ¬ A1 q → H1[q]? = H[q]?) → va_S A0 H0 H1 locs1 → W p l e R s m args below meth c H1 locs1 (cells + mc) (slots + ms) Q (F0 m (pc + 3) ls (.long r :: rest))) : W p l e R s m args below meth c H locs cells slots Q (F0 m pc ls st0) := by
  intro T hT X
  rcases hr T hT X with ⟨v, st₀, t, T', L, h0, X', hL, e1, e2, ⟨⟨r, u, hv, hp, hb⟩, hF⟩, st⟩ | ⟨q, st₀, t, T', L, E, ce, h0, X', hL, e1, e2, ⟨u, hp, hb, hF⟩, hce, hcv, hcl, st⟩
  · cases hv
    obtain ⟨k1, k2, k3⟩ := vx_keep h0 e1 hS hA hf hL hF
    obtain ⟨t2, a1, b1⟩ := kk r u t T'.heap (locs ++ L) e1.symm (by rw [← e2]; exact X'.warmed.alike) hp hb k1 k2 k3 T' rfl X'
    exact ⟨t2, st t2 a1, b1⟩
  · obtain ⟨k1, k2, k3⟩ := vx_keep h0 e1 hS hAX hf hL hF
    obtain ⟨t2, a1, b1⟩ := kx E ce q u t T'.heap (locs ++ L) e1.symm (by rw [← e2]; exact X'.warmed.alike) hp hb k1 k2 k3 (by rw [e1]; exact hce) hcv hcl T' rfl X'
    exact ⟨t2, st.trans a1, b1⟩
theorem vx_callf {S SX : Type} {post : UInt32 → S → Prop} {px : SX → Prop} {B : S → State → Prop} {BX : String → SX → State → Prop} {AX : Nat → Prop} (hr : vx_Run p l e R s m args below meth c H locs cells slots mc ms (F0 m pc ls st0) rest (va_Qf post B A1 a) (vx_X px BX AX) free) (hS : va_S A0 H0 H locs) (hA : ∀ q, q < H.size → A1 q → A0 q) (hf : ∀ q, free q → A0 q) (hAX : ∀ q, q < H.size → AX q → A0 q)
    (kx : ∀ (E : String) (ce : Cell) (q9 : Addr) (u : SX) (t : State) (H1 : Heap) (locs1 : List Loc), t.heap = H1 → s.vm.Alike t.vm → px u → BX E u t → H.size ≤ H1.size → (∀ q : Nat, q < H.size → ¬ AX q → H1[q]? = H[q]?) → va_S A0 H0 H1 locs1 → H1[q9]? = some ce → ce.vm = .none → s.vm.findClass E = some ce.cls → vx_W p l e R s m args below meth c H1 locs1 (cells + mc) (slots + ms) Q (F0 m pc ls rest) q9)
    (kk : ∀ (r : UInt32) (u : S) (t : State) (H1 : Heap) (locs1 : List Loc), t.heap = H1 → s.vm.Alike t.vm → post r u → B u t → H.size ≤ H1.size → (∀ q : Nat, q < H.size → ¬ A1 q → H1[q]? = H[q]?) → va_S A0 H0 H1 locs1 → W p l e R s m args below meth c H1 locs1 (cells + mc) (slots + ms) Q (F0 m (pc + 3) ls (.float r :: rest))) : W p l e R s m args below meth c H locs cells slots Q (F0 m pc ls st0) := by
  intro T hT X
  rcases hr T hT X with ⟨v, st₀, t, T', L, h0, X', hL, e1, e2, ⟨⟨r, u, hv, hp, hb⟩, hF⟩, st⟩ | ⟨q, st₀, t, T', L, E, ce, h0, X', hL, e1, e2, ⟨u, hp, hb, hF⟩, hce, hcv, hcl, st⟩
  · cases hv
    obtain ⟨k1, k2, k3⟩ := vx_keep h0 e1 hS hA hf hL hF
    obtain ⟨t2, a1, b1⟩ := kk r u t T'.heap (locs ++ L) e1.symm (by rw [← e2]; exact X'.warmed.alike) hp hb k1 k2 k3 T' rfl X'
    exact ⟨t2, st t2 a1, b1⟩
  · obtain ⟨k1, k2, k3⟩ := vx_keep h0 e1 hS hAX hf hL hF
    obtain ⟨t2, a1, b1⟩ := kx E ce q u t T'.heap (locs ++ L) e1.symm (by rw [← e2]; exact X'.warmed.alike) hp hb k1 k2 k3 (by rw [e1]; exact hce) hcv hcl T' rfl X'
    exact ⟨t2, st.trans a1, b1⟩
theorem vx_calld {S SX : Type} {post : UInt64 → S → Prop} {px : SX → Prop} {B : S → State → Prop} {BX : String → SX → State → Prop} {AX : Nat → Prop} (hr : vx_Run p l e R s m args below meth c H locs cells slots mc ms (F0 m pc ls st0) rest (va_Qd post B A1 a) (vx_X px BX AX) free) (hS : va_S A0 H0 H locs) (hA : ∀ q, q < H.size → A1 q → A0 q) (hf : ∀ q, free q → A0 q) (hAX : ∀ q, q < H.size → AX q → A0 q)
    (kx : ∀ (E : String) (ce : Cell) (q9 : Addr) (u : SX) (t : State) (H1 : Heap) (locs1 : List Loc), t.heap = H1 → s.vm.Alike t.vm → px u → BX E u t → H.size ≤ H1.size → (∀ q : Nat, q < H.size → ¬ AX q → H1[q]? = H[q]?) → va_S A0 H0 H1 locs1 → H1[q9]? = some ce → ce.vm = .none → s.vm.findClass E = some ce.cls → vx_W p l e R s m args below meth c H1 locs1 (cells + mc) (slots + ms) Q (F0 m pc ls rest) q9)
    (kk : ∀ (r : UInt64) (u : S) (t : State) (H1 : Heap) (locs1 : List Loc), t.heap = H1 → s.vm.Alike t.vm → post r u → B u t → H.size ≤ H1.size → (∀ q : Nat, q < H.size → ¬ A1 q → H1[q]? = H[q]?) → va_S A0 H0 H1 locs1 → W p l e R s m args below meth c H1 locs1 (cells + mc) (slots + ms) Q (F0 m (pc + 3) ls (.double r :: rest))) : W p l e R s m args below meth c H locs cells slots Q (F0 m pc ls st0) := by
  intro T hT X
  rcases hr T hT X with ⟨v, st₀, t, T', L, h0, X', hL, e1, e2, ⟨⟨r, u, hv, hp, hb⟩, hF⟩, st⟩ | ⟨q, st₀, t, T', L, E, ce, h0, X', hL, e1, e2, ⟨u, hp, hb, hF⟩, hce, hcv, hcl, st⟩
  · cases hv
    obtain ⟨k1, k2, k3⟩ := vx_keep h0 e1 hS hA hf hL hF
    obtain ⟨t2, a1, b1⟩ := kk r u t T'.heap (locs ++ L) e1.symm (by rw [← e2]; exact X'.warmed.alike) hp hb k1 k2 k3 T' rfl X'
    exact ⟨t2, st t2 a1, b1⟩
  · obtain ⟨k1, k2, k3⟩ := vx_keep h0 e1 hS hAX hf hL hF
    obtain ⟨t2, a1, b1⟩ := kx E ce q u t T'.heap (locs ++ L) e1.symm (by rw [← e2]; exact X'.warmed.alike) hp hb k1 k2 k3 (by rw [e1]; exact hce) hcv hcl T' rfl X'
    exact ⟨t2, st.trans a1, b1⟩
theorem vx_callv {S SX : Type} {post : S → Prop} {px : SX → Prop} {B : S → State → Prop} {BX : String → SX → State → Prop} {AX : Nat → Prop} (hr : vx_Run p l e R s m args below meth c H locs cells slots mc ms (F0 m pc ls st0) rest (va_Qv post B A1 a) (vx_X px BX AX) free) (hS : va_S A0 H0 H locs) (hA : ∀ q, q < H.size → A1 q → A0 q) (hf : ∀ q, free q → A0 q) (hAX : ∀ q, q < H.size → AX q → A0 q)
    (kx : ∀ (E : String) (ce : Cell) (q9 : Addr) (u : SX) (t : State) (H1 : Heap) (locs1 : List Loc), t.heap = H1 → s.vm.Alike t.vm → px u → BX E u t → H.size ≤ H1.size → (∀ q : Nat, q < H.size → ¬ AX q → H1[q]? = H[q]?) → va_S A0 H0 H1 locs1 → H1[q9]? = some ce → ce.vm = .none → s.vm.findClass E = some ce.cls → vx_W p l e R s m args below meth c H1 locs1 (cells + mc) (slots + ms) Q (F0 m pc ls rest) q9)
    (kk : ∀ (u : S) (t : State) (H1 : Heap) (locs1 : List Loc), t.heap = H1 → s.vm.Alike t.vm → post u → B u t → H.size ≤ H1.size → (∀ q : Nat, q < H.size → ¬ A1 q → H1[q]? = H[q]?) → va_S A0 H0 H1 locs1 → W p l e R s m args below meth c H1 locs1 (cells + mc) (slots + ms) Q (F0 m (pc + 3) ls (rest))) : W p l e R s m args below meth c H locs cells slots Q (F0 m pc ls st0) := by
  intro T hT X
  rcases hr T hT X with ⟨v, st₀, t, T', L, h0, X', hL, e1, e2, ⟨⟨u, hv, hp, hb⟩, hF⟩, st⟩ | ⟨q, st₀, t, T', L, E, ce, h0, X', hL, e1, e2, ⟨u, hp, hb, hF⟩, hce, hcv, hcl, st⟩
  · cases hv
    obtain ⟨k1, k2, k3⟩ := vx_keep h0 e1 hS hA hf hL hF
    obtain ⟨t2, a1, b1⟩ := kk u t T'.heap (locs ++ L) e1.symm (by rw [← e2]; exact X'.warmed.alike) hp hb k1 k2 k3 T' rfl X'
    exact ⟨t2, st t2 a1, b1⟩
  · obtain ⟨k1, k2, k3⟩ := vx_keep h0 e1 hS hAX hf hL hF
    obtain ⟨t2, a1, b1⟩ := kx E ce q u t T'.heap (locs ++ L) e1.symm (by rw [← e2]; exact X'.warmed.alike) hp hb k1 k2 k3 (by rw [e1]; exact hce) hcv hcl T' rfl X'
    exact ⟨t2, st.trans a1, b1⟩
/-- caught by the row x of this method's table; the rows ahead don't take it -/
theorem vx_catch {own name : String} {E : String} {ce : Cell} {q : Addr} (hown : s.vm.findClass own = some m.cls) (pre : List ExceptionTableEntry) (x : ExceptionTableEntry) (suf : List ExceptionTableEntry) (hsplit : c.exceptionTable.toList = pre ++ x :: suf)
    (hpass : ∀ z ∈ pre, covers z pc = false ∨ (z.catchType ≠ 0 ∧ ∃ nm : String, (Cond.classLink own z.catchType nm).before args s = true ∧ va_Nc E nm s)) (hx : covers x pc = true) (h0 : x.catchType ≠ 0)
    (hlink : (Cond.classLink own x.catchType name).before args s = true) (hcast : (Cond.castable E name).before args s = true) (hcell : H[q]? = some ce) (hv : ce.vm = .none) (hcl : s.vm.findClass E = some ce.cls)
    (kk : W p l e R s m args below meth c H locs cells slots Q (F0 m x.handlerPc ls [.ref q])) : vx_W p l e R s m args below meth c H locs cells slots Q (F0 m pc ls rest) q := by
  intro T hT X
  have hpl : e.platform.magicAccessors = ({} : Platform).magicAccessors := by rw [X.admits.platform]
  obtain ⟨c3, c4, hc3, hc4, hasg⟩ := Cond.castable_spec hcast
  cases Option.some.inj (hc3.symm.trans hcl)
  obtain ⟨c5, hc5, hcl5⟩ := Cond.classLink_spec hown hlink e.platform hpl
  cases Option.some.inj (hc4.symm.trans hc5)
  obtain ⟨vm', X', st⟩ := X.thenCaughtThrough q (g := F0 m pc ls rest) rfl (Steps.refl _) (by rw [hT]; exact hcell) (by rw [hv]; rfl) (by obtain ⟨k9, h9, -⟩ := Vm.findClass_spec hcl; exact ⟨k9, h9⟩) pre x suf hsplit
    (fun z hz => by
      rcases hpass z hz with h | ⟨hz0, nm, hl1, hn1⟩
      · exact Or.inl h
      · obtain ⟨c6, hc6, hcl6⟩ := Cond.classLink_spec hown hl1 e.platform hpl
        obtain ⟨a8, b8, h1, h2, h3⟩ := hn1
        cases Option.some.inj (h1.symm.trans hcl)
        cases Option.some.inj (h2.symm.trans hc6)
        exact Or.inr ⟨hz0, _, hcl6, h3⟩) hx (Or.inr ⟨h0, c4, hcl5, hasg⟩)
  obtain ⟨t, a1, b1⟩ := kk (T.setVm vm') hT X'
  exact ⟨t, st.trans a1, b1⟩
end Rows
section Ends
variable {p : Program} {l : Launch} {e : Env} {R : Room} {s : State} {m : MethodId} {args : Array Value} {below : List Frame} {meth : Method} {c : Code} {H : Heap} {locs : List Loc} {cells slots : Nat} {Q : State → Prop}
variable {mc ms : Nat} {free : Addr → Prop} {A0 A1 : Nat → Prop} {H0 : Heap} {a : Array Value} {ls : Array Slot} {st0 rest : List Value}
variable {Qc : Array Value → State → Outcome → State → Prop} {XC : String → State → State → Prop}
/-- what a body that may throw owes at its end -/
def vx_MQ (below : List Frame) (Qc : Array Value → State → Outcome → State → Prop) (XC : String → State → State → Prop) (a : Array Value) (s : State) (mc ms : Nat) (free : Addr → Prop) : State → Prop := fun t =>
  ∃ o, t.status = .running ∧ Ended t below o ∧ vx_Q Qc XC mc ms free a s o t
theorem vx_ret {g : JFrame} {mc ms : Nat} (k : W p l e R s m args below meth c H locs cells slots (MQ below Qc args s mc ms free) g) : W p l e R s m args below meth c H locs cells slots (vx_MQ below Qc XC args s mc ms free) g := by
  intro T hT X
  obtain ⟨t, a1, o, b1, b2, b3, b4⟩ := k T hT X
  exact ⟨t, a1, o, b1, b2, Or.inl ⟨b3, b4⟩⟩
/-- not caught here: it goes on to the caller -/
theorem vx_widen {g : JFrame} {q : Addr} {k n : Nat} (h1 : cells ≤ k) (h2 : slots ≤ n) (kk : vx_W p l e R s m args below meth c H locs k n Q g q) : vx_W p l e R s m args below meth c H locs cells slots Q g q := fun T hT X => kk T hT (stand_widen X h1 h2)
theorem vx_out {pc : Nat} {E : String} {ce : Cell} {q : Addr} {mc ms : Nat} (hout : ∀ x ∈ c.exceptionTable.toList, covers x pc = false) (hlocks : meth.locks = false) (hcell : H[q]? = some ce) (hv : ce.vm = .none) (hcl : s.vm.findClass E = some ce.cls)
    (hx : ∀ t : State, t.heap = H → s.vm.Alike t.vm → XC E s t) (hf : ∀ z ∈ locs, free z.base) (hc : cells ≤ mc) (hs : slots ≤ ms) :
    vx_W p l e R s m args below meth c H locs cells slots (vx_MQ below Qc XC args s mc ms free) (F0 m pc ls rest) q := by
  intro T hT X
  obtain ⟨st1, hrun, hend, hW, hsm⟩ := X.leaveThrown q (g := F0 m pc ls rest) rfl rfl rfl hout hlocks
  have hcell9 : (T.setFrames (.throwing q :: below)).heap[q]? = some ce := by
    show T.heap[q]? = some ce
    rw [hT]; exact hcell
  exact ⟨_, st1, .threw q, hrun, hend, Or.inr ⟨q, rfl, E, ce, locs, hx _ hT hW.alike, hcell9, hv, hcl, hW, hsm.mono hc hs, hf⟩⟩
theorem vx_frame {U : State} {k n : Nat} (h : s.sameButNew ({ U with vm := s.vm } : State) locs k n) : s.heap.size ≤ U.heap.size ∧ ∀ q : Nat, q < s.heap.size → (∀ z ∈ locs, z.base ≠ q) → U.heap[q]? = s.heap[q]? := by
  obtain ⟨-, h2, -, -, -, h6⟩ := h
  refine ⟨h2, fun q hq hz => ?_⟩
  obtain ⟨c9, e1, e2, e3, e4⟩ := h6 q _ (Array.getElem?_eq_getElem hq)
  have hs : c9.slots = (s.heap[q]).slots := Array.ext_getElem? fun i => e4 i fun hm => hz _ hm rfl
  have h9 : c9 = s.heap[q] := by
    rw [hs] at e2
    exact e2
  have e5 : U.heap[q]? = some c9 := e1
  rw [e5, h9, Array.getElem?_eq_getElem hq]
/-- the words of a throw but the four that speak of the heap -/
def vx_no (w : Cond) : Bool := decide (w ≠ .isRef (.static Bundle.tN "UNASSIGNED_STACK" Bundle.steD)) && decide (w ≠ .isRef (.static Bundle.tN "SUPPRESSED_SENTINEL" Bundle.listD)) && decide (w ≠ .laysStatic Bundle.tN "UNASSIGNED_STACK" Bundle.steD) && decide (w ≠ .laysStatic Bundle.tN "SUPPRESSED_SENTINEL" Bundle.listD)
def vx_at0 (own : String) (ic : Nat) (X : String) (names : List String) : List Cond := (Bundle.ownAtoms0 own ic X names).filter vx_no
def vx_atS (own : String) (ic : Nat) (X : String) (names : List String) : List Cond := (Bundle.ownAtoms own ic X names).filter vx_no
/-- a word that the tables alone decide, or a good one -/
def vx_ot (w : Cond) : Bool := w.onTables || goodWord w
theorem vx_ot_at {args a' : Array Value} {s U : State} {w : Cond} (hW : s.WarmedH U.vm) (hvm : s.vm = U.vm) (hg : vx_ot w = true) (h : w.before args s = true) : w.before a' U = true := by
  simp only [vx_ot, Bool.or_eq_true] at hg
  rcases hg with hg | hg
  · exact va_tabs hg hvm h
  · exact word_at hW (good_of_word hg) h
/-- a list's words: the good ones out of the method's own list, the others by premises of their own -/
theorem vx_hat {args : Array Value} {s : State} {L B : List Cond} (h1 : ∀ w ∈ L.filter goodWord, w.before args s = true) (h2 : ∀ w ∈ L.filter (fun w => !goodWord w), w ∈ B) (h3 : ∀ w ∈ B, w.before args s = true) : ∀ w ∈ L, w.before args s = true := by
  intro w hw
  by_cases g : goodWord w = true
  · exact h1 w (List.mem_filter.mpr ⟨hw, g⟩)
  · refine h3 w (h2 w (List.mem_filter.mpr ⟨hw, ?_⟩))
    show (!goodWord w) = true
    cases hgw : goodWord w
    · rfl
    · exact absurd hgw g
theorem vx_c {args : Array Value} {s : State} {w : Cond} {B : List Cond} (h : w.before args s = true) (t : ∀ w ∈ B, w.before args s = true) : ∀ w' ∈ w :: B, w'.before args s = true := fun w' h' => (List.mem_cons.mp h').elim (fun e => by rw [e]; exact h) (t w')
theorem vx_n {args : Array Value} {s : State} : ∀ w ∈ ([] : List Cond), w.before args s = true := fun _ h => nomatch h
theorem vx_own {args : Array Value} {s : State} {L : List Cond} (h1 : ∀ w ∈ L.filter vx_no, w.before args s = true)
    (hU : (Cond.isRef (.static Bundle.tN "UNASSIGNED_STACK" Bundle.steD)).before args s = true) (hN : (Cond.isRef (.static Bundle.tN "SUPPRESSED_SENTINEL" Bundle.listD)).before args s = true)
    (lU : (Cond.laysStatic Bundle.tN "UNASSIGNED_STACK" Bundle.steD).before args s = true) (lN : (Cond.laysStatic Bundle.tN "SUPPRESSED_SENTINEL" Bundle.listD).before args s = true) : ∀ w ∈ L, w.before args s = true := by
  intro w hw
  by_cases e1 : w = .isRef (.static Bundle.tN "UNASSIGNED_STACK" Bundle.steD)
  · rw [e1]; exact hU
  · by_cases e2 : w = .isRef (.static Bundle.tN "SUPPRESSED_SENTINEL" Bundle.listD)
    · rw [e2]; exact hN
    · by_cases e3 : w = .laysStatic Bundle.tN "UNASSIGNED_STACK" Bundle.steD
      · rw [e3]; exact lU
      · by_cases e4 : w = .laysStatic Bundle.tN "SUPPRESSED_SENTINEL" Bundle.listD
        · rw [e4]; exact lN
        · exact h1 w (List.mem_filter.mpr ⟨hw, by unfold vx_no; rw [decide_eq_true e1, decide_eq_true e2, decide_eq_true e3, decide_eq_true e4]; rfl⟩)
/-- where a static field lies, its class's statics cell in H -/
def vx_L (C n d : String) (A : Nat → Prop) (U : State) (H : Heap) : Prop := ∃ (c : ClassId) (k : Class) (i : Nat) (f : Field) (a : Nat) (cell : Cell), U.vm.findClass C = some c ∧ U.fieldFound? C n d = some (c, k, i, f) ∧ f.isStatic = true ∧ k.statics = some a ∧ H[a]? = some cell ∧ cell.vm.isStatics = true ∧ cell.cls = c ∧ f.slot < cell.slots.size ∧ k.staticTypes[f.slot]? = some f.type ∧ ¬ A a
theorem vx_L.moved {C n d : String} {A : Nat → Prop} {u U : State} {H : Heap} (hvm : u.vm.Alike U.vm) (h : vx_L C n d A u H) : vx_L C n d A U H := by
  obtain ⟨c, k, i, f, a, cell, h1, h2, h3, h4, h5, h6, h7, h8, h9, h10⟩ := h
  obtain ⟨k', hi', he⟩ := State.fieldFound?_setVm hvm h2
  exact ⟨c, k', i, f, a, cell, by rw [hvm.findClass]; exact h1, hi', h3, by rw [he]; exact h4, h5, h6, h7, h8, by rw [he]; exact h9, h10⟩
theorem vx_L.kept {C n d : String} {A : Nat → Prop} {U : State} {H H1 : Heap} (h : vx_L C n d A U H) (hq : ∀ a : Nat, a < H.size → ¬ A a → H1[a]? = H[a]?) : vx_L C n d A U H1 := by
  obtain ⟨c, k, i, f, a, cell, h1, h2, h3, h4, h5, h6, h7, h8, h9, h10⟩ := h
  exact ⟨c, k, i, f, a, cell, h1, h2, h3, h4, by rw [hq a (Array.getElem?_eq_some_iff.mp h5).1 h10]; exact h5, h6, h7, h8, h9, h10⟩
theorem vx_L.narrow {C n d : String} {A B : Nat → Prop} {U : State} {H : Heap} (h : vx_L C n d A U H) (hAB : ∀ q, B q → A q) : vx_L C n d B U H := by
  obtain ⟨c, k, i, f, a, cell, h1, h2, h3, h4, h5, h6, h7, h8, h9, h10⟩ := h
  exact ⟨c, k, i, f, a, cell, h1, h2, h3, h4, h5, h6, h7, h8, h9, fun z => h10 (hAB _ z)⟩
theorem vx_L.word {C n d : String} {A : Nat → Prop} {s : State} {args : Array Value} (h : vx_L C n d A s s.heap) : (Cond.laysStatic C n d).before args s = true := by
  obtain ⟨c, k, i, f, a, cell, h1, h2, h3, h4, h5, h6, h7, h8, h9, -⟩ := h
  show (Cond.laysStatic C n d).holds args s none s [] = true
  exact Cond.laysStatic_of h1 h2 h3 h4 h5 h6 h7 h8 h9
/-- .. and what it holds: null or some reference -/
def vx_Zq (C n d : String) (A : Nat → Prop) (U : State) (H : Heap) : Prop := va_Zq C n d A U H ∧ vx_L C n d A U H
theorem vx_Zq.moved {C n d : String} {A : Nat → Prop} {u U : State} {H : Heap} (hvm : u.vm.Alike U.vm) (h : vx_Zq C n d A u H) : vx_Zq C n d A U H := ⟨va_Zq.moved hvm h.1, vx_L.moved hvm h.2⟩
theorem vx_Zq.kept {C n d : String} {A : Nat → Prop} {U : State} {H H1 : Heap} (h : vx_Zq C n d A U H) (hq : ∀ a : Nat, a < H.size → ¬ A a → H1[a]? = H[a]?) : vx_Zq C n d A U H1 := ⟨va_Zq.kept h.1 hq, vx_L.kept h.2 hq⟩
theorem vx_Zq.narrow {C n d : String} {A B : Nat → Prop} {U : State} {H : Heap} (h : vx_Zq C n d A U H) (hAB : ∀ q, B q → A q) : vx_Zq C n d B U H := ⟨va_Zq.narrow h.1 hAB, vx_L.narrow h.2 hAB⟩
theorem vx_Zqof {args : Array Value} {s : State} {C n d : String} {A : Nat → Prop} (hl : (Cond.laysStatic C n d).before args s = true) (hini : (Cond.initialized C).before args s = true) (h : (Cond.isRef (.static C n d)).before args s = true) (hA : ∀ a : Nat, a < s.heap.size → ¬ A a) : vx_Zq C n d A s s.heap := by
  refine ⟨va_Zqof hl hini h hA, ?_⟩
  obtain ⟨c, k, i, f, a, cell, h1, h2, h3, h4, h5, h6, h7, h8, h9⟩ := Cond.laysStatic_spec hl
  exact ⟨c, k, i, f, a, cell, h1, h2, h3, h4, h5, h6, h7, h8, h9, hA a (Array.getElem?_eq_some_iff.mp h5).1⟩
theorem vx_isRef {C n d : String} {v : Value} {A : Nat → Prop} {s : State} {args : Array Value} (h : va_Z C n d v A s s.heap) (hv : v.isRef = true) : (Cond.isRef (.static C n d)).before args s = true := by
  obtain ⟨cf, kf, fi, f, a, cell, h1, h2, h3, h4, h5, h6, h7, -⟩ := h
  have he : (Term.static C n d).eval args s none [] s = some v := by
    simp [Term.eval, State.fieldNamed?, h1, h2, h4, h5, h6, h7]
  simp only [Cond.before, Cond.holds, Cond.value, he]
  cases v <;> simp_all [Value.isRef]
theorem vx_isRefq {C n d : String} {A : Nat → Prop} {s : State} {args : Array Value} (h : va_Zq C n d A s s.heap) : (Cond.isRef (.static C n d)).before args s = true := by
  rcases h with h | ⟨t, h⟩
  · exact vx_isRef h rfl
  · exact vx_isRef h rfl
/-- the same frame, seen from here: as if the method were called anew in this heap -/
theorem vx_rebase {T : State} (X : Stand p l e R s m args below meth c T locs cells slots) {R' : Room} (hf : R'.frames ≤ R.frames) (hl : R'.locals ≤ R.locals) (hc : cells + R'.cells ≤ R.cells) (hs : slots + R'.slots ≤ R.slots) :
    Stand p l e R' ((T.setVm s.vm).setFrames (.invoking m args :: below)) m args below meth c T [] 0 0 := by
  have htop : (T.setVm s.vm).topJava?.isSome := X.here.top
  have hF : ((T.setVm s.vm).setFrames (.invoking m args :: below)).frames = .invoking m args :: below := State.frames_setFrames _ (State.cur_lt_of_top htop)
  obtain ⟨g₀, hg0⟩ := Option.isSome_iff_exists.mp htop
  obtain ⟨r, hr⟩ := State.topJava?_eq_some.mp hg0
  have hl9 : e.platform.stackLimits (T.setVm s.vm).me = e.platform.stackLimits s.me := X.limits
  have hb9 : (T.setVm s.vm).me.stackBytes = s.me.stackBytes := X.bytes
  refine ⟨X.admits, X.cas, X.clock, hF, ?_, X.hears, X.method, X.code, X.here, X.tail, X.warmed, ?_, ?_, ?_⟩
  · have h := X.room
    have hU : ((T.setVm s.vm).setFrames (.invoking m args :: below)).localsInUse = s.localsInUse := by
      rw [State.localsInUse_invoking hF (meth := meth) (c := c) X.method X.code, State.localsInUse_invoking X.frames X.method X.code]
    simp only [State.hasRoom, Bool.and_eq_true, decide_eq_true_eq] at h ⊢
    obtain ⟨⟨⟨⟨h1, h2, h3, h4, h5, h6⟩, h7⟩, h8⟩, h9⟩ := h
    rw [X.frames, List.length_cons] at h2 h3
    have q1 := X.heapSize
    have q2 := X.used
    simp only [hF, hU, List.length_cons, State.stackLimits_setFrames, State.stackBytes_setFrames, hl9, hb9]
    refine ⟨⟨⟨⟨by omega, by omega, by omega, by omega, by omega, h6⟩, ?_⟩, ?_⟩, X.book⟩
    · show T.heap.size + R'.cells ≤ e.platform.maxCells
      omega
    · show T.slotsUsed + R'.slots ≤ e.platform.maxSlots
      omega
  · rw [State.stackLimits_setFrames]; rfl
  · rw [State.stackBytes_setFrames]; rfl
  · refine ⟨?_, Nat.le_refl _, Nat.le_refl _, ?_, ?_, fun a c9 h9 => ⟨c9, h9, rfl, rfl, fun _ _ => rfl⟩⟩
    · obtain ⟨t, ht, -⟩ := State.frames_cons hr
      show T.setVm s.vm = { ((T.setVm s.vm).setFrames (.invoking m args :: below)).setFrames (T.setVm s.vm).frames with heap := T.heap, slotsUsed := T.slotsUsed }
      rw [State.setFrames_setFrames, State.setFrames_self ht]
      rfl
    · show T.slotsUsed = T.slotsUsed + ((T.heap.toList.drop T.heap.size).map (·.slots.size)).sum
      rw [List.drop_eq_nil_of_le (Nat.le_of_eq Array.length_toList)]
      rfl
    · show ((T.heap.toList.drop T.heap.size).map (·.slots.size)).sum ≤ 0
      rw [List.drop_eq_nil_of_le (Nat.le_of_eq Array.length_toList)]
      exact Nat.le_refl _
/-- 'throw new E()': new; dup; invokespecial; athrow -/
theorem vx_throw0 {cc : ByteArray} {pc : Nat} (hexec : p.tables.exec = Jvm.exec) (hb : c.code = cc) (hl : l.stackTraces = false) {own cls : String} {names : List String} {ik ic mc ms : Nat} {A : Nat → Prop}
    (hown : s.vm.findClass own = some m.cls) (hcls : Bundle.fit cls = true) (hnames : ∀ n ∈ names, Bundle.fit n = true)
    (hk : (Cond.classLink own ik cls).before args s = true) (hini : (Cond.initialized cls).before args s = true) (hat : ∀ w ∈ vx_at0 own ic cls names, w.before args s = true)
    (hgood : ∀ w ∈ Cond.classLink own ik cls :: Cond.initialized cls :: vx_at0 own ic cls names, vx_ot w = true)
    (hU : vx_Zq Bundle.tN "UNASSIGNED_STACK" Bundle.steD A s s.heap) (hN : vx_Zq Bundle.tN "SUPPRESSED_SENTINEL" Bundle.listD A s s.heap) (hS : va_S A s.heap H locs) (hsize : ls.size = c.maxLocals)
    (d0 : decode cc pc = .ok (.new ik, 3)) (d3 : decode cc (pc + 3) = .ok (.dup, 1)) (d4 : decode cc (pc + 4) = .ok (.invokespecial ic, 3)) (d7 : decode cc (pc + 7) = .ok (.athrow, 1))
    (hout : ∀ x ∈ c.exceptionTable.toList, covers x (pc + 7) = false)
    (hRframes : names.length + 3 < R.frames) (hRlocals : (rest.map fun v => v.category).sum + (13 * (names.length + 1) + 42) ≤ R.locals) (hRcells : cells + 1 ≤ R.cells) (hRslots : slots + 6 ≤ R.slots) (hlocks : meth.locks = false)
    (hx : ∀ t : State, s.vm.Alike t.vm → H.size ≤ t.heap.size → (∀ q : Nat, q < H.size → t.heap[q]? = H[q]?) → XC cls s t)
    (hf : ∀ z ∈ locs, free z.base) (hc : cells + 1 ≤ mc) (hs : slots + 6 ≤ ms) :
    W p l e R s m args below meth c H locs cells slots (vx_MQ below Qc XC args s mc ms free) (F0 m pc ls rest) := by
  intro T hT X
  have htr : e.platform.stackTraces = false := (show e.platform.stackTraces = l.stackTraces by rw [X.admits.platform]).trans hl
  have Y := vx_rebase X (R' := { frames := R.frames, locals := R.locals, cells := 1, slots := 6 }) (Nat.le_refl _) (Nat.le_refl _) hRcells hRslots
  obtain ⟨s', hA⟩ : ∃ z, z = (T.setVm s.vm).setFrames (.invoking m args :: below) := ⟨_, rfl⟩
  rw [← hA] at Y
  have hvm : s'.vm = s.vm := by rw [hA]; rfl
  have hhp : s'.heap = H := by rw [hA]; exact hT
  have hW0 : s.WarmedH s'.vm := by rw [hvm]; exact State.WarmedH.refl s
  have hat' : ∀ w ∈ vx_at0 own ic cls names, w.before args s' = true := fun w hw => vx_ot_at hW0 hvm.symm (hgood w (List.mem_cons_of_mem _ (List.mem_cons_of_mem _ hw))) (hat w hw)
  have hk' : (Cond.classLink own ik cls).before args s' = true := vx_ot_at hW0 hvm.symm (hgood _ List.mem_cons_self) hk
  have hini' : (Cond.initialized cls).before args s' = true := vx_ot_at hW0 hvm.symm (hgood _ (List.mem_cons_of_mem _ List.mem_cons_self)) hini
  have hU' : vx_Zq Bundle.tN "UNASSIGNED_STACK" Bundle.steD A s' s'.heap := by rw [hhp]; exact vx_Zq.moved hW0.alike (hU.kept hS.2.1)
  have hN' : vx_Zq Bundle.tN "SUPPRESSED_SENTINEL" Bundle.listD A s' s'.heap := by rw [hhp]; exact vx_Zq.moved hW0.alike (hN.kept hS.2.1)
  have h : ∀ w ∈ Bundle.ownAtoms0 own ic cls names, w.before args s' = true := vx_own hat' (vx_isRefq hU'.1) (vx_isRefq hN'.1) hU'.2.word hN'.2.word
  have hown' : s'.vm.findClass own = some m.cls := by rw [hvm]; exact hown
  have hins : (Cond.instantiable cls 6).before args s' = true := h _ (by simp [Bundle.ownAtoms0])
  obtain ⟨vm₁, cX, kX, hfX, hkX, -, -, X₁, st1⟩ := Y.newCold hexec (own := own) (C := cls) (index := ik) (n := 6) hown' hk' hins hini'
    (g := F0 m pc ls rest) rfl (by rw [hb]; exact d0) (Nat.le_refl _) (Nat.le_refl _)
  generalize hT1 : (T.setVm vm₁).pushCell { cls := cX, slots := kX.instanceTypes.map defaultValue, vm := .none } = T1 at X₁ st1
  have hcat : (Value.ref T.heap.size).category = 1 := rfl
  have hcellA : T1.heap[T.heap.size]? = some (freshCell cX kX) := by rw [← hT1]; exact State.heap_pushCell_size _ _
  have d3' : decode c.code (pc + 3) = .ok (.dup, 1) := by rw [hb]; exact d3
  obtain ⟨U, hsteps, hrun, hend, hW, hsame, ce, hce, hO⟩ := X₁.ctorThrow0 hexec htr (own := own) (cls := cls) (names := names) (ic := ic) hown' hcls hnames h (fun x hx => nomatch hx) hfX hkX hcellA (by rw [hhp, hT]; exact Nat.le_refl _)
    (g := { method := m, pc := pc + 4, locals := ls, stack := .ref T.heap.size :: .ref T.heap.size :: rest, locked := none }) rfl hsize rfl rfl (rest := rest) rfl
    (by rw [hb]; exact d4) (by rw [hb]; exact d7) hout hRframes (by simp only [List.map_cons, List.sum_cons, hcat]; omega) hlocks
  obtain ⟨f1, f2⟩ := vx_frame hsame
  rw [hhp] at f1 f2
  have hWs : s.WarmedH U.vm := State.WarmedH.trans hW0 hW
  have hcl : s.vm.findClass cls = some ce.cls := by
    have h9 := hO.cls
    rw [hvm] at h9
    exact h9
  have hall : s.sameButNew ({ U with vm := s.vm } : State) locs mc ms := by
    subst hA
    obtain ⟨e1, e2⟩ := hsame
    rw [State.setFrames_setFrames] at e1
    have h2 : (T.setVm s.vm).sameButNew ({ U with vm := s.vm } : State) [] (0 + 1) (0 + 6) := ⟨e1, e2⟩
    have h3 := X.same.trans h2
    rw [List.append_nil] at h3
    exact h3.mono hc hs
  refine ⟨U, ?_, .threw T.heap.size, hrun, hend, Or.inr ⟨T.heap.size, rfl, cls, ce, locs, hx U hWs.alike f1 (fun q hq => f2 q hq (fun z hz => nomatch hz)), hce, hO.vm, hcl, hWs, hall, hf⟩⟩
  refine st1 _ ?_
  show Steps p.tables e below (T1.setTop { method := m, pc := pc + 3, locals := ls, stack := .ref T.heap.size :: rest, locked := none }) _
  jvm_step X₁.here [X₁.here.top, hexec, d3', Value.category]
  exact hsteps
/-- 'throw new E("text")': new; dup; ldc; invokespecial; athrow -/
theorem vx_throwS {cc : ByteArray} {pc : Nat} (hexec : p.tables.exec = Jvm.exec) (hb : c.code = cc) (hl : l.stackTraces = false) {own cls text : String} {names : List String} {ik is ic mc ms sa : Nat} {A : Nat → Prop}
    (hown : s.vm.findClass own = some m.cls) (hcls : Bundle.fit cls = true) (hnames : ∀ n ∈ names, Bundle.fit n = true)
    (hk : (Cond.classLink own ik cls).before args s = true) (hini : (Cond.initialized cls).before args s = true) (hstr : vk_R own is text sa s) (hat : ∀ w ∈ vx_atS own ic cls names, w.before args s = true)
    (hgood : ∀ w ∈ Cond.classLink own ik cls :: Cond.initialized cls :: vx_atS own ic cls names, vx_ot w = true)
    (hU : vx_Zq Bundle.tN "UNASSIGNED_STACK" Bundle.steD A s s.heap) (hN : vx_Zq Bundle.tN "SUPPRESSED_SENTINEL" Bundle.listD A s s.heap) (hS : va_S A s.heap H locs) (hsize : ls.size = c.maxLocals)
    (d0 : decode cc pc = .ok (.new ik, 3)) (d3 : decode cc (pc + 3) = .ok (.dup, 1)) (d4 : decode cc (pc + 4) = .ok (.ldc is, 2)) (d6 : decode cc (pc + 6) = .ok (.invokespecial ic, 3)) (d9 : decode cc (pc + 9) = .ok (.athrow, 1))
    (hout : ∀ x ∈ c.exceptionTable.toList, covers x (pc + 9) = false)
    (hRframes : names.length + 3 < R.frames) (hRlocals : (rest.map fun v => v.category).sum + (13 * (names.length + 1) + 43) ≤ R.locals) (hRcells : cells + 1 ≤ R.cells) (hRslots : slots + 6 ≤ R.slots) (hlocks : meth.locks = false)
    (hx : ∀ t : State, s.vm.Alike t.vm → H.size ≤ t.heap.size → (∀ q : Nat, q < H.size → t.heap[q]? = H[q]?) → XC cls s t)
    (hf : ∀ z ∈ locs, free z.base) (hc : cells + 1 ≤ mc) (hs : slots + 6 ≤ ms) :
    W p l e R s m args below meth c H locs cells slots (vx_MQ below Qc XC args s mc ms free) (F0 m pc ls rest) := by
  intro T hT X
  have htr : e.platform.stackTraces = false := (show e.platform.stackTraces = l.stackTraces by rw [X.admits.platform]).trans hl
  have Y := vx_rebase X (R' := { frames := R.frames, locals := R.locals, cells := 1, slots := 6 }) (Nat.le_refl _) (Nat.le_refl _) hRcells hRslots
  obtain ⟨s', hA⟩ : ∃ z, z = (T.setVm s.vm).setFrames (.invoking m args :: below) := ⟨_, rfl⟩
  rw [← hA] at Y
  have hvm : s'.vm = s.vm := by rw [hA]; rfl
  have hhp : s'.heap = H := by rw [hA]; exact hT
  have hW0 : s.WarmedH s'.vm := by rw [hvm]; exact State.WarmedH.refl s
  have hat' : ∀ w ∈ vx_atS own ic cls names, w.before args s' = true := fun w hw => vx_ot_at hW0 hvm.symm (hgood w (List.mem_cons_of_mem _ (List.mem_cons_of_mem _ hw))) (hat w hw)
  have hk' : (Cond.classLink own ik cls).before args s' = true := vx_ot_at hW0 hvm.symm (hgood _ List.mem_cons_self) hk
  have hini' : (Cond.initialized cls).before args s' = true := vx_ot_at hW0 hvm.symm (hgood _ (List.mem_cons_of_mem _ List.mem_cons_self)) hini
  have hU' : vx_Zq Bundle.tN "UNASSIGNED_STACK" Bundle.steD A s' s'.heap := by rw [hhp]; exact vx_Zq.moved hW0.alike (hU.kept hS.2.1)
  have hN' : vx_Zq Bundle.tN "SUPPRESSED_SENTINEL" Bundle.listD A s' s'.heap := by rw [hhp]; exact vx_Zq.moved hW0.alike (hN.kept hS.2.1)
  have h : ∀ w ∈ Bundle.ownAtoms own ic cls names, w.before args s' = true := vx_own hat' (vx_isRefq hU'.1) (vx_isRefq hN'.1) hU'.2.word hN'.2.word
  have hown' : s'.vm.findClass own = some m.cls := by rw [hvm]; exact hown
  have hins : (Cond.instantiable cls 6).before args s' = true := h _ (by simp [Bundle.ownAtoms])
  obtain ⟨vm₁, cX, kX, hfX, hkX, -, -, X₁, st1⟩ := Y.newCold hexec (own := own) (C := cls) (index := ik) (n := 6) hown' hk' hins hini'
    (g := F0 m pc ls rest) rfl (by rw [hb]; exact d0) (Nat.le_refl _) (Nat.le_refl _)
  generalize hT1 : (T.setVm vm₁).pushCell { cls := cX, slots := kX.instanceTypes.map defaultValue, vm := .none } = T1 at X₁ st1
  have hcat : (Value.ref T.heap.size).category = 1 := rfl
  have hcellA : T1.heap[T.heap.size]? = some (freshCell cX kX) := by rw [← hT1]; exact State.heap_pushCell_size _ _
  have d3' : decode c.code (pc + 3) = .ok (.dup, 1) := by rw [hb]; exact d3
  have d4' : decode c.code (pc + 4) = .ok (.ldc is, 2) := by rw [hb]; exact d4
  have hstr' : vk_R own is text sa s' := vk_R.warm hW0 hstr
  obtain ⟨U, hsteps, hrun, hend, hW, hsame, ce, hce, hO⟩ := X₁.ctorThrowS hexec htr (own := own) (cls := cls) (names := names) (ic := ic) hown' hcls hnames h (fun x hx => nomatch hx) hfX hkX hcellA (by rw [hhp, hT]; exact Nat.le_refl _) (msg := .ref sa) rfl
    (g := { method := m, pc := pc + 6, locals := ls, stack := .ref sa :: .ref T.heap.size :: .ref T.heap.size :: rest, locked := none }) rfl hsize rfl rfl (rest := rest) rfl
    (by rw [hb]; exact d6) (by rw [hb]; exact d9) hout hRframes (by simp only [List.map_cons, List.sum_cons, hcat]; omega) hlocks
  obtain ⟨f1, f2⟩ := vx_frame hsame
  rw [hhp] at f1 f2
  have hWs : s.WarmedH U.vm := State.WarmedH.trans hW0 hW
  have hcl : s.vm.findClass cls = some ce.cls := by
    have h9 := hO.cls
    rw [hvm] at h9
    exact h9
  have hall : s.sameButNew ({ U with vm := s.vm } : State) locs mc ms := by
    subst hA
    obtain ⟨e1, e2⟩ := hsame
    rw [State.setFrames_setFrames] at e1
    have h2 : (T.setVm s.vm).sameButNew ({ U with vm := s.vm } : State) [] (0 + 1) (0 + 6) := ⟨e1, e2⟩
    have h3 := X.same.trans h2
    rw [List.append_nil] at h3
    exact h3.mono hc hs
  refine ⟨U, ?_, .threw T.heap.size, hrun, hend, Or.inr ⟨T.heap.size, rfl, cls, ce, locs, hx U hWs.alike f1 (fun q hq => f2 q hq (fun z hz => nomatch hz)), hce, hO.vm, hcl, hWs, hall, hf⟩⟩
  refine st1 _ ?_
  show Steps p.tables e below (T1.setTop { method := m, pc := pc + 3, locals := ls, stack := .ref T.heap.size :: rest, locked := none }) _
  jvm_step X₁.here [X₁.here.top, hexec, d3', Value.category]
  exact X₁.ldcString hexec (own := own) (text := text) (index := is) (a := sa) hown' hstr'.1 hstr'.2
    (g := { method := m, pc := pc + 4, locals := ls, stack := .ref T.heap.size :: .ref T.heap.size :: rest, locked := none }) rfl d4' _ hsteps
/-- 'throw new E("text")', the text by a wide index -/
theorem vx_throwSW {cc : ByteArray} {pc : Nat} (hexec : p.tables.exec = Jvm.exec) (hb : c.code = cc) (hl : l.stackTraces = false) {own cls text : String} {names : List String} {ik is ic mc ms sa : Nat} {A : Nat → Prop}
    (hown : s.vm.findClass own = some m.cls) (hcls : Bundle.fit cls = true) (hnames : ∀ n ∈ names, Bundle.fit n = true)
    (hk : (Cond.classLink own ik cls).before args s = true) (hini : (Cond.initialized cls).before args s = true) (hstr : vk_R own is text sa s) (hat : ∀ w ∈ vx_atS own ic cls names, w.before args s = true)
    (hgood : ∀ w ∈ Cond.classLink own ik cls :: Cond.initialized cls :: vx_atS own ic cls names, vx_ot w = true)
    (hU : vx_Zq Bundle.tN "UNASSIGNED_STACK" Bundle.steD A s s.heap) (hN : vx_Zq Bundle.tN "SUPPRESSED_SENTINEL" Bundle.listD A s s.heap) (hS : va_S A s.heap H locs) (hsize : ls.size = c.maxLocals)
    (d0 : decode cc pc = .ok (.new ik, 3)) (d3 : decode cc (pc + 3) = .ok (.dup, 1)) (d4 : decode cc (pc + 4) = .ok (.ldc_w is, 3)) (d7 : decode cc (pc + 7) = .ok (.invokespecial ic, 3)) (d10 : decode cc (pc + 10) = .ok (.athrow, 1))
    (hout : ∀ x ∈ c.exceptionTable.toList, covers x (pc + 10) = false)
    (hRframes : names.length + 3 < R.frames) (hRlocals : (rest.map fun v => v.category).sum + (13 * (names.length + 1) + 43) ≤ R.locals) (hRcells : cells + 1 ≤ R.cells) (hRslots : slots + 6 ≤ R.slots) (hlocks : meth.locks = false)
    (hx : ∀ t : State, s.vm.Alike t.vm → H.size ≤ t.heap.size → (∀ q : Nat, q < H.size → t.heap[q]? = H[q]?) → XC cls s t)
    (hf : ∀ z ∈ locs, free z.base) (hc : cells + 1 ≤ mc) (hs : slots + 6 ≤ ms) :
    W p l e R s m args below meth c H locs cells slots (vx_MQ below Qc XC args s mc ms free) (F0 m pc ls rest) := by
  intro T hT X
  have htr : e.platform.stackTraces = false := (show e.platform.stackTraces = l.stackTraces by rw [X.admits.platform]).trans hl
  have Y := vx_rebase X (R' := { frames := R.frames, locals := R.locals, cells := 1, slots := 6 }) (Nat.le_refl _) (Nat.le_refl _) hRcells hRslots
  obtain ⟨s', hA⟩ : ∃ z, z = (T.setVm s.vm).setFrames (.invoking m args :: below) := ⟨_, rfl⟩
  rw [← hA] at Y
  have hvm : s'.vm = s.vm := by rw [hA]; rfl
  have hhp : s'.heap = H := by rw [hA]; exact hT
  have hW0 : s.WarmedH s'.vm := by rw [hvm]; exact State.WarmedH.refl s
  have hat' : ∀ w ∈ vx_atS own ic cls names, w.before args s' = true := fun w hw => vx_ot_at hW0 hvm.symm (hgood w (List.mem_cons_of_mem _ (List.mem_cons_of_mem _ hw))) (hat w hw)
  have hk' : (Cond.classLink own ik cls).before args s' = true := vx_ot_at hW0 hvm.symm (hgood _ List.mem_cons_self) hk
  have hini' : (Cond.initialized cls).before args s' = true := vx_ot_at hW0 hvm.symm (hgood _ (List.mem_cons_of_mem _ List.mem_cons_self)) hini
  have hU' : vx_Zq Bundle.tN "UNASSIGNED_STACK" Bundle.steD A s' s'.heap := by rw [hhp]; exact vx_Zq.moved hW0.alike (hU.kept hS.2.1)
  have hN' : vx_Zq Bundle.tN "SUPPRESSED_SENTINEL" Bundle.listD A s' s'.heap := by rw [hhp]; exact vx_Zq.moved hW0.alike (hN.kept hS.2.1)
  have h : ∀ w ∈ Bundle.ownAtoms own ic cls names, w.before args s' = true := vx_own hat' (vx_isRefq hU'.1) (vx_isRefq hN'.1) hU'.2.word hN'.2.word
  have hown' : s'.vm.findClass own = some m.cls := by rw [hvm]; exact hown
  have hins : (Cond.instantiable cls 6).before args s' = true := h _ (by simp [Bundle.ownAtoms])
  obtain ⟨vm₁, cX, kX, hfX, hkX, -, -, X₁, st1⟩ := Y.newCold hexec (own := own) (C := cls) (index := ik) (n := 6) hown' hk' hins hini'
    (g := F0 m pc ls rest) rfl (by rw [hb]; exact d0) (Nat.le_refl _) (Nat.le_refl _)
  generalize hT1 : (T.setVm vm₁).pushCell { cls := cX, slots := kX.instanceTypes.map defaultValue, vm := .none } = T1 at X₁ st1
  have hcat : (Value.ref T.heap.size).category = 1 := rfl
  have hcellA : T1.heap[T.heap.size]? = some (freshCell cX kX) := by rw [← hT1]; exact State.heap_pushCell_size _ _
  have d3' : decode c.code (pc + 3) = .ok (.dup, 1) := by rw [hb]; exact d3
  have d4' : decode c.code (pc + 4) = .ok (.ldc_w is, 3) := by rw [hb]; exact d4
  have hstr' : vk_R own is text sa s' := vk_R.warm hW0 hstr
  obtain ⟨U, hsteps, hrun, hend, hW, hsame, ce, hce, hO⟩ := X₁.ctorThrowS hexec htr (own := own) (cls := cls) (names := names) (ic := ic) hown' hcls hnames h (fun x hx => nomatch hx) hfX hkX hcellA (by rw [hhp, hT]; exact Nat.le_refl _) (msg := .ref sa) rfl
    (g := { method := m, pc := pc + 7, locals := ls, stack := .ref sa :: .ref T.heap.size :: .ref T.heap.size :: rest, locked := none }) rfl hsize rfl rfl (rest := rest) rfl
    (by rw [hb]; exact d7) (by rw [hb]; exact d10) hout hRframes (by simp only [List.map_cons, List.sum_cons, hcat]; omega) hlocks
  obtain ⟨f1, f2⟩ := vx_frame hsame
  rw [hhp] at f1 f2
  have hWs : s.WarmedH U.vm := State.WarmedH.trans hW0 hW
  have hcl : s.vm.findClass cls = some ce.cls := by
    have h9 := hO.cls
    rw [hvm] at h9
    exact h9
  have hall : s.sameButNew ({ U with vm := s.vm } : State) locs mc ms := by
    subst hA
    obtain ⟨e1, e2⟩ := hsame
    rw [State.setFrames_setFrames] at e1
    have h2 : (T.setVm s.vm).sameButNew ({ U with vm := s.vm } : State) [] (0 + 1) (0 + 6) := ⟨e1, e2⟩
    have h3 := X.same.trans h2
    rw [List.append_nil] at h3
    exact h3.mono hc hs
  refine ⟨U, ?_, .threw T.heap.size, hrun, hend, Or.inr ⟨T.heap.size, rfl, cls, ce, locs, hx U hWs.alike f1 (fun q hq => f2 q hq (fun z hz => nomatch hz)), hce, hO.vm, hcl, hWs, hall, hf⟩⟩
  refine st1 _ ?_
  show Steps p.tables e below (T1.setTop { method := m, pc := pc + 3, locals := ls, stack := .ref T.heap.size :: rest, locked := none }) _
  jvm_step X₁.here [X₁.here.top, hexec, d3', Value.category]
  exact X₁.ldcStringW hexec (own := own) (text := text) (index := is) (a := sa) hown' hstr'.1 hstr'.2
    (g := { method := m, pc := pc + 4, locals := ls, stack := .ref T.heap.size :: .ref T.heap.size :: rest, locked := none }) rfl d4' _ hsteps
end Ends
section Bodies
variable {l : Launch}
theorem vx_ofW {y : MethodName} {ws ws' : List Cond} {rm : Room} {Pc : Array Value → State → Prop} {Qc : Array Value → State → Outcome → State → Prop} {XC : String → State → State → Prop} {mc ms : Nat} {free : Addr → Prop} {cc : ByteArray} {maxL : Nat} {ret : Option FieldType}
    (hy : plainName y.cls = true) (hw : ws = Cond.code y cc maxL ret :: ws')
    (body : ∀ p e s m args below meth c s₁, BodyLoose p l y (headSpec ws rm) cc maxL ret e s m args below meth c s₁ → c.maxLocals = maxL → (∀ x ∈ c.exceptionTable.toList, False) → Pc args s →
      W p l e (headSpec ws rm).room s m args below meth c s.heap [] 0 0 (vx_MQ below Qc XC args s mc ms free) (entryFrame m args maxL)) : vx_Met l y ws rm Pc Qc XC mc ms free := by
  refine MetFree.of_bodyS (code := cc) (maxLocals := maxL) (ret := ret) hy ?_ ?_
  · intro args s m h hn
    obtain ⟨meth, c, h1, h2, h3, h4, h5, h6, -, -⟩ := Cond.code_spec hn (atoms_spec (ws := ws) h _ (by rw [hw]; exact List.mem_cons_self))
    exact ⟨meth, c, h1, h2, h3, h4, h5, h6⟩
  · intro p e s m args below meth c s₁ B hml hP _
    have hh0 : s₁.heap = s.heap := by rw [B.state]; rfl
    have ht : ∀ x ∈ c.exceptionTable.toList, False := by
      obtain ⟨meth9, c9, h1, h2, -, -, -, -, h7, -⟩ := Cond.code_spec B.named (atoms_spec (ws := ws) B.pre _ (by rw [hw]; exact List.mem_cons_self))
      cases Option.some.inj (h1.symm.trans B.method)
      cases Option.some.inj (h2.symm.trans (Stand.of_body B).code)
      intro x hx
      rw [Array.isEmpty_iff.mp h7] at hx
      cases hx
    obtain ⟨t, a1, o, b1, b2, b3⟩ := body p e s m args below meth c s₁ B hml ht hP s₁ hh0 (Stand.of_body B)
    exact ⟨t, o, a1, b1, b2, b3⟩
/-- the table of a body with handlers -/
theorem vx_table {p : Program} {x y : MethodName} {S : Spec} {cc bytes : ByteArray} {maxL maxL' : Nat} {ret ret' : Option FieldType} {e : Env} {s s₁ : State} {m : MethodId} {args : Array Value} {below : List Frame} {meth : Method} {c : Code} {hh : List (Nat × Nat × Nat × Nat)}
    (B : BodyLoose p l y S cc maxL ret e s m args below meth c s₁) (h : (Cond.codeWith y bytes maxL' ret' hh).before args s = true) : c.exceptionTable.toList = tableOf hh := by
  obtain ⟨m9, meth9, c9, hn9, h1, h2, -, -, h6, -⟩ := Cond.codeWith_spec h
  cases Option.some.inj (hn9.symm.trans B.named)
  cases Option.some.inj (h1.symm.trans B.method)
  cases Option.some.inj (h2.symm.trans (Stand.of_body B).code)
  rw [← h6, table_eq]
end Bodies
end VXA
/-! ===== END ===== -/
/-! ===== BEGIN a static call of a method with an exception table ===== -/
section VXS
variable {p : Program} {l : Launch} {e : Env} {R : Room} {s : State} {m : MethodId} {args : Array Value} {below : List Frame} {meth : Method} {c : Code} {T : State} {H : Heap} {locs : List Loc} {cells slots : Nat}
abbrev vx_CSW (R : Room) (s : State) (args : Array Value) (own : String) (index : Nat) (y : MethodName) (bytes : ByteArray) (maxL : Nat) (ret : Option FieldType) (hh : List (Nat × Nat × Nat × Nat)) (ws : List Cond) (rm : Room) (mc ms n : Nat) : Prop :=
  (rm.cells = mc ∧ rm.slots = ms ∧ rm.frames + 1 ≤ R.frames ∧ 8 + (maxL + 11) + rm.locals ≤ R.locals ∧ (∀ w ∈ ws, ∀ (a' : Array Value) (U : State), s.WarmedH U.vm → w.before a' U = true) ∧ Cond.codeWith y bytes maxL ret hh ∈ ws) ∧
  (Cond.codeWith y bytes maxL ret hh).before args s = true ∧ (Cond.initialized y.cls).before args s = true ∧ (y.cls ≠ "java/lang/invoke/MethodHandle" ∧ y.cls ≠ "java/lang/invoke/VarHandle") ∧
  (∀ sig, parseMethodDescriptor y.desc = some sig → n = sig.parameters.length) ∧ (Cond.methodLink own index y).before args s = true ∧ (Cond.static y).before args s = true
theorem vx_cwSW {own : String} {index maxL mc ms : Nat} {y : MethodName} {bytes : ByteArray} {ret : Option FieldType} {hh : List (Nat × Nat × Nat × Nat)} {Ts ws ws' : List Cond} {rm : Room} (n : Nat) (ht : ∀ w ∈ Ts, w.before args s = true) (hT : GoodIn Ts (va_wsS own index y ws)) (hw : ws = Cond.codeWith y bytes maxL ret hh :: ws') (hrc : rm.cells = mc) (hrs : rm.slots = ms)
    (hd : y.cls ≠ "java/lang/invoke/MethodHandle" ∧ y.cls ≠ "java/lang/invoke/VarHandle" ∧ (parseMethodDescriptor y.desc).map (fun d => d.parameters.length) = some n) (hR : rm.frames + 1 ≤ R.frames ∧ 8 + (maxL + 11) + rm.locals ≤ R.locals) :
    vx_CSW R s args own index y bytes maxL ret hh ws rm mc ms n := by
  have ok : ∀ w ∈ va_wsS own index y ws, w.before args s = true := fun w h => ht w (hT w h).1
  have hG : GoodIn Ts ws := fun w h => hT w (by unfold va_wsS; exact List.mem_append_right _ h)
  have hc : Cond.codeWith y bytes maxL ret hh ∈ ws := by rw [hw]; exact List.mem_cons_self
  refine ⟨⟨hrc, hrs, hR.1, hR.2, pay_in ht hG, hc⟩, ht _ (hG _ hc).1, ok _ (by simp [va_wsS]), ⟨hd.1, hd.2.1⟩, fun sig h => ?_, ok _ (by simp [va_wsS]), ok _ (by simp [va_wsS])⟩
  have h2 := hd.2.2
  rw [h] at h2
  exact (Option.some.inj h2).symm
theorem vx_callSW (X : Stand p l e R s m args below meth c T locs cells slots) (hexec : p.tables.exec = Jvm.exec) {own : String} {index : Nat} {y : MethodName} {bytes : ByteArray} {maxL : Nat} {ret : Option FieldType} {hh : List (Nat × Nat × Nat × Nat)}
    (hown : s.vm.findClass own = some m.cls) (hlink : (Cond.methodLink own index y).before args s = true) (hstat : (Cond.static y).before args s = true) (hinit : (Cond.initialized y.cls).before args s = true)
    (hcode : (Cond.codeWith y bytes maxL ret hh).before args s = true) (hy : y.cls ≠ "java/lang/invoke/MethodHandle" ∧ y.cls ≠ "java/lang/invoke/VarHandle")
    {W9 : Nat} {Pre : Pt → Array Value → Prop} {Post : Pt → Array Value → Option Value → Pt → Prop} (hK : Back l R p e below s args y 3 W9 Pre Post)
    {g : JFrame} (hg : g.method = m) (hsize : g.locals.size = c.maxLocals) {argsL rest : List Value} (hlen : ∀ sig, parseMethodDescriptor y.desc = some sig → argsL.length = sig.parameters.length)
    (hstack : g.stack = argsL.reverse ++ rest) (hW : 2 * g.monitorRoom + (rest.map fun v => v.category).sum ≤ W9) (hdg : decode c.code g.pc = .ok (.invokestatic index, 3))
    (hpre : ∀ vm₁, s.WarmedH vm₁ → Pre ⟨T.setVm vm₁, locs, cells, slots⟩ argsL.toArray) :
    ∃ (v : Option Value) (vm₁ : Vm) (B : Pt), s.WarmedH vm₁ ∧ Stand p l e R s m args below meth c B.U B.locs B.cells B.slots ∧ Post ⟨T.setVm vm₁, locs, cells, slots⟩ argsL.toArray v B ∧
      ∀ target, Steps p.tables e below (B.U.setTop { g with pc := g.pc + 3, stack := v.toList ++ rest }) target → Steps p.tables e below (T.setTop g) target := by
  obtain ⟨mk, methM, cM, hnamed, hmethM, -, -, -, -, -, -, hsigM⟩ := Cond.codeWith_spec hcode
  have hstatic : methM.isStatic = true := Cond.static_spec hnamed hmethM hstat
  obtain ⟨kP, hkP, -⟩ := className_of_methodNamed hnamed
  have hinitP : kP.init = .initialized := Cond.initialized_spec (findClass_of_methodNamed hnamed) hkP hinit
  obtain ⟨vm₁, X₁, hstep₁⟩ := X.invokestatic hexec hown hlink hnamed hmethM hstatic hkP hinitP hy (g := g) hg (argsL := argsL) (rest := rest) (hlen _ hsigM) hstack hdg
  obtain ⟨v, B, X', hpost, hsteps⟩ := hK m meth c ⟨T.setVm vm₁, locs, cells, slots⟩ { g with stack := rest } (.invokestatic index) mk argsL.toArray X₁ hg hsize hdg hW (X₁.named hnamed) (hpre vm₁ X₁.warmed)
  exact ⟨v, vm₁, B, X₁.warmed, X', hpost, fun target h => hstep₁ _ fun acts => by rw [doInvoke_state]; exact hsteps.trans h⟩
theorem vx_runSW {y : MethodName} {bytes cc : ByteArray} {maxL nL mc ms n index : Nat} {ret : Option FieldType} {hh : List (Nat × Nat × Nat × Nat)} {ws : List Cond} {rm : Room} {Pc : Array Value → State → Prop} {Qc : Array Value → State → Outcome → State → Prop} {free : Addr → Prop} {Ts : List Cond} {own : String} {As rest : List Value} {g : JFrame}
    (S : CallFix p m c cc nL s args Ts own) (hM : Met l y ws rm Pc Qc mc ms free) (cw : vx_CSW R s args own index y bytes maxL ret hh ws rm mc ms n) (hp : PreS s H Pc As)
    (hg : g.method = m) (hn : As.length = n) (hsize : g.locals.size = nL) (hstack : g.stack = As.reverse ++ rest) (hW : 2 * g.monitorRoom + (rest.map fun v => v.category).sum ≤ 8) (hdg : decode cc g.pc = .ok (.invokestatic index, 3)) (hf : cells + mc ≤ R.cells ∧ slots + ms ≤ R.slots) :
    va_Run p l e R s m args below meth c H locs cells slots mc ms g rest (Qc As.toArray) (free) := by
  obtain ⟨⟨hrc, hrs, hfr, hlo, hws, hcw⟩, hcode, hini, hy, hlen, hl, hstt⟩ := cw
  have hK : Back l R p e below s args y 3 8 (PreOf R mc ms Pc) (PostOf Qc mc ms free) := va_backW (hh := hh) (bytes := bytes) (maxL := maxL) (ret := ret) hM hp.1 hrc hrs hfr hlo hws hcw (fun a' U hW => word_at hW (Or.inl (by first | rfl | simp [Cond.onTables, Cond.keeps, Cond.steady])) hini)
  obtain ⟨hx, hb, hml, ho, -⟩ := S
  intro T hT X
  obtain ⟨v, vm₁, ⟨U', l2, c2, s2⟩, hW₁, X', ⟨g', mk, t, L, e1, e2, hq, h1, hL, h2, h3⟩, st⟩ := vx_callSW X hx (hh := hh) (bytes := bytes) (maxL := maxL) (ret := ret) ho hl hstt hini hcode hy hK hg (hsize.trans hml.symm) (argsL := As) (rest := rest) (fun sig h => hn.trans (hlen sig h)) hstack hW (by rw [hb]; exact hdg)
    (fun vm₁ hW₁ => ⟨hf.1, hf.2, hp.2 (T.setVm vm₁) hT hW₁⟩)
  dsimp only [Pt.U, Pt.locs, Pt.cells, Pt.slots] at X' e1 e2 h1 h2 h3 st
  subst h1; subst h2; subst h3
  exact ⟨v, (T.setVm vm₁).calling g' mk As.toArray, t, U', L, hT, X', hL, e1, e2, hq, st⟩
/-- not caught here, past rows that name other classes: it goes on to the caller -/
theorem vx_outP {p : Program} {l : Launch} {e : Env} {R : Room} {s : State} {m : MethodId} {args : Array Value} {below : List Frame} {meth : Method} {c : Code} {H : Heap} {locs : List Loc} {cells slots : Nat} {free : Addr → Prop} {ls : Array Slot} {rest : List Value} {Qc : Array Value → State → Outcome → State → Prop} {XC : String → State → State → Prop}
    {pc : Nat} {own E : String} {ce : Cell} {q : Addr} {mc ms : Nat} (hown : s.vm.findClass own = some m.cls) (hlocks : meth.locks = false)
    (hpass : ∀ z ∈ c.exceptionTable.toList, covers z pc = false ∨ (z.catchType ≠ 0 ∧ ∃ nm : String, (Cond.classLink own z.catchType nm).before args s = true ∧ va_Nc E nm s)) (hcell : H[q]? = some ce) (hv : ce.vm = .none) (hcl : s.vm.findClass E = some ce.cls)
    (hx : ∀ t : State, t.heap = H → s.vm.Alike t.vm → XC E s t) (hf : ∀ z ∈ locs, free z.base) (hc : cells ≤ mc) (hs : slots ≤ ms) :
    vx_W p l e R s m args below meth c H locs cells slots (vx_MQ below Qc XC args s mc ms free) (F0 m pc ls rest) q := by
  intro T hT X
  have hpl : e.platform.magicAccessors = ({} : Platform).magicAccessors := by rw [X.admits.platform]
  obtain ⟨vm', hW', X', st⟩ := X.outThrough hlocks q (g := F0 m pc ls rest) rfl rfl rfl (cell := ce) (by rw [hT]; exact hcell) (by rw [hv]; rfl)
    (by obtain ⟨k9, h9, -⟩ := Vm.findClass_spec hcl; exact ⟨k9, h9⟩) (fun z hz => by
      rcases hpass z hz with h | ⟨hz0, nm, hl1, hn1⟩
      · exact Or.inl h
      · obtain ⟨c6, hc6, hcl6⟩ := Cond.classLink_spec hown hl1 e.platform hpl
        obtain ⟨a8, b8, h1, h2, h3⟩ := hn1
        cases Option.some.inj (h1.symm.trans hcl)
        cases Option.some.inj (h2.symm.trans hc6)
        exact Or.inr ⟨hz0, _, hcl6, h3⟩)
  obtain ⟨g₀, hfr⟩ := X'.frames_eq
  have hcell9 : ((T.setVm vm').setFrames (.throwing q :: below)).heap[q]? = some ce := by
    show T.heap[q]? = some ce
    rw [hT]; exact hcell
  have hend : Ended ((T.setVm vm').setFrames (.throwing q :: below)) below (.threw q) := State.frames_setFrames _ (State.cur_lt_of_frames hfr)
  refine ⟨(T.setVm vm').setFrames (.throwing q :: below), ?_, .threw q, X'.here.running, hend, Or.inr ⟨q, rfl, E, ce, locs, hx _ hT (X'.ends _).1.alike, hcell9, hv, hcl, (X'.ends _).1, (X'.ends _).2.mono hc hs, hf⟩⟩
  rw [X.pushThrowing_eq]
  exact st
/-- a thing of a world lies in the heap -/
theorem vx_lt {D : va_G} {cl : List vw_C} {ws : va_W} {H1 : Heap} (h : va_P D cl ws H1) {k : Nat} {q : Nat × va_E} (hk : ws[k]? = some q) : q.1 < H1.size := (h k q hk).lt
end VXS
/-! ===== END ===== -/
/-! ===== BEGIN methods with a table of their own: called by a name, returning or throwing ===== -/
section VXH
/-! vx_backW, vx_callVX, vx_callSX, vx_callVW, vx_runVW, vx_runVX, vx_runSX, vx_ofWH follow the same proofs as their sisters above (Free/Laws.lean, Shelf42/LK1.lean); vx_outP calls Shelf42/NT130.lean (outThrough). -/
section
variable {l : Launch} {R : Room} {p : Program} {e : Env} {below : List Frame} {s : State} {sargs : Array Value} {y : MethodName} {len W9 : Nat}
theorem vx_backW {ws : List Cond} {rm : Room} {Pc : Array Value → State → Prop} {Qc : Array Value → State → Outcome → State → Prop} {XC : String → State → State → Prop} {mc ms : Nat} {free : Addr → Prop} {bytes : ByteArray} {maxL : Nat} {ret : Option FieldType} {hh : List (Nat × Nat × Nat × Nat)}
    (hM : vx_Met l y ws rm Pc Qc XC mc ms free) (hblind : FrameBlind Pc) (hrc : rm.cells = mc) (hrs : rm.slots = ms)
    (hframes : rm.frames + 1 ≤ R.frames) (hlocals : W9 + (maxL + 11) + rm.locals ≤ R.locals)
    (hws : ∀ w ∈ ws, ∀ a' U, s.WarmedH U.vm → w.before a' U = true) (hcode : Cond.codeWith y bytes maxL ret hh ∈ ws) (hinit : ∀ a' U, s.WarmedH U.vm → (Cond.initialized y.cls).before a' U = true) :
    vx_Back l R p e below s sargs y len W9 (PreOf R mc ms Pc) (PostOf Qc mc ms free) (vx_Post XC mc ms free) := by
  intro m meth c A g ig mk a X hg hsize hdg hW hn hp
  have h1 : (headSpec ws rm).pre.before a A.U = true := atoms_intro fun w hw => hws w hw _ _ X.warmed
  have h2 : (Cond.codeWith y bytes maxL ret hh).before a A.U = true := hws _ hcode _ _ X.warmed
  have h3 : (Cond.initialized y.cls).before a A.U = true := hinit _ _ X.warmed
  have h4 : A.cells + (headSpec ws rm).room.cells ≤ R.cells := by rw [show (headSpec ws rm).room.cells = mc from hrc]; exact hp.1
  have h5 : A.slots + (headSpec ws rm).room.slots ≤ R.slots := by rw [show (headSpec ws rm).room.slots = ms from hrs]; exact hp.2.1
  have hPc : Pc a (A.U.calling g mk a) := hblind _ _ _ _ hp.2.2
  obtain ⟨U, Ls, c0, s0⟩ := A
  dsimp only [Pt.U, Pt.locs, Pt.cells, Pt.slots] at h1 h2 h3 h4 h5 X hn hPc ⊢
  obtain ⟨m9, methY, cY, hn9, hmY, hcY, -, hlY, -⟩ := Cond.codeWith_spec h2
  cases Option.some.inj (hn9.symm.trans hn)
  obtain ⟨kY, hkY, -⟩ := className_of_methodNamed hn
  have hinitY : kY.init = .initialized := Cond.initialized_spec (findClass_of_methodNamed hn) hkY h3
  have h : At U g.method c below := by rw [hg]; exact X.here
  have hlocals9 : W9 + (maxL + 11) + (headSpec ws rm).room.locals ≤ R.locals := hlocals
  have happ : (headSpec ws rm).appliesLoose y e.platform (U.calling g mk a) = true :=
    Spec.appliesLoose_calling (g := g) h hdg hn hkY hinitY
      (X.room_calling (g := g) (R' := (headSpec ws rm).room) hsize hmY hcY hframes (by rw [hlY]; omega) h4 h5) h1
  obtain ⟨mid, hmid⟩ := h.above
  have hfr : (U.setTop g).frames = (.java g :: mid) ++ below := by rw [State.frames_setTop' g h.top, hmid]; rfl
  obtain ⟨o, s₂, hsteps, -, hend, hq⟩ := Steps.callFree hM p X.admits X.cas X.clock (acts := []) hfr happ hPc trivial
  have hq' : vx_Q Qc XC mc ms free a (U.calling g mk a) o s₂ := hq
  rw [State.frames_setTop' g h.top] at hend
  obtain ⟨g₀, hg0⟩ := Option.isSome_iff_exists.mp h.top
  obtain ⟨r, hr⟩ := State.topJava?_eq_some.mp hg0
  have hr' : (({ U with heap := s₂.heap, slotsUsed := s₂.slotsUsed } : State).setVm s₂.vm).frames = .java g₀ :: r := hr
  rcases hq' with ⟨hqc, L, hfe, hL⟩ | ⟨q, rfl, E, ce, L, hx, hce, hcv, hcl, hW₂, hsm, hL⟩
  · obtain ⟨⟨v, rfl⟩, hW₂, e2, q2, q3, q4, q5, q6⟩ := id hfe
    have e3 : s₂ = ({ (U.calling g mk a).setFrames s₂.frames with heap := s₂.heap, slotsUsed := s₂.slotsUsed } : State).setVm s₂.vm := by
      have : s₂ = ({ s₂ with vm := (U.calling g mk a).vm } : State).setVm s₂.vm := rfl
      rw [e2] at this
      exact this
    obtain ⟨c₂, i₂, len₂, hc₂, hd₂, hf₂⟩ := hend
    have hW' : U.WarmedH s₂.vm := hW₂
    have hcc : c₂ = c := by
      have h1 : s₂.code? g.method = U.code? g.method := by
        rw [State.code?_eq, State.code?_eq, hW'.alike.method?]
      exact Option.some.inj (hc₂.symm.trans (h1.trans h.code))
    subst hcc
    have hlen : len₂ = len := by rw [hdg] at hd₂; cases hd₂; rfl
    subst hlen
    have hs₂ : s₂ = (({ U with heap := s₂.heap, slotsUsed := s₂.slotsUsed } : State).setVm s₂.vm).setTop { g with pc := g.pc + len₂, stack := v.toList ++ g.stack } := by
      refine e3.trans ?_
      rw [hf₂, State.calling_eq h.top, State.setFrames_setFrames, State.setTop_of_frames _ hr', hr]
      rfl
    have hsame : U.sameButNew ({ U with heap := s₂.heap, slotsUsed := s₂.slotsUsed } : State) L mc ms := by
      refine ⟨?_, q2, q3, q4, q5, q6⟩
      obtain ⟨t, ht, -⟩ := State.frames_cons hr
      show ({ U with heap := s₂.heap, slotsUsed := s₂.slotsUsed } : State) = { U.setFrames U.frames with heap := s₂.heap, slotsUsed := s₂.slotsUsed }
      rw [State.setFrames_self ht]
    subst hg
    refine Or.inl ⟨v, ⟨(({ U with heap := s₂.heap, slotsUsed := s₂.slotsUsed } : State).setVm s₂.vm), Ls ++ L, c0 + mc, s0 + ms⟩,
      ⟨X.admits, X.cas, X.clock, X.frames, X.room, X.hears, X.method, X.code, (X.here.setHeapUsed s₂.heap s₂.slotsUsed).setVm hW'.alike, X.tail, State.WarmedH.trans X.warmed hW', X.limits, X.bytes, X.same.trans (hsame.setVm s.vm)⟩,
      ⟨g, mk, s₂, L, rfl, rfl, hqc, rfl, hL, rfl, rfl⟩, ?_⟩
    show Steps p.tables e below _ ((({ U with heap := s₂.heap, slotsUsed := s₂.slotsUsed } : State).setVm s₂.vm).setTop { g with pc := g.pc + len₂, stack := v.toList ++ g.stack })
    rw [← hs₂]
    exact hsteps
  · obtain ⟨e2, q2, q3, q4, q5, q6⟩ := id hsm
    have e3 : s₂ = ({ (U.calling g mk a).setFrames s₂.frames with heap := s₂.heap, slotsUsed := s₂.slotsUsed } : State).setVm s₂.vm := by
      have : s₂ = ({ s₂ with vm := (U.calling g mk a).vm } : State).setVm s₂.vm := rfl
      rw [e2] at this
      exact this
    have hf₂ : s₂.frames = .throwing q :: .java g :: U.frames.tail := hend
    have hW' : U.WarmedH s₂.vm := hW₂
    have hs₂ : s₂ = ((({ U with heap := s₂.heap, slotsUsed := s₂.slotsUsed } : State).setVm s₂.vm).setTop g).pushFrame (.throwing q) := by
      refine e3.trans ?_
      rw [hf₂, State.calling_eq h.top, State.setFrames_setFrames, State.pushFrame, State.frames_setTop _ hr', State.setTop_of_frames _ hr', State.setFrames_setFrames, hr]
      rfl
    have hsame : U.sameButNew ({ U with heap := s₂.heap, slotsUsed := s₂.slotsUsed } : State) L mc ms := by
      refine ⟨?_, q2, q3, q4, q5, q6⟩
      obtain ⟨t, ht, -⟩ := State.frames_cons hr
      show ({ U with heap := s₂.heap, slotsUsed := s₂.slotsUsed } : State) = { U.setFrames U.frames with heap := s₂.heap, slotsUsed := s₂.slotsUsed }
      rw [State.setFrames_self ht]
    subst hg
    refine Or.inr ⟨q, ⟨(({ U with heap := s₂.heap, slotsUsed := s₂.slotsUsed } : State).setVm s₂.vm), Ls ++ L, c0 + mc, s0 + ms⟩,
      ⟨X.admits, X.cas, X.clock, X.frames, X.room, X.hears, X.method, X.code, (X.here.setHeapUsed s₂.heap s₂.slotsUsed).setVm hW'.alike, X.tail, State.WarmedH.trans X.warmed hW', X.limits, X.bytes, X.same.trans (hsame.setVm s.vm)⟩,
      ⟨g, mk, s₂, L, E, ce, rfl, rfl, hx, hce, hcv, hcl, rfl, hL, rfl, rfl⟩, ?_⟩
    show Steps p.tables e below _ (((({ U with heap := s₂.heap, slotsUsed := s₂.slotsUsed } : State).setVm s₂.vm).setTop g).pushFrame (.throwing q))
    rw [← hs₂]
    exact hsteps
end
variable {p : Program} {l : Launch} {e : Env} {R : Room} {s : State} {m : MethodId} {args : Array Value} {below : List Frame} {meth : Method} {c : Code} {T : State} {H : Heap} {locs : List Loc} {cells slots : Nat}
theorem vx_callVX (X : Stand p l e R s m args below meth c T locs cells slots) (hexec : p.tables.exec = Jvm.exec) {own C : String} {index : Nat} {y : MethodName} {bytes : ByteArray} {maxL : Nat} {ret : Option FieldType} {hh : List (Nat × Nat × Nat × Nat)}
    (hown : s.vm.findClass own = some m.cls) (hlink : (Cond.methodLink own index y).before args s = true) (hinst : (Cond.instanceMethod y).before args s = true) (hsel : (Cond.selects C y y).before args s = true)
    (hcode : (Cond.codeWith y bytes maxL ret hh).before args s = true) (hy : y.cls ≠ "java/lang/invoke/MethodHandle" ∧ y.cls ≠ "java/lang/invoke/VarHandle")
    {W9 : Nat} {Pre : Pt → Array Value → Prop} {Post : Pt → Array Value → Option Value → Pt → Prop} {PostX : Pt → Array Value → Addr → Pt → Prop} (hK : vx_Back l R p e below s args y 3 W9 Pre Post PostX)
    {b : Addr} {cellB : Cell} (hcell : T.heap[b]? = some cellB) (hobj : cellB.vm.isStatics = false) (hcls : s.vm.findClass C = some cellB.cls)
    {g : JFrame} (hg : g.method = m) (hsize : g.locals.size = c.maxLocals) {argsL rest : List Value} (hlen : ∀ sig, parseMethodDescriptor y.desc = some sig → argsL.length = sig.parameters.length)
    (hstack : g.stack = argsL.reverse ++ .ref b :: rest) (hW : 2 * g.monitorRoom + (rest.map fun v => v.category).sum ≤ W9) (hdg : decode c.code g.pc = .ok (.invokevirtual index, 3))
    (hpre : ∀ vm₁, s.WarmedH vm₁ → Pre ⟨T.setVm vm₁, locs, cells, slots⟩ (Value.ref b :: argsL).toArray) :
    (∃ (v : Option Value) (vm₁ : Vm) (B : Pt), s.WarmedH vm₁ ∧ Stand p l e R s m args below meth c B.U B.locs B.cells B.slots ∧ Post ⟨T.setVm vm₁, locs, cells, slots⟩ (Value.ref b :: argsL).toArray v B ∧
      ∀ target, Steps p.tables e below (B.U.setTop { g with pc := g.pc + 3, stack := v.toList ++ rest }) target → Steps p.tables e below (T.setTop g) target) ∨
    (∃ (q : Addr) (vm₁ : Vm) (B : Pt), s.WarmedH vm₁ ∧ Stand p l e R s m args below meth c B.U B.locs B.cells B.slots ∧ PostX ⟨T.setVm vm₁, locs, cells, slots⟩ (Value.ref b :: argsL).toArray q B ∧
      Steps p.tables e below (T.setTop g) ((B.U.setTop { g with stack := rest }).pushFrame (.throwing q))) := by
  obtain ⟨mk, methM, hnamed, hmethM, hstM, habM⟩ := Cond.instanceMethod_spec hinst
  obtain ⟨m8, methM', cM, hn8, hmethM', -, -, -, -, -, -, hsigM⟩ := Cond.codeWith_spec hcode
  cases Option.some.inj (hn8.symm.trans hnamed)
  cases hmethM.symm.trans hmethM'
  obtain ⟨c2, r2, m2, q1, q2, q3, q4, kP, hkP, hkPi⟩ := Cond.selects_spec hsel
  cases hcls.symm.trans q1
  cases (State.methodFound?_of_named hnamed hy).symm.trans q2
  cases hnamed.symm.trans q3
  have hselP : selectMethod e.platform s.vm cellB.cls mk = .method mk := by rw [Launch.admits_selectMethod X.admits]; exact q4
  obtain ⟨vm₁, X₁, hstep₁⟩ := X.invokevirtual hexec hown hlink hnamed hmethM hstM hkP hkPi hy (a := b) (cell := cellB) hcell
    (fun z h => by rw [h] at hobj; cases hobj) hselP hmethM habM hkP hkPi (g := g) hg (argsL := argsL) (rest := rest) (hlen _ hsigM) hstack hdg
  rcases hK m meth c ⟨T.setVm vm₁, locs, cells, slots⟩ { g with stack := rest } (.invokevirtual index) mk (Value.ref b :: argsL).toArray X₁ hg hsize hdg hW (X₁.named hnamed) (hpre vm₁ X₁.warmed) with ⟨v, B, X', hpost, hsteps⟩ | ⟨q, B, X', hpost, hsteps⟩
  · exact Or.inl ⟨v, vm₁, B, X₁.warmed, X', hpost, fun target h => hstep₁ _ fun acts => by rw [doInvoke_state]; exact hsteps.trans h⟩
  · exact Or.inr ⟨q, vm₁, B, X₁.warmed, X', hpost, hstep₁ _ fun acts => by rw [doInvoke_state]; exact hsteps⟩
theorem vx_callSX (X : Stand p l e R s m args below meth c T locs cells slots) (hexec : p.tables.exec = Jvm.exec) {own : String} {index : Nat} {y : MethodName} {bytes : ByteArray} {maxL : Nat} {ret : Option FieldType} {hh : List (Nat × Nat × Nat × Nat)}
    (hown : s.vm.findClass own = some m.cls) (hlink : (Cond.methodLink own index y).before args s = true) (hstat : (Cond.static y).before args s = true) (hinit : (Cond.initialized y.cls).before args s = true)
    (hcode : (Cond.codeWith y bytes maxL ret hh).before args s = true) (hy : y.cls ≠ "java/lang/invoke/MethodHandle" ∧ y.cls ≠ "java/lang/invoke/VarHandle")
    {W9 : Nat} {Pre : Pt → Array Value → Prop} {Post : Pt → Array Value → Option Value → Pt → Prop} {PostX : Pt → Array Value → Addr → Pt → Prop} (hK : vx_Back l R p e below s args y 3 W9 Pre Post PostX)
    {g : JFrame} (hg : g.method = m) (hsize : g.locals.size = c.maxLocals) {argsL rest : List Value} (hlen : ∀ sig, parseMethodDescriptor y.desc = some sig → argsL.length = sig.parameters.length)
    (hstack : g.stack = argsL.reverse ++ rest) (hW : 2 * g.monitorRoom + (rest.map fun v => v.category).sum ≤ W9) (hdg : decode c.code g.pc = .ok (.invokestatic index, 3))
    (hpre : ∀ vm₁, s.WarmedH vm₁ → Pre ⟨T.setVm vm₁, locs, cells, slots⟩ argsL.toArray) :
    (∃ (v : Option Value) (vm₁ : Vm) (B : Pt), s.WarmedH vm₁ ∧ Stand p l e R s m args below meth c B.U B.locs B.cells B.slots ∧ Post ⟨T.setVm vm₁, locs, cells, slots⟩ argsL.toArray v B ∧
      ∀ target, Steps p.tables e below (B.U.setTop { g with pc := g.pc + 3, stack := v.toList ++ rest }) target → Steps p.tables e below (T.setTop g) target) ∨
    (∃ (q : Addr) (vm₁ : Vm) (B : Pt), s.WarmedH vm₁ ∧ Stand p l e R s m args below meth c B.U B.locs B.cells B.slots ∧ PostX ⟨T.setVm vm₁, locs, cells, slots⟩ argsL.toArray q B ∧
      Steps p.tables e below (T.setTop g) ((B.U.setTop { g with stack := rest }).pushFrame (.throwing q))) := by
  obtain ⟨mk, methM, cM, hnamed, hmethM, -, -, -, -, -, -, hsigM⟩ := Cond.codeWith_spec hcode
  have hstatic : methM.isStatic = true := Cond.static_spec hnamed hmethM hstat
  obtain ⟨kP, hkP, -⟩ := className_of_methodNamed hnamed
  have hinitP : kP.init = .initialized := Cond.initialized_spec (findClass_of_methodNamed hnamed) hkP hinit
  obtain ⟨vm₁, X₁, hstep₁⟩ := X.invokestatic hexec hown hlink hnamed hmethM hstatic hkP hinitP hy (g := g) hg (argsL := argsL) (rest := rest) (hlen _ hsigM) hstack hdg
  rcases hK m meth c ⟨T.setVm vm₁, locs, cells, slots⟩ { g with stack := rest } (.invokestatic index) mk argsL.toArray X₁ hg hsize hdg hW (X₁.named hnamed) (hpre vm₁ X₁.warmed) with ⟨v, B, X', hpost, hsteps⟩ | ⟨q, B, X', hpost, hsteps⟩
  · exact Or.inl ⟨v, vm₁, B, X₁.warmed, X', hpost, fun target h => hstep₁ _ fun acts => by rw [doInvoke_state]; exact hsteps.trans h⟩
  · exact Or.inr ⟨q, vm₁, B, X₁.warmed, X', hpost, hstep₁ _ fun acts => by rw [doInvoke_state]; exact hsteps⟩
theorem vx_callVW (X : Stand p l e R s m args below meth c T locs cells slots) (hexec : p.tables.exec = Jvm.exec) {own C : String} {index : Nat} {y : MethodName} {bytes : ByteArray} {maxL : Nat} {ret : Option FieldType} {hh : List (Nat × Nat × Nat × Nat)}
    (hown : s.vm.findClass own = some m.cls) (hlink : (Cond.methodLink own index y).before args s = true) (hinst : (Cond.instanceMethod y).before args s = true) (hsel : (Cond.selects C y y).before args s = true)
    (hcode : (Cond.codeWith y bytes maxL ret hh).before args s = true) (hy : y.cls ≠ "java/lang/invoke/MethodHandle" ∧ y.cls ≠ "java/lang/invoke/VarHandle")
    {W9 : Nat} {Pre : Pt → Array Value → Prop} {Post : Pt → Array Value → Option Value → Pt → Prop} (hK : Back l R p e below s args y 3 W9 Pre Post)
    {b : Addr} {cellB : Cell} (hcell : T.heap[b]? = some cellB) (hobj : cellB.vm.isStatics = false) (hcls : s.vm.findClass C = some cellB.cls)
    {g : JFrame} (hg : g.method = m) (hsize : g.locals.size = c.maxLocals) {argsL rest : List Value} (hlen : ∀ sig, parseMethodDescriptor y.desc = some sig → argsL.length = sig.parameters.length)
    (hstack : g.stack = argsL.reverse ++ .ref b :: rest) (hW : 2 * g.monitorRoom + (rest.map fun v => v.category).sum ≤ W9) (hdg : decode c.code g.pc = .ok (.invokevirtual index, 3))
    (hpre : ∀ vm₁, s.WarmedH vm₁ → Pre ⟨T.setVm vm₁, locs, cells, slots⟩ (Value.ref b :: argsL).toArray) :
    ∃ (v : Option Value) (vm₁ : Vm) (B : Pt), s.WarmedH vm₁ ∧ Stand p l e R s m args below meth c B.U B.locs B.cells B.slots ∧ Post ⟨T.setVm vm₁, locs, cells, slots⟩ (Value.ref b :: argsL).toArray v B ∧
      ∀ target, Steps p.tables e below (B.U.setTop { g with pc := g.pc + 3, stack := v.toList ++ rest }) target → Steps p.tables e below (T.setTop g) target := by
  obtain ⟨mk, methM, hnamed, hmethM, hstM, habM⟩ := Cond.instanceMethod_spec hinst
  obtain ⟨m8, methM', cM, hn8, hmethM', -, -, -, -, -, -, hsigM⟩ := Cond.codeWith_spec hcode
  cases Option.some.inj (hn8.symm.trans hnamed)
  cases hmethM.symm.trans hmethM'
  obtain ⟨c2, r2, m2, q1, q2, q3, q4, kP, hkP, hkPi⟩ := Cond.selects_spec hsel
  cases hcls.symm.trans q1
  cases (State.methodFound?_of_named hnamed hy).symm.trans q2
  cases hnamed.symm.trans q3
  have hselP : selectMethod e.platform s.vm cellB.cls mk = .method mk := by rw [Launch.admits_selectMethod X.admits]; exact q4
  obtain ⟨vm₁, X₁, hstep₁⟩ := X.invokevirtual hexec hown hlink hnamed hmethM hstM hkP hkPi hy (a := b) (cell := cellB) hcell
    (fun z h => by rw [h] at hobj; cases hobj) hselP hmethM habM hkP hkPi (g := g) hg (argsL := argsL) (rest := rest) (hlen _ hsigM) hstack hdg
  obtain ⟨v, B, X', hpost, hsteps⟩ := hK m meth c ⟨T.setVm vm₁, locs, cells, slots⟩ { g with stack := rest } (.invokevirtual index) mk (Value.ref b :: argsL).toArray X₁ hg hsize hdg hW (X₁.named hnamed) (hpre vm₁ X₁.warmed)
  exact ⟨v, vm₁, B, X₁.warmed, X', hpost, fun target h => hstep₁ _ fun acts => by rw [doInvoke_state]; exact hsteps.trans h⟩
abbrev vx_CVW (R : Room) (s : State) (args : Array Value) (own C : String) (index : Nat) (y : MethodName) (bytes : ByteArray) (maxL : Nat) (ret : Option FieldType) (hh : List (Nat × Nat × Nat × Nat)) (ws : List Cond) (rm : Room) (mc ms n : Nat) : Prop :=
  (rm.cells = mc ∧ rm.slots = ms ∧ rm.frames + 1 ≤ R.frames ∧ 8 + (maxL + 11) + rm.locals ≤ R.locals ∧ (∀ w ∈ ws, ∀ (a' : Array Value) (U : State), s.WarmedH U.vm → w.before a' U = true) ∧ Cond.codeWith y bytes maxL ret hh ∈ ws) ∧
  (Cond.codeWith y bytes maxL ret hh).before args s = true ∧ (Cond.initialized y.cls).before args s = true ∧ (y.cls ≠ "java/lang/invoke/MethodHandle" ∧ y.cls ≠ "java/lang/invoke/VarHandle") ∧
  (∀ sig, parseMethodDescriptor y.desc = some sig → n = sig.parameters.length) ∧ (Cond.methodLink own index y).before args s = true ∧ (Cond.instanceMethod y).before args s = true ∧ (Cond.selects C y y).before args s = true
theorem vx_cwVW {own C : String} {index maxL mc ms : Nat} {y : MethodName} {bytes : ByteArray} {ret : Option FieldType} {hh : List (Nat × Nat × Nat × Nat)} {Ts ws ws' : List Cond} {rm : Room} (n : Nat) (ht : ∀ w ∈ Ts, w.before args s = true) (hT : GoodIn Ts (wsV own index C y ws)) (hw : ws = Cond.codeWith y bytes maxL ret hh :: ws') (hrc : rm.cells = mc) (hrs : rm.slots = ms)
    (hd : y.cls = C ∧ y.cls ≠ "java/lang/invoke/MethodHandle" ∧ y.cls ≠ "java/lang/invoke/VarHandle" ∧ (parseMethodDescriptor y.desc).map (fun d => d.parameters.length) = some n) (hR : rm.frames + 1 ≤ R.frames ∧ 8 + (maxL + 11) + rm.locals ≤ R.locals) :
    vx_CVW R s args own C index y bytes maxL ret hh ws rm mc ms n := by
  obtain ⟨hC, hd⟩ := hd
  subst hC
  have ok : ∀ w ∈ wsV own index y.cls y ws, w.before args s = true := fun w h => ht w (hT w h).1
  have hG : GoodIn Ts ws := fun w h => hT w (by unfold wsV; exact List.mem_append_right _ h)
  have hc : Cond.codeWith y bytes maxL ret hh ∈ ws := by rw [hw]; exact List.mem_cons_self
  refine ⟨⟨hrc, hrs, hR.1, hR.2, pay_in ht hG, hc⟩, ht _ (hG _ hc).1, ok _ (by simp [wsV]), ⟨hd.1, hd.2.1⟩, fun sig h => ?_, ok _ (by simp [wsV]), ok _ (by simp [wsV]), ok _ (by simp [wsV])⟩
  have h2 := hd.2.2
  rw [h] at h2
  exact (Option.some.inj h2).symm
theorem vx_runVW {y : MethodName} {bytes cc : ByteArray} {maxL nL mc ms n index : Nat} {ret : Option FieldType} {hh : List (Nat × Nat × Nat × Nat)} {ws : List Cond} {rm : Room} {Pc : Array Value → State → Prop} {Qc : Array Value → State → Outcome → State → Prop} {free : Addr → Prop} {Ts : List Cond} {own C : String} {b : Addr} {As rest : List Value} {g : JFrame}
    (S : CallFix p m c cc nL s args Ts own) (hM : Met l y ws rm Pc Qc mc ms free) (cw : vx_CVW R s args own C index y bytes maxL ret hh ws rm mc ms n) (hp : PreV s H C b Pc As)
    (hg : g.method = m) (hn : As.length = n) (hsize : g.locals.size = nL) (hstack : g.stack = As.reverse ++ .ref b :: rest) (hW : 2 * g.monitorRoom + (rest.map fun v => v.category).sum ≤ 8) (hdg : decode cc g.pc = .ok (.invokevirtual index, 3)) (hf : cells + mc ≤ R.cells ∧ slots + ms ≤ R.slots) :
    va_Run p l e R s m args below meth c H locs cells slots mc ms g rest (Qc (Value.ref b :: As).toArray) free := by
  obtain ⟨⟨hrc, hrs, hfr, hlo, hws, hcw⟩, hcode, hini, hy, hlen, hl, hin, hse⟩ := cw
  have hK : Back l R p e below s args y 3 8 (PreOf R mc ms Pc) (PostOf Qc mc ms free) := va_backW (hh := hh) (bytes := bytes) (maxL := maxL) (ret := ret) hM hp.1 hrc hrs hfr hlo hws hcw (fun a' U hW => word_at hW (Or.inl (by first | rfl | simp [Cond.onTables, Cond.keeps, Cond.steady])) hini)
  obtain ⟨hx, hb, hml, ho, -⟩ := S
  obtain ⟨-, ⟨cellB, hcB, hoB, hclB⟩, hPc⟩ := hp
  intro T hT X
  obtain ⟨v, vm₁, ⟨U', l2, c2, s2⟩, hW₁, X', ⟨g', mk, t, L, e1, e2, hq, h1, hL, h2, h3⟩, st⟩ := vx_callVW X hx (C := C) (hh := hh) (bytes := bytes) (maxL := maxL) (ret := ret) ho hl hin hse hcode hy hK (by rw [hT]; exact hcB) hoB hclB hg (hsize.trans hml.symm) (argsL := As) (rest := rest) (fun sig h => hn.trans (hlen sig h)) hstack hW (by rw [hb]; exact hdg)
    (fun vm₁ hW₁ => ⟨hf.1, hf.2, hPc (T.setVm vm₁) hT hW₁⟩)
  dsimp only [Pt.U, Pt.locs, Pt.cells, Pt.slots] at X' e1 e2 h1 h2 h3 st
  subst h1; subst h2; subst h3
  exact ⟨v, (T.setVm vm₁).calling g' mk (Value.ref b :: As).toArray, t, U', L, hT, X', hL, e1, e2, hq, st⟩
section
variable {y : MethodName} {bytes cc : ByteArray} {maxL nL mc ms n index : Nat} {ret : Option FieldType} {ws : List Cond} {rm : Room} {Pc : Array Value → State → Prop} {Qc : Array Value → State → Outcome → State → Prop} {XC : String → State → State → Prop} {free : Addr → Prop} {Ts : List Cond} {own C : String} {b : Addr} {As rest : List Value} {g : JFrame}
theorem vx_runVX {hh : List (Nat × Nat × Nat × Nat)} (S : CallFix p m c cc nL s args Ts own) (hM : vx_Met l y ws rm Pc Qc XC mc ms free) (cw : vx_CVW R s args own C index y bytes maxL ret hh ws rm mc ms n) (hp : PreV s H C b Pc As)
    (hg : g.method = m) (hn : As.length = n) (hsize : g.locals.size = nL) (hstack : g.stack = As.reverse ++ .ref b :: rest) (hW : 2 * g.monitorRoom + (rest.map fun v => v.category).sum ≤ 8) (hdg : decode cc g.pc = .ok (.invokevirtual index, 3)) (hf : cells + mc ≤ R.cells ∧ slots + ms ≤ R.slots) :
    vx_Run p l e R s m args below meth c H locs cells slots mc ms g rest (Qc (Value.ref b :: As).toArray) XC free := by
  obtain ⟨⟨hrc, hrs, hfr, hlo, hws, hcw⟩, hcode, hini, hy, hlen, hl, hin, hse⟩ := cw
  have hK : vx_Back l R p e below s args y 3 8 (PreOf R mc ms Pc) (PostOf Qc mc ms free) (vx_Post XC mc ms free) := vx_backW (hh := hh) (bytes := bytes) (maxL := maxL) (ret := ret) hM hp.1 hrc hrs hfr hlo hws hcw (fun a' U hW => word_at hW (Or.inl (by first | rfl | simp [Cond.onTables, Cond.keeps, Cond.steady])) hini)
  obtain ⟨hx, hb, hml, ho, -⟩ := S
  obtain ⟨-, ⟨cellB, hcB, hoB, hclB⟩, hPc⟩ := hp
  intro T hT X
  rcases vx_callVX X hx (C := C) (hh := hh) (bytes := bytes) (maxL := maxL) (ret := ret) ho hl hin hse hcode hy hK (by rw [hT]; exact hcB) hoB hclB hg (hsize.trans hml.symm) (argsL := As) (rest := rest) (fun sig h => hn.trans (hlen sig h)) hstack hW (by rw [hb]; exact hdg)
    (fun vm₁ hW₁ => ⟨hf.1, hf.2, hPc (T.setVm vm₁) hT hW₁⟩) with ⟨v, vm₁, ⟨U', l2, c2, s2⟩, hW₁, X', ⟨g', mk, t, L, e1, e2, hq, h1, hL, h2, h3⟩, st⟩ | ⟨q, vm₁, ⟨U', l2, c2, s2⟩, hW₁, X', ⟨g', mk, t, L, E, ce, e1, e2, hq, hce, hcv, hcl, h1, hL, h2, h3⟩, st⟩
  · dsimp only [Pt.U, Pt.locs, Pt.cells, Pt.slots] at X' e1 e2 h1 h2 h3 st
    subst h1; subst h2; subst h3
    exact Or.inl ⟨v, (T.setVm vm₁).calling g' mk (Value.ref b :: As).toArray, t, U', L, hT, X', hL, e1, e2, hq, st⟩
  · dsimp only [Pt.U, Pt.locs, Pt.cells, Pt.slots] at X' e1 e2 h1 h2 h3 st hcl
    subst h1; subst h2; subst h3
    exact Or.inr ⟨q, (T.setVm vm₁).calling g' mk (Value.ref b :: As).toArray, t, U', L, E, ce, hT, X', hL, e1, e2, hq, hce, hcv, vx_cls hW₁ hcl, st⟩
theorem vx_runSX {hh : List (Nat × Nat × Nat × Nat)} (S : CallFix p m c cc nL s args Ts own) (hM : vx_Met l y ws rm Pc Qc XC mc ms free) (cw : vx_CSW R s args own index y bytes maxL ret hh ws rm mc ms n) (hp : PreS s H Pc As)
    (hg : g.method = m) (hn : As.length = n) (hsize : g.locals.size = nL) (hstack : g.stack = As.reverse ++ rest) (hW : 2 * g.monitorRoom + (rest.map fun v => v.category).sum ≤ 8) (hdg : decode cc g.pc = .ok (.invokestatic index, 3)) (hf : cells + mc ≤ R.cells ∧ slots + ms ≤ R.slots) :
    vx_Run p l e R s m args below meth c H locs cells slots mc ms g rest (Qc As.toArray) XC free := by
  obtain ⟨⟨hrc, hrs, hfr, hlo, hws, hcw⟩, hcode, hini, hy, hlen, hl, hstt⟩ := cw
  have hK : vx_Back l R p e below s args y 3 8 (PreOf R mc ms Pc) (PostOf Qc mc ms free) (vx_Post XC mc ms free) := vx_backW (hh := hh) (bytes := bytes) (maxL := maxL) (ret := ret) hM hp.1 hrc hrs hfr hlo hws hcw (fun a' U hW => word_at hW (Or.inl (by first | rfl | simp [Cond.onTables, Cond.keeps, Cond.steady])) hini)
  obtain ⟨hx, hb, hml, ho, -⟩ := S
  intro T hT X
  rcases vx_callSX X hx (hh := hh) (bytes := bytes) (maxL := maxL) (ret := ret) ho hl hstt hini hcode hy hK hg (hsize.trans hml.symm) (argsL := As) (rest := rest) (fun sig h => hn.trans (hlen sig h)) hstack hW (by rw [hb]; exact hdg)
    (fun vm₁ hW₁ => ⟨hf.1, hf.2, hp.2 (T.setVm vm₁) hT hW₁⟩) with ⟨v, vm₁, ⟨U', l2, c2, s2⟩, hW₁, X', ⟨g', mk, t, L, e1, e2, hq, h1, hL, h2, h3⟩, st⟩ | ⟨q, vm₁, ⟨U', l2, c2, s2⟩, hW₁, X', ⟨g', mk, t, L, E, ce, e1, e2, hq, hce, hcv, hcl, h1, hL, h2, h3⟩, st⟩
  · dsimp only [Pt.U, Pt.locs, Pt.cells, Pt.slots] at X' e1 e2 h1 h2 h3 st
    subst h1; subst h2; subst h3
    exact Or.inl ⟨v, (T.setVm vm₁).calling g' mk As.toArray, t, U', L, hT, X', hL, e1, e2, hq, st⟩
  · dsimp only [Pt.U, Pt.locs, Pt.cells, Pt.slots] at X' e1 e2 h1 h2 h3 st hcl
    subst h1; subst h2; subst h3
    exact Or.inr ⟨q, (T.setVm vm₁).calling g' mk As.toArray, t, U', L, E, ce, hT, X', hL, e1, e2, hq, hce, hcv, vx_cls hW₁ hcl, st⟩
end
end VXH
theorem vx_ofWH {l : Launch} {y : MethodName} {ws ws' : List Cond} {rm : Room} {Pc : Array Value → State → Prop} {Qc : Array Value → State → Outcome → State → Prop} {XC : String → State → State → Prop} {mc ms : Nat} {free : Addr → Prop} {cc : ByteArray} {maxL : Nat} {ret : Option FieldType} {hh : List (Nat × Nat × Nat × Nat)}
    (hy : plainName y.cls = true) (hw : ws = Cond.codeWith y cc maxL ret hh :: ws')
    (body : ∀ p e s m args below meth c s₁, BodyLoose p l y (headSpec ws rm) cc maxL ret e s m args below meth c s₁ → c.maxLocals = maxL → Pc args s →
      W p l e (headSpec ws rm).room s m args below meth c s.heap [] 0 0 (vx_MQ below Qc XC args s mc ms free) (entryFrame m args maxL)) : vx_Met l y ws rm Pc Qc XC mc ms free := by
  refine MetFree.of_bodyS (code := cc) (maxLocals := maxL) (ret := ret) hy ?_ ?_
  · intro args s m h hn
    obtain ⟨m9, meth, c, hn9, h1, h2, h3, h4, -, h5, h6, -⟩ := Cond.codeWith_spec (atoms_spec (ws := ws) h _ (by rw [hw]; exact List.mem_cons_self))
    cases hn.symm.trans hn9
    exact ⟨meth, c, h1, h2, h3, h4, h5, h6⟩
  · intro p e s m args below meth c s₁ B hml hP _
    have hh0 : s₁.heap = s.heap := by rw [B.state]; rfl
    obtain ⟨t, a1, o, b1, b2, b3⟩ := body p e s m args below meth c s₁ B hml hP s₁ hh0 (Stand.of_body B)
    exact ⟨t, o, a1, b1, b2, b3⟩
/-! ===== END ===== -/


/-! ===== END ===== -/
/-! ===== BEGIN a constructor that throws (launches without stack traces) ===== -/
section VXIA
variable {p : Program} {l : Launch} {e : Env} {R : Room} {s : State} {m : MethodId} {args : Array Value} {below : List Frame} {meth : Method} {c : Code} {T : State} {locs : List Loc} {cells slots : Nat}
theorem vx_callI (X : Stand p l e R s m args below meth c T locs cells slots) (hexec : p.tables.exec = Jvm.exec) {own : String} {index : Nat} {y : MethodName} {bytes : ByteArray} {maxL : Nat}
    (hown : s.vm.findClass own = some m.cls) (hy1 : y.name = "<init>") (hlink : (Cond.methodLink own index y).before args s = true) (hinst : (Cond.instanceMethod y).before args s = true)
    (hcode : (Cond.code y bytes maxL none).before args s = true) (hy : y.cls ≠ "java/lang/invoke/MethodHandle" ∧ y.cls ≠ "java/lang/invoke/VarHandle")
    {W9 : Nat} {Pre : Pt → Array Value → Prop} {Post : Pt → Array Value → Option Value → Pt → Prop} {PostX : Pt → Array Value → Addr → Pt → Prop} (hK : vx_Back l R p e below s args y 3 W9 Pre Post PostX)
    {g : JFrame} (hg : g.method = m) (hsize : g.locals.size = c.maxLocals) {a : Addr} {argsL rest : List Value} (hlen : ∀ sig, parseMethodDescriptor y.desc = some sig → argsL.length = sig.parameters.length)
    (hstack : g.stack = argsL.reverse ++ .ref a :: rest) (hW : 2 * g.monitorRoom + (rest.map fun v => v.category).sum ≤ W9) (hdg : decode c.code g.pc = .ok (.invokespecial index, 3))
    (hpre : ∀ vm₁, s.WarmedH vm₁ → Pre ⟨T.setVm vm₁, locs, cells, slots⟩ (Value.ref a :: argsL).toArray) :
    (∃ (v : Option Value) (vm₁ : Vm) (B : Pt), s.WarmedH vm₁ ∧ Stand p l e R s m args below meth c B.U B.locs B.cells B.slots ∧ Post ⟨T.setVm vm₁, locs, cells, slots⟩ (Value.ref a :: argsL).toArray v B ∧
      ∀ target, Steps p.tables e below (B.U.setTop { g with pc := g.pc + 3, stack := v.toList ++ rest }) target → Steps p.tables e below (T.setTop g) target) ∨
    (∃ (q : Addr) (vm₁ : Vm) (B : Pt), s.WarmedH vm₁ ∧ Stand p l e R s m args below meth c B.U B.locs B.cells B.slots ∧ PostX ⟨T.setVm vm₁, locs, cells, slots⟩ (Value.ref a :: argsL).toArray q B ∧
      Steps p.tables e below (T.setTop g) ((B.U.setTop { g with stack := rest }).pushFrame (.throwing q))) := by
  subst hg
  have hpl : e.platform.magicAccessors = ({} : Platform).magicAccessors := by rw [X.admits.platform]
  obtain ⟨mk, methM, cM, kP, vm₁, hnamed, hmethM, hcodeM, -, hlocalsM, -, hkP, -, hW₁, hstep₁⟩ := Steps.initColdArgs (e := e) X.here hexec X.warmed hpl hown hy1 hy hlink hinst hcode (f := g) rfl hlen hstack hdg
  have X₁ := X.noted hW₁
  rcases hK g.method meth c ⟨T.setVm vm₁, locs, cells, slots⟩ { g with stack := rest } (.invokespecial index) mk (Value.ref a :: argsL).toArray X₁ rfl hsize hdg hW (X₁.named hnamed) (hpre vm₁ X₁.warmed) with ⟨v, B, X', hpost, hsteps⟩ | ⟨q, B, X', hpost, hsteps⟩
  · exact Or.inl ⟨v, vm₁, B, X₁.warmed, X', hpost, fun target h => hstep₁ _ fun acts => by rw [doInvoke_state]; exact hsteps.trans h⟩
  · exact Or.inr ⟨q, vm₁, B, X₁.warmed, X', hpost, hstep₁ _ fun acts => by rw [doInvoke_state]; exact hsteps⟩
end VXIA
section VXIB
variable {p : Program} {l : Launch} {e : Env} {R : Room} {s : State} {m : MethodId} {args : Array Value} {below : List Frame} {meth : Method} {c : Code} {H : Heap} {locs : List Loc} {cells slots : Nat}
variable {y : MethodName} {bytes cc : ByteArray} {maxL nL mc ms n index : Nat} {ret : Option FieldType} {ws : List Cond} {rm : Room} {Pc : Array Value → State → Prop} {Qc : Array Value → State → Outcome → State → Prop} {XC : String → State → State → Prop} {free : Addr → Prop} {Ts : List Cond} {own C : String} {b : Addr} {As rest : List Value} {g : JFrame}
theorem vx_runI (S : CallFix p m c cc nL s args Ts own) (hM : vx_Met l y ws rm Pc Qc XC mc ms free) (cw : CallB R s args own index y bytes maxL none ws rm mc ms n ∧ y.name = "<init>" ∧ (Cond.instanceMethod y).before args s = true) (hp : PreS s H Pc (.ref b :: As))
    (hg : g.method = m) (hn : As.length = n) (hsize : g.locals.size = nL) (hstack : g.stack = As.reverse ++ .ref b :: rest) (hW : 2 * g.monitorRoom + (rest.map fun v => v.category).sum ≤ 8) (hdg : decode cc g.pc = .ok (.invokespecial index, 3)) (hf : cells + mc ≤ R.cells ∧ slots + ms ≤ R.slots) :
    vx_Run p l e R s m args below meth c H locs cells slots mc ms g rest (Qc (Value.ref b :: As).toArray) XC free := by
  have hK : vx_Back l R p e below s args y 3 8 (PreOf R mc ms Pc) (PostOf Qc mc ms free) (vx_Post XC mc ms free) := vx_callBack cw.1 hM hp.1
  obtain ⟨⟨-, -, -, -, -, -, hcode, -, hy, hlen, hl⟩, hy1, hin⟩ := cw
  obtain ⟨hx, hb, hml, ho, -⟩ := S
  have hPc := hp.2
  intro T hT X
  rcases vx_callI X hx (bytes := bytes) (maxL := maxL) ho hy1 hl hin hcode hy hK hg (hsize.trans hml.symm) (a := b) (argsL := As) (rest := rest) (fun sig h => hn.trans (hlen sig h)) hstack hW (by rw [hb]; exact hdg)
    (fun vm₁ hW₁ => ⟨hf.1, hf.2, hPc (T.setVm vm₁) hT hW₁⟩) with ⟨v, vm₁, ⟨U', l2, c2, s2⟩, hW₁, X', ⟨g', mk, t, L, e1, e2, hq, h1, hL, h2, h3⟩, st⟩ | ⟨q, vm₁, ⟨U', l2, c2, s2⟩, hW₁, X', ⟨g', mk, t, L, E, ce, e1, e2, hq, hce, hcv, hcl, h1, hL, h2, h3⟩, st⟩
  · dsimp only [Pt.U, Pt.locs, Pt.cells, Pt.slots] at X' e1 e2 h1 h2 h3 st
    subst h1; subst h2; subst h3
    exact Or.inl ⟨v, (T.setVm vm₁).calling g' mk (Value.ref b :: As).toArray, t, U', L, hT, X', hL, e1, e2, hq, st⟩
  · dsimp only [Pt.U, Pt.locs, Pt.cells, Pt.slots] at X' e1 e2 h1 h2 h3 st hcl
    subst h1; subst h2; subst h3
    exact Or.inr ⟨q, (T.setVm vm₁).calling g' mk (Value.ref b :: As).toArray, t, U', L, E, ce, hT, X', hL, e1, e2, hq, hce, hcv, vx_cls hW₁ hcl, st⟩
end VXIB
/-! ===== END ===== -/
/-! ===== BEGIN a private constructor of a nest mate that throws ===== -/
section VXIC
variable {p : Program} {l : Launch} {e : Env} {R : Room} {s : State} {m : MethodId} {args : Array Value} {below : List Frame} {meth : Method} {c : Code} {T : State} {locs : List Loc} {cells slots : Nat}
theorem vx_callIN (X : Stand p l e R s m args below meth c T locs cells slots) (hexec : p.tables.exec = Jvm.exec) {own : String} {index : Nat} {host : String} {y : MethodName} {bytes : ByteArray} {maxL : Nat}
    (hown : s.vm.findClass own = some m.cls) (hy1 : y.name = "<init>") (hlink : (Cond.methodLinkNest own index y host).before args s = true) (hinst : (Cond.instanceMethod y).before args s = true)
    (hcode : (Cond.code y bytes maxL none).before args s = true) (hy : y.cls ≠ "java/lang/invoke/MethodHandle" ∧ y.cls ≠ "java/lang/invoke/VarHandle")
    {W9 : Nat} {Pre : Pt → Array Value → Prop} {Post : Pt → Array Value → Option Value → Pt → Prop} {PostX : Pt → Array Value → Addr → Pt → Prop} (hK : vx_Back l R p e below s args y 3 W9 Pre Post PostX)
    {g : JFrame} (hg : g.method = m) (hsize : g.locals.size = c.maxLocals) {a : Addr} {argsL rest : List Value} (hlen : ∀ sig, parseMethodDescriptor y.desc = some sig → argsL.length = sig.parameters.length)
    (hstack : g.stack = argsL.reverse ++ .ref a :: rest) (hW : 2 * g.monitorRoom + (rest.map fun v => v.category).sum ≤ W9) (hdg : decode c.code g.pc = .ok (.invokespecial index, 3))
    (hpre : ∀ vm₁, s.WarmedH vm₁ → Pre ⟨T.setVm vm₁, locs, cells, slots⟩ (Value.ref a :: argsL).toArray) :
    (∃ (v : Option Value) (vm₁ : Vm) (B : Pt), s.WarmedH vm₁ ∧ Stand p l e R s m args below meth c B.U B.locs B.cells B.slots ∧ Post ⟨T.setVm vm₁, locs, cells, slots⟩ (Value.ref a :: argsL).toArray v B ∧
      ∀ target, Steps p.tables e below (B.U.setTop { g with pc := g.pc + 3, stack := v.toList ++ rest }) target → Steps p.tables e below (T.setTop g) target) ∨
    (∃ (q : Addr) (vm₁ : Vm) (B : Pt), s.WarmedH vm₁ ∧ Stand p l e R s m args below meth c B.U B.locs B.cells B.slots ∧ PostX ⟨T.setVm vm₁, locs, cells, slots⟩ (Value.ref a :: argsL).toArray q B ∧
      Steps p.tables e below (T.setTop g) ((B.U.setTop { g with stack := rest }).pushFrame (.throwing q))) := by
  subst hg
  have hpl : e.platform.magicAccessors = ({} : Platform).magicAccessors := by rw [X.admits.platform]
  obtain ⟨mk, methM, cM, kP, vm₁, hnamed, hmethM, hcodeM, -, hlocalsM, -, hkP, -, hW₁, hstep₁⟩ := Steps.initColdArgsNest (e := e) X.here hexec X.warmed hpl hown hy1 hy hlink hinst hcode (f := g) rfl hlen hstack hdg
  have X₁ := X.noted hW₁
  rcases hK g.method meth c ⟨T.setVm vm₁, locs, cells, slots⟩ { g with stack := rest } (.invokespecial index) mk (Value.ref a :: argsL).toArray X₁ rfl hsize hdg hW (X₁.named hnamed) (hpre vm₁ X₁.warmed) with ⟨v, B, X', hpost, hsteps⟩ | ⟨q, B, X', hpost, hsteps⟩
  · exact Or.inl ⟨v, vm₁, B, X₁.warmed, X', hpost, fun target h => hstep₁ _ fun acts => by rw [doInvoke_state]; exact hsteps.trans h⟩
  · exact Or.inr ⟨q, vm₁, B, X₁.warmed, X', hpost, hstep₁ _ fun acts => by rw [doInvoke_state]; exact hsteps⟩
end VXIC
section VXID
variable {p : Program} {l : Launch} {e : Env} {R : Room} {s : State} {m : MethodId} {args : Array Value} {below : List Frame} {meth : Method} {c : Code} {H : Heap} {locs : List Loc} {cells slots : Nat}
theorem vx_runIN {y : MethodName} {bytes cc : ByteArray} {maxL nL mc ms n index : Nat} {ws : List Cond} {rm : Room} {Pc : Array Value → State → Prop} {Qc : Array Value → State → Outcome → State → Prop} {XC : String → State → State → Prop} {free : Addr → Prop} {Ts : List Cond} {own host : String} {b : Addr} {As rest : List Value} {g : JFrame}
    (S : CallFix p m c cc nL s args Ts own) (hM : vx_Met l y ws rm Pc Qc XC mc ms free) (cw : va_CN R s args own index y host bytes maxL none ws rm mc ms n ∧ y.name = "<init>" ∧ (Cond.instanceMethod y).before args s = true) (hp : PreS s H Pc (.ref b :: As))
    (hg : g.method = m) (hn : As.length = n) (hsize : g.locals.size = nL) (hstack : g.stack = As.reverse ++ .ref b :: rest) (hW : 2 * g.monitorRoom + (rest.map fun v => v.category).sum ≤ 8) (hdg : decode cc g.pc = .ok (.invokespecial index, 3)) (hf : cells + mc ≤ R.cells ∧ slots + ms ≤ R.slots) :
    vx_Run p l e R s m args below meth c H locs cells slots mc ms g rest (Qc (Value.ref b :: As).toArray) XC free := by
  obtain ⟨⟨⟨hrc, hrs, hfr, hlo, hws, hcw⟩, hcode, hini, hy, hlen, hl⟩, hx1, hx2⟩ := cw
  have hK : vx_Back l R p e below s args y 3 8 (PreOf R mc ms Pc) (PostOf Qc mc ms free) (vx_Post XC mc ms free) := vx_back (bytes := bytes) (maxL := maxL) (ret := none) hM hp.1 hrc hrs hfr hlo hws hcw (fun a' U hW => word_at hW (Or.inl (by first | rfl | simp [Cond.onTables, Cond.keeps, Cond.steady])) hini)
  obtain ⟨hx, hb, hml, ho, -⟩ := S
  have hPc := hp.2
  intro T hT X
  rcases vx_callIN X hx (bytes := bytes) (maxL := maxL) ho hx1 hl hx2 hcode hy hK hg (hsize.trans hml.symm) (a := b) (argsL := As) (rest := rest) (fun sig h => hn.trans (hlen sig h)) hstack hW (by rw [hb]; exact hdg)
    (fun vm₁ hW₁ => ⟨hf.1, hf.2, hPc (T.setVm vm₁) hT hW₁⟩) with ⟨v, vm₁, ⟨U', l2, c2, s2⟩, hW₁, X', ⟨g', mk, t, L, e1, e2, hq, h1, hL, h2, h3⟩, st⟩ | ⟨q, vm₁, ⟨U', l2, c2, s2⟩, hW₁, X', ⟨g', mk, t, L, E, ce, e1, e2, hq, hce, hcv, hcl, h1, hL, h2, h3⟩, st⟩
  · dsimp only [Pt.U, Pt.locs, Pt.cells, Pt.slots] at X' e1 e2 h1 h2 h3 st
    subst h1; subst h2; subst h3
    exact Or.inl ⟨v, (T.setVm vm₁).calling g' mk (Value.ref b :: As).toArray, t, U', L, hT, X', hL, e1, e2, hq, st⟩
  · dsimp only [Pt.U, Pt.locs, Pt.cells, Pt.slots] at X' e1 e2 h1 h2 h3 st hcl
    subst h1; subst h2; subst h3
    exact Or.inr ⟨q, (T.setVm vm₁).calling g' mk (Value.ref b :: As).toArray, t, U', L, E, ce, hT, X', hL, e1, e2, hq, hce, hcv, vx_cls hW₁ hcl, st⟩
end VXID
/-! ===== END ===== -/

section
variable {p : Program} {l : Launch} {e : Env} {R : Room} {s : State} {m : MethodId} {args : Array Value} {below : List Frame} {meth : Method} {c : Code} {H : Heap} {locs : List Loc} {cells slots : Nat}
variable {T : State}
theorem vx_callVN (X : Stand p l e R s m args below meth c T locs cells slots) (hexec : p.tables.exec = Jvm.exec) {own C : String} {index : Nat} {host : String} {y : MethodName} {bytes : ByteArray} {maxL : Nat} {ret : Option FieldType}
    (hown : s.vm.findClass own = some m.cls) (hlink : (Cond.methodLinkNest own index y host).before args s = true) (hinst : (Cond.instanceMethod y).before args s = true) (hsel : (Cond.selects C y y).before args s = true)
    (hcode : (Cond.code y bytes maxL ret).before args s = true) (hy : y.cls ≠ "java/lang/invoke/MethodHandle" ∧ y.cls ≠ "java/lang/invoke/VarHandle")
    {W : Nat} {Pre : Pt → Array Value → Prop} {Post : Pt → Array Value → Option Value → Pt → Prop} {PostX : Pt → Array Value → Addr → Pt → Prop} (hK : vx_Back l R p e below s args y 3 W Pre Post PostX)
    {b : Addr} {cellB : Cell} (hcell : T.heap[b]? = some cellB) (hobj : cellB.vm.isStatics = false) (hcls : s.vm.findClass C = some cellB.cls)
    {g : JFrame} (hg : g.method = m) (hsize : g.locals.size = c.maxLocals) {argsL rest : List Value} (hlen : ∀ sig, parseMethodDescriptor y.desc = some sig → argsL.length = sig.parameters.length)
    (hstack : g.stack = argsL.reverse ++ .ref b :: rest) (hW : 2 * g.monitorRoom + (rest.map fun v => v.category).sum ≤ W) (hdg : decode c.code g.pc = .ok (.invokevirtual index, 3))
    (hpre : ∀ vm₁, s.WarmedH vm₁ → Pre ⟨T.setVm vm₁, locs, cells, slots⟩ (Value.ref b :: argsL).toArray) :
    (∃ (v : Option Value) (vm₁ : Vm) (B : Pt), s.WarmedH vm₁ ∧ Stand p l e R s m args below meth c B.U B.locs B.cells B.slots ∧ Post ⟨T.setVm vm₁, locs, cells, slots⟩ (Value.ref b :: argsL).toArray v B ∧
      ∀ target, Steps p.tables e below (B.U.setTop { g with pc := g.pc + 3, stack := v.toList ++ rest }) target → Steps p.tables e below (T.setTop g) target) ∨
    (∃ (q : Addr) (vm₁ : Vm) (B : Pt), s.WarmedH vm₁ ∧ Stand p l e R s m args below meth c B.U B.locs B.cells B.slots ∧ PostX ⟨T.setVm vm₁, locs, cells, slots⟩ (Value.ref b :: argsL).toArray q B ∧
      Steps p.tables e below (T.setTop g) ((B.U.setTop { g with stack := rest }).pushFrame (.throwing q))) := by
  obtain ⟨mk, methM, hnamed, hmethM, hstM, habM⟩ := Cond.instanceMethod_spec hinst
  obtain ⟨methM', cM, hmethM', -, -, -, -, -, -, hsigM⟩ := Cond.code_spec hnamed hcode
  cases hmethM.symm.trans hmethM'
  obtain ⟨c2, r2, m2, q1, q2, q3, q4, kP, hkP, hkPi⟩ := Cond.selects_spec hsel
  cases hcls.symm.trans q1
  cases (State.methodFound?_of_named hnamed hy).symm.trans q2
  cases hnamed.symm.trans q3
  have hselP : selectMethod e.platform s.vm cellB.cls mk = .method mk := by rw [Launch.admits_selectMethod X.admits]; exact q4
  obtain ⟨vm₁, X₁, hstep₁⟩ := X.invokevirtualNest hexec hown hlink hnamed hmethM hstM hkP hkPi hy (a := b) (cell := cellB) hcell
    (fun z h => by rw [h] at hobj; cases hobj) hselP hmethM habM hkP hkPi (g := g) hg (argsL := argsL) (rest := rest) (hlen _ hsigM) hstack hdg
  rcases hK m meth c ⟨T.setVm vm₁, locs, cells, slots⟩ { g with stack := rest } (.invokevirtual index) mk (Value.ref b :: argsL).toArray X₁ hg hsize hdg hW (X₁.named hnamed) (hpre vm₁ X₁.warmed) with ⟨v, B, X', hpost, hsteps⟩ | ⟨q, B, X', hpost, hsteps⟩
  · exact Or.inl ⟨v, vm₁, B, X₁.warmed, X', hpost, fun target h => hstep₁ _ fun acts => by rw [doInvoke_state]; exact hsteps.trans h⟩
  · exact Or.inr ⟨q, vm₁, B, X₁.warmed, X', hpost, hstep₁ _ fun acts => by rw [doInvoke_state]; exact hsteps⟩
theorem vx_callSN (X : Stand p l e R s m args below meth c T locs cells slots) (hexec : p.tables.exec = Jvm.exec) {own : String} {index : Nat} {host : String} {y : MethodName} {bytes : ByteArray} {maxL : Nat} {ret : Option FieldType}
    (hown : s.vm.findClass own = some m.cls) (hlink : (Cond.methodLinkNest own index y host).before args s = true) (hstat : (Cond.static y).before args s = true) (hinit : (Cond.initialized y.cls).before args s = true)
    (hcode : (Cond.code y bytes maxL ret).before args s = true) (hy : y.cls ≠ "java/lang/invoke/MethodHandle" ∧ y.cls ≠ "java/lang/invoke/VarHandle")
    {W : Nat} {Pre : Pt → Array Value → Prop} {Post : Pt → Array Value → Option Value → Pt → Prop} {PostX : Pt → Array Value → Addr → Pt → Prop} (hK : vx_Back l R p e below s args y 3 W Pre Post PostX)
    {g : JFrame} (hg : g.method = m) (hsize : g.locals.size = c.maxLocals) {argsL rest : List Value} (hlen : ∀ sig, parseMethodDescriptor y.desc = some sig → argsL.length = sig.parameters.length)
    (hstack : g.stack = argsL.reverse ++ rest) (hW : 2 * g.monitorRoom + (rest.map fun v => v.category).sum ≤ W) (hdg : decode c.code g.pc = .ok (.invokestatic index, 3))
    (hpre : ∀ vm₁, s.WarmedH vm₁ → Pre ⟨T.setVm vm₁, locs, cells, slots⟩ argsL.toArray) :
    (∃ (v : Option Value) (vm₁ : Vm) (B : Pt), s.WarmedH vm₁ ∧ Stand p l e R s m args below meth c B.U B.locs B.cells B.slots ∧ Post ⟨T.setVm vm₁, locs, cells, slots⟩ argsL.toArray v B ∧
      ∀ target, Steps p.tables e below (B.U.setTop { g with pc := g.pc + 3, stack := v.toList ++ rest }) target → Steps p.tables e below (T.setTop g) target) ∨
    (∃ (q : Addr) (vm₁ : Vm) (B : Pt), s.WarmedH vm₁ ∧ Stand p l e R s m args below meth c B.U B.locs B.cells B.slots ∧ PostX ⟨T.setVm vm₁, locs, cells, slots⟩ argsL.toArray q B ∧
      Steps p.tables e below (T.setTop g) ((B.U.setTop { g with stack := rest }).pushFrame (.throwing q))) := by
  obtain ⟨mk, hnamed⟩ := Cond.code_named hcode
  obtain ⟨methM, cM, hmethM, -, -, -, -, -, -, hsigM⟩ := Cond.code_spec hnamed hcode
  have hstatic : methM.isStatic = true := Cond.static_spec hnamed hmethM hstat
  obtain ⟨kP, hkP, -⟩ := className_of_methodNamed hnamed
  have hinitP : kP.init = .initialized := Cond.initialized_spec (findClass_of_methodNamed hnamed) hkP hinit
  obtain ⟨vm₁, X₁, hstep₁⟩ := X.invokestaticNest hexec hown hlink hnamed hmethM hstatic hkP hinitP hy (g := g) hg (argsL := argsL) (rest := rest) (hlen _ hsigM) hstack hdg
  rcases hK m meth c ⟨T.setVm vm₁, locs, cells, slots⟩ { g with stack := rest } (.invokestatic index) mk argsL.toArray X₁ hg hsize hdg hW (X₁.named hnamed) (hpre vm₁ X₁.warmed) with ⟨v, B, X', hpost, hsteps⟩ | ⟨q, B, X', hpost, hsteps⟩
  · exact Or.inl ⟨v, vm₁, B, X₁.warmed, X', hpost, fun target h => hstep₁ _ fun acts => by rw [doInvoke_state]; exact hsteps.trans h⟩
  · exact Or.inr ⟨q, vm₁, B, X₁.warmed, X', hpost, hstep₁ _ fun acts => by rw [doInvoke_state]; exact hsteps⟩
theorem vx_runVN {y : MethodName} {bytes cc : ByteArray} {maxL nL mc ms n index : Nat} {ret : Option FieldType} {ws : List Cond} {rm : Room} {Pc : Array Value → State → Prop} {Qc : Array Value → State → Outcome → State → Prop} {XC : String → State → State → Prop} {free : Addr → Prop} {Ts : List Cond} {own C host : String} {b : Addr} {As rest : List Value} {g : JFrame}
    (S : CallFix p m c cc nL s args Ts own) (hM : vx_Met l y ws rm Pc Qc XC mc ms free) (cw : va_CN R s args own index y host bytes maxL ret ws rm mc ms n ∧ (Cond.instanceMethod y).before args s = true ∧ (Cond.selects C y y).before args s = true) (hp : PreV s H C b Pc As)
    (hg : g.method = m) (hn : As.length = n) (hsize : g.locals.size = nL) (hstack : g.stack = As.reverse ++ .ref b :: rest) (hW : 2 * g.monitorRoom + (rest.map fun v => v.category).sum ≤ 8) (hdg : decode cc g.pc = .ok (.invokevirtual index, 3)) (hf : cells + mc ≤ R.cells ∧ slots + ms ≤ R.slots) :
    vx_Run p l e R s m args below meth c H locs cells slots mc ms g rest (Qc (Value.ref b :: As).toArray) XC free := by
  obtain ⟨⟨⟨hrc, hrs, hfr, hlo, hws, hcw⟩, hcode, hini, hy, hlen, hl⟩, hx1, hx2⟩ := cw
  have hK : vx_Back l R p e below s args y 3 8 (PreOf R mc ms Pc) (PostOf Qc mc ms free) (vx_Post XC mc ms free) := vx_back (bytes := bytes) (maxL := maxL) (ret := ret) hM hp.1 hrc hrs hfr hlo hws hcw (fun a' U hW => word_at hW (Or.inl (by first | rfl | simp [Cond.onTables, Cond.keeps, Cond.steady])) hini)
  obtain ⟨hx, hb, hml, ho, -⟩ := S
  obtain ⟨-, ⟨cellB, hcB, hoB, hclB⟩, hPc⟩ := hp
  intro T hT X
  rcases vx_callVN X hx (C := C) (bytes := bytes) (maxL := maxL) (ret := ret) ho hl hx1 hx2 hcode hy hK (by rw [hT]; exact hcB) hoB hclB hg (hsize.trans hml.symm) (argsL := As) (rest := rest) (fun sig h => hn.trans (hlen sig h)) hstack hW (by rw [hb]; exact hdg)
    (fun vm₁ hW₁ => ⟨hf.1, hf.2, hPc (T.setVm vm₁) hT hW₁⟩) with ⟨v, vm₁, ⟨U', l2, c2, s2⟩, hW₁, X', ⟨g', mk, t, L, e1, e2, hq, h1, hL, h2, h3⟩, st⟩ | ⟨q, vm₁, ⟨U', l2, c2, s2⟩, hW₁, X', ⟨g', mk, t, L, E, ce, e1, e2, hq, hce, hcv, hcl, h1, hL, h2, h3⟩, st⟩
  · dsimp only [Pt.U, Pt.locs, Pt.cells, Pt.slots] at X' e1 e2 h1 h2 h3 st
    subst h1; subst h2; subst h3
    exact Or.inl ⟨v, (T.setVm vm₁).calling g' mk (Value.ref b :: As).toArray, t, U', L, hT, X', hL, e1, e2, hq, st⟩
  · dsimp only [Pt.U, Pt.locs, Pt.cells, Pt.slots] at X' e1 e2 h1 h2 h3 st hcl
    subst h1; subst h2; subst h3
    exact Or.inr ⟨q, (T.setVm vm₁).calling g' mk (Value.ref b :: As).toArray, t, U', L, E, ce, hT, X', hL, e1, e2, hq, hce, hcv, vx_cls hW₁ hcl, st⟩
theorem vx_runSN {y : MethodName} {bytes cc : ByteArray} {maxL nL mc ms n index : Nat} {ret : Option FieldType} {ws : List Cond} {rm : Room} {Pc : Array Value → State → Prop} {Qc : Array Value → State → Outcome → State → Prop} {XC : String → State → State → Prop} {free : Addr → Prop} {Ts : List Cond} {own host : String} {As rest : List Value} {g : JFrame}
    (S : CallFix p m c cc nL s args Ts own) (hM : vx_Met l y ws rm Pc Qc XC mc ms free) (cw : va_CN R s args own index y host bytes maxL ret ws rm mc ms n ∧ (Cond.static y).before args s = true ∧ True) (hp : PreS s H Pc As)
    (hg : g.method = m) (hn : As.length = n) (hsize : g.locals.size = nL) (hstack : g.stack = As.reverse ++ rest) (hW : 2 * g.monitorRoom + (rest.map fun v => v.category).sum ≤ 8) (hdg : decode cc g.pc = .ok (.invokestatic index, 3)) (hf : cells + mc ≤ R.cells ∧ slots + ms ≤ R.slots) :
    vx_Run p l e R s m args below meth c H locs cells slots mc ms g rest (Qc As.toArray) XC free := by
  obtain ⟨⟨⟨hrc, hrs, hfr, hlo, hws, hcw⟩, hcode, hini, hy, hlen, hl⟩, hx1, hx2⟩ := cw
  have hK : vx_Back l R p e below s args y 3 8 (PreOf R mc ms Pc) (PostOf Qc mc ms free) (vx_Post XC mc ms free) := vx_back (bytes := bytes) (maxL := maxL) (ret := ret) hM hp.1 hrc hrs hfr hlo hws hcw (fun a' U hW => word_at hW (Or.inl (by first | rfl | simp [Cond.onTables, Cond.keeps, Cond.steady])) hini)
  obtain ⟨hx, hb, hml, ho, -⟩ := S
  have hPc := hp.2
  intro T hT X
  rcases vx_callSN X hx (bytes := bytes) (maxL := maxL) (ret := ret) ho hl hx1 hini hcode hy hK hg (hsize.trans hml.symm) (argsL := As) (rest := rest) (fun sig h => hn.trans (hlen sig h)) hstack hW (by rw [hb]; exact hdg)
    (fun vm₁ hW₁ => ⟨hf.1, hf.2, hPc (T.setVm vm₁) hT hW₁⟩) with ⟨v, vm₁, ⟨U', l2, c2, s2⟩, hW₁, X', ⟨g', mk, t, L, e1, e2, hq, h1, hL, h2, h3⟩, st⟩ | ⟨q, vm₁, ⟨U', l2, c2, s2⟩, hW₁, X', ⟨g', mk, t, L, E, ce, e1, e2, hq, hce, hcv, hcl, h1, hL, h2, h3⟩, st⟩
  · dsimp only [Pt.U, Pt.locs, Pt.cells, Pt.slots] at X' e1 e2 h1 h2 h3 st
    subst h1; subst h2; subst h3
    exact Or.inl ⟨v, (T.setVm vm₁).calling g' mk As.toArray, t, U', L, hT, X', hL, e1, e2, hq, st⟩
  · dsimp only [Pt.U, Pt.locs, Pt.cells, Pt.slots] at X' e1 e2 h1 h2 h3 st hcl
    subst h1; subst h2; subst h3
    exact Or.inr ⟨q, (T.setVm vm₁).calling g' mk As.toArray, t, U', L, E, ce, hT, X', hL, e1, e2, hq, hce, hcv, vx_cls hW₁ hcl, st⟩
end
end
section
def RX0 : String := "CableShip$Calendar"
def TX0 : u_T := fun k => match k with
  | 0 => ("CableShip$Calendar", "today", "I", false)
  | 1 => ("CableShip$Calendar", "draw", "I", false)
  | _ => ("CableShip$Calendar", "busyUntil", "I", false)
def tyX0 : Nat → FieldType := fun k => match k with
  | 0 => .int
  | 1 => .int
  | _ => .int
abbrev wsX00 : List Cond := u_ws RX0 TX0 3
theorem nmX0 : ∀ a, a < 3 → ∀ b, b < 3 → a ≠ b → (TX0 a).2.1 ≠ (TX0 b).2.1 := by decide +kernel
theorem tyX0_ok : ∀ k, k < 3 → parseFieldDescriptor (TX0 k).2.2.1 = some (tyX0 k) := by decide +kernel
abbrev cX0_init : ByteArray := prog_2_method_1_code
def yX0_init : MethodName := ⟨RX0, "<init>", "()V"⟩
abbrev cX0_nextDay : ByteArray := prog_2_method_2_code
def yX0_nextDay : MethodName := ⟨RX0, "nextDay", "()V"⟩
abbrev cX0_wavesToday : ByteArray := prog_2_method_3_code
def yX0_wavesToday : MethodName := ⟨RX0, "wavesToday", "()I"⟩
abbrev cX0_isForWork : ByteArray := prog_2_method_4_code
def yX0_isForWork : MethodName := ⟨RX0, "isForWork", "()Z"⟩
def RX1 : String := "CableShip$Deeds"
def TX1 : u_T := fun k => match k with
  | _ => ("CableShip$Deeds", "done", "LCableShip$Table;", true)
def tyX1 : Nat → FieldType := fun k => match k with
  | _ => .object "CableShip$Table"
abbrev wsX10 : List Cond := u_ws RX1 TX1 1
theorem nmX1 : ∀ a, a < 1 → ∀ b, b < 1 → a ≠ b → (TX1 a).2.1 ≠ (TX1 b).2.1 := by decide +kernel
theorem tyX1_ok : ∀ k, k < 1 → parseFieldDescriptor (TX1 k).2.2.1 = some (tyX1 k) := by decide +kernel
abbrev cX1_init : ByteArray := prog_3_method_1_code
def yX1_init : MethodName := ⟨RX1, "<init>", "()V"⟩
abbrev cX1_putIn : ByteArray := prog_3_method_2_code
def yX1_putIn : MethodName := ⟨RX1, "putIn", "(IIII)V"⟩
abbrev cX1_cutOut : ByteArray := prog_3_method_3_code
def yX1_cutOut : MethodName := ⟨RX1, "cutOut", "(II)V"⟩
abbrev cX1_metreAt : ByteArray := prog_3_method_4_code
def yX1_metreAt : MethodName := ⟨RX1, "metreAt", "(I)I"⟩
def RX2 : String := "CableShip$FaultBook"
def TX2 : u_T := fun k => match k with
  | _ => ("CableShip$FaultBook", "rows", "LCableShip$Table;", true)
def tyX2 : Nat → FieldType := fun k => match k with
  | _ => .object "CableShip$Table"
abbrev wsX20 : List Cond := u_ws RX2 TX2 1
theorem nmX2 : ∀ a, a < 1 → ∀ b, b < 1 → a ≠ b → (TX2 a).2.1 ≠ (TX2 b).2.1 := by decide +kernel
theorem tyX2_ok : ∀ k, k < 1 → parseFieldDescriptor (TX2 k).2.2.1 = some (tyX2 k) := by decide +kernel
abbrev cX2_init : ByteArray := prog_4_method_1_code
def yX2_init : MethodName := ⟨RX2, "<init>", "()V"⟩
abbrev cX2_size : ByteArray := prog_4_method_2_code
def yX2_size : MethodName := ⟨RX2, "size", "()I"⟩
abbrev cX2_enter : ByteArray := prog_4_method_3_code
def yX2_enter : MethodName := ⟨RX2, "enter", "(III)V"⟩
abbrev cX2_placeOf : ByteArray := prog_4_method_4_code
def yX2_placeOf : MethodName := ⟨RX2, "placeOf", "(I)I"⟩
abbrev cX2_tell : ByteArray := prog_4_method_5_code
def yX2_tell : MethodName := ⟨RX2, "tell", "(II)I"⟩
abbrev cX2_beginAnew : ByteArray := prog_4_method_6_code
def yX2_beginAnew : MethodName := ⟨RX2, "beginAnew", "(I)V"⟩
abbrev cX2_dropFrom : ByteArray := prog_4_method_7_code
def yX2_dropFrom : MethodName := ⟨RX2, "dropFrom", "(I)V"⟩
abbrev cX2_cutOut : ByteArray := prog_4_method_8_code
def yX2_cutOut : MethodName := ⟨RX2, "cutOut", "(III)I"⟩
abbrev cX2_hasBreak : ByteArray := prog_4_method_9_code
def yX2_hasBreak : MethodName := ⟨RX2, "hasBreak", "()Z"⟩
abbrev cX2_firstShunt : ByteArray := prog_4_method_10_code
def yX2_firstShunt : MethodName := ⟨RX2, "firstShunt", "()I"⟩
abbrev cX2_lastShunt : ByteArray := prog_4_method_11_code
def yX2_lastShunt : MethodName := ⟨RX2, "lastShunt", "()I"⟩
abbrev cX2_nearest : ByteArray := prog_4_method_12_code
def yX2_nearest : MethodName := ⟨RX2, "nearest", "(ZZ)I"⟩
abbrev cX2_narrow : ByteArray := prog_4_method_13_code
def yX2_narrow : MethodName := ⟨RX2, "narrow", "(III)V"⟩
def RX3 : String := "CableShip$Hold"
def TX3 : u_T := fun k => match k with
  | 0 => ("CableShip$Hold", "types", "[I", true)
  | 1 => ("CableShip$Hold", "stowed", "LCableShip$Table;", true)
  | 2 => ("CableShip$Hold", "gathered", "LCableShip$Table;", true)
  | 3 => ("CableShip$Hold", "pieces", "I", false)
  | _ => ("CableShip$Hold", "made", "I", false)
def tyX3 : Nat → FieldType := fun k => match k with
  | 0 => .array .int
  | 1 => .object "CableShip$Table"
  | 2 => .object "CableShip$Table"
  | 3 => .int
  | _ => .int
abbrev wsX30 : List Cond := u_ws RX3 TX3 5
theorem nmX3 : ∀ a, a < 5 → ∀ b, b < 5 → a ≠ b → (TX3 a).2.1 ≠ (TX3 b).2.1 := by decide +kernel
theorem tyX3_ok : ∀ k, k < 5 → parseFieldDescriptor (TX3 k).2.2.1 = some (tyX3 k) := by decide +kernel
abbrev cX3_init : ByteArray := prog_5_method_1_code
def yX3_init : MethodName := ⟨RX3, "<init>", "()V"⟩
abbrev cX3_stow : ByteArray := prog_5_method_2_code
def yX3_stow : MethodName := ⟨RX3, "stow", "(III)I"⟩
abbrev cX3_typeOf : ByteArray := prog_5_method_3_code
def yX3_typeOf : MethodName := ⟨RX3, "typeOf", "(I)I"⟩
abbrev cX3_metresIn : ByteArray := prog_5_method_4_code
def yX3_metresIn : MethodName := ⟨RX3, "metresIn", "(I)I"⟩
abbrev cX3_piecesIn : ByteArray := prog_5_method_5_code
def yX3_piecesIn : MethodName := ⟨RX3, "piecesIn", "(I)I"⟩
abbrev cX3_top : ByteArray := prog_5_method_6_code
def yX3_top : MethodName := ⟨RX3, "top", "(II)I"⟩
abbrev cX3_gather : ByteArray := prog_5_method_7_code
def yX3_gather : MethodName := ⟨RX3, "gather", "(II)Z"⟩
abbrev cX3_sendOut : ByteArray := prog_5_method_8_code
def yX3_sendOut : MethodName := ⟨RX3, "sendOut", "(II)V"⟩
abbrev cX3_fits : ByteArray := prog_5_method_9_code
def yX3_fits : MethodName := ⟨RX3, "fits", "(II)Z"⟩
abbrev cX3_holdsAt : ByteArray := prog_5_method_10_code
def yX3_holdsAt : MethodName := ⟨RX3, "holdsAt", "(I)Z"⟩
abbrev cX3_pull : ByteArray := prog_5_method_11_code
def yX3_pull : MethodName := ⟨RX3, "pull", "(II)I"⟩
abbrev cX3_mostPull : ByteArray := prog_5_method_12_code
def yX3_mostPull : MethodName := ⟨RX3, "mostPull", "(I)I"⟩
abbrev cX3_isNear : ByteArray := prog_5_method_13_code
def yX3_isNear : MethodName := ⟨RX3, "isNear", "(II)Z"⟩
def RX4 : String := "CableShip$Network"
def TX4 : u_T := fun k => match k with
  | 0 => ("CableShip$Network", "links", "LCableShip$Table;", true)
  | 1 => ("CableShip$Network", "demands", "LCableShip$Table;", true)
  | _ => ("CableShip$Network", "steps", "[I", true)
def tyX4 : Nat → FieldType := fun k => match k with
  | 0 => .object "CableShip$Table"
  | 1 => .object "CableShip$Table"
  | _ => .array .int
abbrev wsX40 : List Cond := u_ws RX4 TX4 3
theorem nmX4 : ∀ a, a < 3 → ∀ b, b < 3 → a ≠ b → (TX4 a).2.1 ≠ (TX4 b).2.1 := by decide +kernel
theorem tyX4_ok : ∀ k, k < 3 → parseFieldDescriptor (TX4 k).2.2.1 = some (tyX4 k) := by decide +kernel
abbrev cX4_init : ByteArray := prog_6_method_1_code
def yX4_init : MethodName := ⟨RX4, "<init>", "()V"⟩
abbrev cX4_wayOf : ByteArray := prog_6_method_2_code
def yX4_wayOf : MethodName := ⟨RX4, "wayOf", "(I)I"⟩
abbrev cX4_toldDead : ByteArray := prog_6_method_3_code
def yX4_toldDead : MethodName := ⟨RX4, "toldDead", "()I"⟩
abbrev cX4_takeOff : ByteArray := prog_6_method_4_code
def yX4_takeOff : MethodName := ⟨RX4, "takeOff", "(I)V"⟩
abbrev cX4_carryDark : ByteArray := prog_6_method_5_code
def yX4_carryDark : MethodName := ⟨RX4, "carryDark", "(I)I"⟩
abbrev cX4_carry : ByteArray := prog_6_method_6_code
def yX4_carry : MethodName := ⟨RX4, "carry", "(II)V"⟩
abbrev cX4_usableLinks : ByteArray := prog_6_method_7_code
def yX4_usableLinks : MethodName := ⟨RX4, "usableLinks", "(II)I"⟩
abbrev cX4_freeOn : ByteArray := prog_6_method_8_code
def yX4_freeOn : MethodName := ⟨RX4, "freeOn", "(I)I"⟩
abbrev cX4_countSteps : ByteArray := prog_6_method_9_code
def yX4_countSteps : MethodName := ⟨RX4, "countSteps", "(II)V"⟩
abbrev cX4_shorten : ByteArray := prog_6_method_10_code
def yX4_shorten : MethodName := ⟨RX4, "shorten", "(II)V"⟩
abbrev cX4_stepsFrom : ByteArray := prog_6_method_11_code
def yX4_stepsFrom : MethodName := ⟨RX4, "stepsFrom", "(I)I"⟩
abbrev cX4_bestWay : ByteArray := prog_6_method_12_code
def yX4_bestWay : MethodName := ⟨RX4, "bestWay", "(II)I"⟩
abbrev cX4_otherEnd : ByteArray := prog_6_method_13_code
def yX4_otherEnd : MethodName := ⟨RX4, "otherEnd", "(II)I"⟩
def RX5 : String := "CableShip$Row"
def TX5 : u_T := fun k => match k with
  | 0 => ("CableShip$Row", "things", "LCableShip$Table;", true)
  | 1 => ("CableShip$Row", "deeds", "LCableShip$Deeds;", true)
  | 2 => ("CableShip$Row", "cellMetres", "[I", true)
  | 3 => ("CableShip$Row", "cells", "I", false)
  | _ => ("CableShip$Row", "metres", "I", false)
def tyX5 : Nat → FieldType := fun k => match k with
  | 0 => .object "CableShip$Table"
  | 1 => .object "CableShip$Deeds"
  | 2 => .array .int
  | 3 => .int
  | _ => .int
abbrev wsX50 : List Cond := u_ws RX5 TX5 5
theorem nmX5 : ∀ a, a < 5 → ∀ b, b < 5 → a ≠ b → (TX5 a).2.1 ≠ (TX5 b).2.1 := by decide +kernel
theorem tyX5_ok : ∀ k, k < 5 → parseFieldDescriptor (TX5 k).2.2.1 = some (tyX5 k) := by decide +kernel
abbrev cX5_init : ByteArray := prog_7_method_1_code
def yX5_init : MethodName := ⟨RX5, "<init>", "()V"⟩
abbrev cX5_beginOf : ByteArray := prog_7_method_2_code
def yX5_beginOf : MethodName := ⟨RX5, "beginOf", "(I)I"⟩
abbrev cX5_metresIn : ByteArray := prog_7_method_3_code
def yX5_metresIn : MethodName := ⟨RX5, "metresIn", "(I)I"⟩
abbrev cX5_endCell : ByteArray := prog_7_method_4_code
def yX5_endCell : MethodName := ⟨RX5, "endCell", "(I)V"⟩
abbrev cX5_lastKind : ByteArray := prog_7_method_5_code
def yX5_lastKind : MethodName := ⟨RX5, "lastKind", "()I"⟩
abbrev cX5_count : ByteArray := prog_7_method_6_code
def yX5_count : MethodName := ⟨RX5, "count", "(I)I"⟩
abbrev cX5_addBare : ByteArray := prog_7_method_7_code
def yX5_addBare : MethodName := ⟨RX5, "addBare", "(I)V"⟩
abbrev cX5_append : ByteArray := prog_7_method_8_code
def yX5_append : MethodName := ⟨RX5, "append", "(III)V"⟩
abbrev cX5_goesOn : ByteArray := prog_7_method_9_code
def yX5_goesOn : MethodName := ⟨RX5, "goesOn", "(III)Z"⟩
abbrev cX5_loseEnd : ByteArray := prog_7_method_10_code
def yX5_loseEnd : MethodName := ⟨RX5, "loseEnd", "(I)V"⟩
abbrev cX5_regainEnd : ByteArray := prog_7_method_11_code
def yX5_regainEnd : MethodName := ⟨RX5, "regainEnd", "(I)V"⟩
abbrev cX5_exchange : ByteArray := prog_7_method_12_code
def yX5_exchange : MethodName := ⟨RX5, "exchange", "(ILCableShip$Table;I)V"⟩
abbrev cX5_cutThings : ByteArray := prog_7_method_13_code
def yX5_cutThings : MethodName := ⟨RX5, "cutThings", "(II)I"⟩
abbrev cX5_divideAt : ByteArray := prog_7_method_14_code
def yX5_divideAt : MethodName := ⟨RX5, "divideAt", "(I)V"⟩
abbrev cX5_metreAt : ByteArray := prog_7_method_15_code
def yX5_metreAt : MethodName := ⟨RX5, "metreAt", "(I)I"⟩
abbrev cX5_metreByDeeds : ByteArray := prog_7_method_16_code
def yX5_metreByDeeds : MethodName := ⟨RX5, "metreByDeeds", "(I)I"⟩
abbrev cX5_pieceAt : ByteArray := prog_7_method_17_code
def yX5_pieceAt : MethodName := ⟨RX5, "pieceAt", "(I)I"⟩
abbrev cX5_leastSignal : ByteArray := prog_7_method_18_code
def yX5_leastSignal : MethodName := ⟨RX5, "leastSignal", "(I)I"⟩
abbrev cX5_dropsAhead : ByteArray := prog_7_method_19_code
def yX5_dropsAhead : MethodName := ⟨RX5, "dropsAhead", "(I)I"⟩
abbrev cX5_dropsBehind : ByteArray := prog_7_method_20_code
def yX5_dropsBehind : MethodName := ⟨RX5, "dropsBehind", "(I)I"⟩
abbrev cX5_dropOf : ByteArray := prog_7_method_21_code
def yX5_dropOf : MethodName := ⟨RX5, "dropOf", "(II)I"⟩
abbrev cX5_reachOf : ByteArray := prog_7_method_22_code
def yX5_reachOf : MethodName := ⟨RX5, "reachOf", "(I)I"⟩
abbrev cX5_hasRepeater : ByteArray := prog_7_method_23_code
def yX5_hasRepeater : MethodName := ⟨RX5, "hasRepeater", "(IZ)Z"⟩
def RX6 : String := "CableShip$Sea"
def TX6 : u_T := fun k => match k with
  | 0 => ("CableShip$Sea", "depths", "[I", true)
  | 1 => ("CableShip$Sea", "errors", "[I", true)
  | 2 => ("CableShip$Sea", "wrecks", "[Z", true)
  | _ => ("CableShip$Sea", "crossings", "[I", true)
def tyX6 : Nat → FieldType := fun k => match k with
  | 0 => .array .int
  | 1 => .array .int
  | 2 => .array .boolean
  | _ => .array .int
abbrev wsX60 : List Cond := u_ws RX6 TX6 4
theorem nmX6 : ∀ a, a < 4 → ∀ b, b < 4 → a ≠ b → (TX6 a).2.1 ≠ (TX6 b).2.1 := by decide +kernel
theorem tyX6_ok : ∀ k, k < 4 → parseFieldDescriptor (TX6 k).2.2.1 = some (tyX6 k) := by decide +kernel
abbrev cX6_init : ByteArray := prog_8_method_1_code
def yX6_init : MethodName := ⟨RX6, "<init>", "()V"⟩
abbrev cX6_takeSounding : ByteArray := prog_8_method_2_code
def yX6_takeSounding : MethodName := ⟨RX6, "takeSounding", "(III)V"⟩
abbrev cX6_depthOf : ByteArray := prog_8_method_3_code
def yX6_depthOf : MethodName := ⟨RX6, "depthOf", "(I)I"⟩
abbrev cX6_groundOf : ByteArray := prog_8_method_4_code
def yX6_groundOf : MethodName := ⟨RX6, "groundOf", "(I)I"⟩
abbrev cX6_hasWreck : ByteArray := prog_8_method_5_code
def yX6_hasWreck : MethodName := ⟨RX6, "hasWreck", "(I)Z"⟩
abbrev cX6_setWreck : ByteArray := prog_8_method_6_code
def yX6_setWreck : MethodName := ⟨RX6, "setWreck", "(IZ)V"⟩
abbrev cX6_crossingOf : ByteArray := prog_8_method_7_code
def yX6_crossingOf : MethodName := ⟨RX6, "crossingOf", "(I)I"⟩
abbrev cX6_setCrossing : ByteArray := prog_8_method_8_code
def yX6_setCrossing : MethodName := ⟨RX6, "setCrossing", "(II)V"⟩
abbrev cX6_isOpen : ByteArray := prog_8_method_9_code
def yX6_isOpen : MethodName := ⟨RX6, "isOpen", "(I)Z"⟩
def RX7 : String := "CableShip$Table"
def TX7 : u_T := fun k => match k with
  | 0 => ("CableShip$Table", "values", "[I", false)
  | _ => ("CableShip$Table", "rows", "I", false)
def tyX7 : Nat → FieldType := fun k => match k with
  | 0 => .array .int
  | _ => .int
abbrev wsX70 : List Cond := u_ws RX7 TX7 2
theorem nmX7 : ∀ a, a < 2 → ∀ b, b < 2 → a ≠ b → (TX7 a).2.1 ≠ (TX7 b).2.1 := by decide +kernel
theorem tyX7_ok : ∀ k, k < 2 → parseFieldDescriptor (TX7 k).2.2.1 = some (tyX7 k) := by decide +kernel
abbrev cX7_init : ByteArray := prog_9_method_1_code
def yX7_init : MethodName := ⟨RX7, "<init>", "()V"⟩
abbrev cX7_get : ByteArray := prog_9_method_2_code
def yX7_get : MethodName := ⟨RX7, "get", "(II)I"⟩
abbrev cX7_set : ByteArray := prog_9_method_3_code
def yX7_set : MethodName := ⟨RX7, "set", "(III)V"⟩
abbrev cX7_add : ByteArray := prog_9_method_4_code
def yX7_add : MethodName := ⟨RX7, "add", "(IIII)V"⟩
abbrev cX7_insert : ByteArray := prog_9_method_5_code
def yX7_insert : MethodName := ⟨RX7, "insert", "(IIIII)V"⟩
abbrev cX7_remove : ByteArray := prog_9_method_6_code
def yX7_remove : MethodName := ⟨RX7, "remove", "(I)V"⟩
abbrev cX7_clear : ByteArray := prog_9_method_7_code
def yX7_clear : MethodName := ⟨RX7, "clear", "()V"⟩
def RX8 : String := "CableShip"
def TX8 : u_T := fun k => match k with
  | 0 => ("CableShip", "sea", "LCableShip$Sea;", true)
  | 1 => ("CableShip", "calendar", "LCableShip$Calendar;", true)
  | 2 => ("CableShip", "hold", "LCableShip$Hold;", true)
  | 3 => ("CableShip", "row", "LCableShip$Row;", true)
  | 4 => ("CableShip", "book", "LCableShip$FaultBook;", true)
  | 5 => ("CableShip", "network", "LCableShip$Network;", true)
  | 6 => ("CableShip", "laidToday", "I", false)
  | 7 => ("CableShip", "isBuoyed", "Z", false)
  | 8 => ("CableShip", "lost", "I", false)
  | 9 => ("CableShip", "waste", "I", false)
  | 10 => ("CableShip", "feedA", "I", false)
  | _ => ("CableShip", "feedB", "I", false)
def tyX8 : Nat → FieldType := fun k => match k with
  | 0 => .object "CableShip$Sea"
  | 1 => .object "CableShip$Calendar"
  | 2 => .object "CableShip$Hold"
  | 3 => .object "CableShip$Row"
  | 4 => .object "CableShip$FaultBook"
  | 5 => .object "CableShip$Network"
  | 6 => .int
  | 7 => .boolean
  | 8 => .int
  | 9 => .int
  | 10 => .int
  | _ => .int
abbrev wsX80 : List Cond := u_ws RX8 TX8 12
theorem nmX8 : ∀ a, a < 12 → ∀ b, b < 12 → a ≠ b → (TX8 a).2.1 ≠ (TX8 b).2.1 := by decide +kernel
theorem tyX8_ok : ∀ k, k < 12 → parseFieldDescriptor (TX8 k).2.2.1 = some (tyX8 k) := by decide +kernel
abbrev cX8_init : ByteArray := prog_1_method_1_code
def yX8_init : MethodName := ⟨RX8, "<init>", "()V"⟩
abbrev cX8_sound : ByteArray := prog_1_method_2_code
def yX8_sound : MethodName := ⟨RX8, "sound", "(III)I"⟩
abbrev cX8_wreck : ByteArray := prog_1_method_3_code
def yX8_wreck : MethodName := ⟨RX8, "wreck", "(IZ)Z"⟩
abbrev cX8_crossing : ByteArray := prog_1_method_4_code
def yX8_crossing : MethodName := ⟨RX8, "crossing", "(II)I"⟩
abbrev cX8_weather : ByteArray := prog_1_method_5_code
def yX8_weather : MethodName := ⟨RX8, "weather", "(I)I"⟩
abbrev cX8_pass : ByteArray := prog_1_method_6_code
def yX8_pass : MethodName := ⟨RX8, "pass", "(I)I"⟩
abbrev cX8_passOneDay : ByteArray := prog_1_method_7_code
def yX8_passOneDay : MethodName := ⟨RX8, "passOneDay", "()V"⟩
abbrev cX8_buoy : ByteArray := prog_1_method_8_code
def yX8_buoy : MethodName := ⟨RX8, "buoy", "()V"⟩
abbrev cX8_make : ByteArray := prog_1_method_9_code
def yX8_make : MethodName := ⟨RX8, "make", "(III)I"⟩
abbrev cX8_lay : ByteArray := prog_1_method_10_code
def yX8_lay : MethodName := ⟨RX8, "lay", "(III)I"⟩
abbrev cX8_layOneCell : ByteArray := prog_1_method_11_code
def yX8_layOneCell : MethodName := ⟨RX8, "layOneCell", "(II)Z"⟩
abbrev cX8_mayGoOn : ByteArray := prog_1_method_12_code
def yX8_mayGoOn : MethodName := ⟨RX8, "mayGoOn", "()Z"⟩
abbrev cX8_putBehind : ByteArray := prog_1_method_13_code
def yX8_putBehind : MethodName := ⟨RX8, "putBehind", "()V"⟩
abbrev cX8_repeater : ByteArray := prog_1_method_14_code
def yX8_repeater : MethodName := ⟨RX8, "repeater", "()I"⟩
abbrev cX8_takeUp : ByteArray := prog_1_method_15_code
def yX8_takeUp : MethodName := ⟨RX8, "takeUp", "(I)I"⟩
abbrev cX8_feed : ByteArray := prog_1_method_16_code
def yX8_feed : MethodName := ⟨RX8, "feed", "(II)V"⟩
abbrev cX8_fault : ByteArray := prog_1_method_17_code
def yX8_fault : MethodName := ⟨RX8, "fault", "(II)I"⟩
abbrev cX8_net : ByteArray := prog_1_method_18_code
def yX8_net : MethodName := ⟨RX8, "net", "(I)Z"⟩
abbrev cX8_measure : ByteArray := prog_1_method_19_code
def yX8_measure : MethodName := ⟨RX8, "measure", "(ZZI)I"⟩
abbrev cX8_mend : ByteArray := prog_1_method_20_code
def yX8_mend : MethodName := ⟨RX8, "mend", "(II)I"⟩
abbrev cX8_link : ByteArray := prog_1_method_21_code
def yX8_link : MethodName := ⟨RX8, "link", "(III)I"⟩
abbrev cX8_dead : ByteArray := prog_1_method_22_code
def yX8_dead : MethodName := ⟨RX8, "dead", "(IZ)Z"⟩
abbrev cX8_demand : ByteArray := prog_1_method_23_code
def yX8_demand : MethodName := ⟨RX8, "demand", "(III)I"⟩
abbrev cX8_restore : ByteArray := prog_1_method_24_code
def yX8_restore : MethodName := ⟨RX8, "restore", "()I"⟩
abbrev cX8_way : ByteArray := prog_1_method_25_code
def yX8_way : MethodName := ⟨RX8, "way", "(I)I"⟩
abbrev cX8_isLit : ByteArray := prog_1_method_26_code
def yX8_isLit : MethodName := ⟨RX8, "isLit", "(I)Z"⟩
abbrev cX8_deadLinks : ByteArray := prog_1_method_27_code
def yX8_deadLinks : MethodName := ⟨RX8, "deadLinks", "()I"⟩
abbrev cX8_day : ByteArray := prog_1_method_28_code
def yX8_day : MethodName := ⟨RX8, "day", "()I"⟩
abbrev cX8_waves : ByteArray := prog_1_method_29_code
def yX8_waves : MethodName := ⟨RX8, "waves", "()I"⟩
abbrev cX8_canWork : ByteArray := prog_1_method_30_code
def yX8_canWork : MethodName := ⟨RX8, "canWork", "()Z"⟩
abbrev cX8_cell : ByteArray := prog_1_method_31_code
def yX8_cell : MethodName := ⟨RX8, "cell", "(II)I"⟩
abbrev cX8_tension : ByteArray := prog_1_method_32_code
def yX8_tension : MethodName := ⟨RX8, "tension", "(II)I"⟩
abbrev cX8_tank : ByteArray := prog_1_method_33_code
def yX8_tank : MethodName := ⟨RX8, "tank", "(II)I"⟩
abbrev cX8_line : ByteArray := prog_1_method_34_code
def yX8_line : MethodName := ⟨RX8, "line", "(I)I"⟩
abbrev cX8_thing : ByteArray := prog_1_method_35_code
def yX8_thing : MethodName := ⟨RX8, "thing", "(II)I"⟩
abbrev cX8_metre : ByteArray := prog_1_method_36_code
def yX8_metre : MethodName := ⟨RX8, "metre", "(I)I"⟩
abbrev cX8_metreAnew : ByteArray := prog_1_method_37_code
def yX8_metreAnew : MethodName := ⟨RX8, "metreAnew", "(I)I"⟩
abbrev cX8_margin : ByteArray := prog_1_method_38_code
def yX8_margin : MethodName := ⟨RX8, "margin", "()I"⟩
abbrev cX8_earth : ByteArray := prog_1_method_39_code
def yX8_earth : MethodName := ⟨RX8, "earth", "()I"⟩
abbrev cX8_isFed : ByteArray := prog_1_method_40_code
def yX8_isFed : MethodName := ⟨RX8, "isFed", "()Z"⟩
abbrev cX8_works : ByteArray := prog_1_method_41_code
def yX8_works : MethodName := ⟨RX8, "works", "()Z"⟩
abbrev cX8_ofFault : ByteArray := prog_1_method_42_code
def yX8_ofFault : MethodName := ⟨RX8, "ofFault", "(II)I"⟩
abbrev cX8_faults : ByteArray := prog_1_method_43_code
def yX8_faults : MethodName := ⟨RX8, "faults", "()I"⟩
abbrev cX8_isKept : ByteArray := prog_1_method_44_code
def yX8_isKept : MethodName := ⟨RX8, "isKept", "()Z"⟩
abbrev cX8_liesAtB : ByteArray := prog_1_method_45_code
def yX8_liesAtB : MethodName := ⟨RX8, "liesAtB", "()Z"⟩
abbrev cX8_typeAt : ByteArray := prog_1_method_46_code
def yX8_typeAt : MethodName := ⟨RX8, "typeAt", "(I)I"⟩
abbrev cX8_marginToday : ByteArray := prog_1_method_47_code
def yX8_marginToday : MethodName := ⟨RX8, "marginToday", "()I"⟩
abbrev cX8_lineIsFed : ByteArray := prog_1_method_48_code
def yX8_lineIsFed : MethodName := ⟨RX8, "lineIsFed", "()Z"⟩
abbrev cX8_lineWorks : ByteArray := prog_1_method_49_code
def yX8_lineWorks : MethodName := ⟨RX8, "lineWorks", "()Z"⟩
abbrev cX8_isIn : ByteArray := prog_1_method_50_code
def yX8_isIn : MethodName := ⟨RX8, "isIn", "(III)Z"⟩
abbrev cX8_isCell : ByteArray := prog_1_method_51_code
def yX8_isCell : MethodName := ⟨RX8, "isCell", "(I)Z"⟩
abbrev cX8_isTank : ByteArray := prog_1_method_52_code
def yX8_isTank : MethodName := ⟨RX8, "isTank", "(I)Z"⟩
abbrev cX8_isType : ByteArray := prog_1_method_53_code
def yX8_isType : MethodName := ⟨RX8, "isType", "(I)Z"⟩
abbrev cX8_isPair : ByteArray := prog_1_method_54_code
def yX8_isPair : MethodName := ⟨RX8, "isPair", "(II)Z"⟩
abbrev cX8_needArgument : ByteArray := prog_1_method_55_code
def yX8_needArgument : MethodName := ⟨RX8, "needArgument", "(Z)V"⟩
abbrev cX8_needState : ByteArray := prog_1_method_56_code
def yX8_needState : MethodName := ⟨RX8, "needState", "(Z)V"⟩
abbrev cX8_needIndex : ByteArray := prog_1_method_57_code
def yX8_needIndex : MethodName := ⟨RX8, "needIndex", "(II)V"⟩
def RX9 : String := "CableShipModel"
def TX9 : u_T := fun k => match k with
  | 0 => ("CableShipModel", "thrown", "I", false)
  | 1 => ("CableShipModel", "isSounded", "[Z", true)
  | 2 => ("CableShipModel", "errors", "[I", true)
  | 3 => ("CableShipModel", "depths", "[I", true)
  | 4 => ("CableShipModel", "wrecks", "[Z", true)
  | 5 => ("CableShipModel", "crossings", "[I", true)
  | 6 => ("CableShipModel", "day", "I", false)
  | 7 => ("CableShipModel", "draw", "I", false)
  | 8 => ("CableShipModel", "busyUntil", "I", false)
  | 9 => ("CableShipModel", "laidToday", "I", false)
  | 10 => ("CableShipModel", "pieces", "I", false)
  | 11 => ("CableShipModel", "types", "[I", true)
  | 12 => ("CableShipModel", "made", "J", false)
  | 13 => ("CableShipModel", "tankMany", "[I", true)
  | 14 => ("CableShipModel", "tankPieces", "[I", true)
  | 15 => ("CableShipModel", "tankFrom", "[I", true)
  | 16 => ("CableShipModel", "tankTo", "[I", true)
  | 17 => ("CableShipModel", "outMany", "I", false)
  | 18 => ("CableShipModel", "outPieces", "[I", true)
  | 19 => ("CableShipModel", "outFrom", "[I", true)
  | 20 => ("CableShipModel", "outTo", "[I", true)
  | 21 => ("CableShipModel", "many", "I", false)
  | 22 => ("CableShipModel", "kinds", "[I", true)
  | 23 => ("CableShipModel", "spanPieces", "[I", true)
  | 24 => ("CableShipModel", "spanFrom", "[I", true)
  | 25 => ("CableShipModel", "spanTo", "[I", true)
  | 26 => ("CableShipModel", "newMany", "I", false)
  | 27 => ("CableShipModel", "newKinds", "[I", true)
  | 28 => ("CableShipModel", "newPieces", "[I", true)
  | 29 => ("CableShipModel", "newFrom", "[I", true)
  | 30 => ("CableShipModel", "newTo", "[I", true)
  | 31 => ("CableShipModel", "laid", "I", false)
  | 32 => ("CableShipModel", "inCell", "[I", true)
  | 33 => ("CableShipModel", "waste", "J", false)
  | 34 => ("CableShipModel", "isBuoyed", "Z", false)
  | 35 => ("CableShipModel", "toPut", "I", false)
  | 36 => ("CableShipModel", "fedA", "I", false)
  | 37 => ("CableShipModel", "fedB", "I", false)
  | 38 => ("CableShipModel", "faultMany", "I", false)
  | 39 => ("CableShipModel", "faultKinds", "[I", true)
  | 40 => ("CableShipModel", "places", "[I", true)
  | 41 => ("CableShipModel", "lowest", "[I", true)
  | 42 => ("CableShipModel", "highest", "[I", true)
  | 43 => ("CableShipModel", "links", "I", false)
  | 44 => ("CableShipModel", "endA", "[I", true)
  | 45 => ("CableShipModel", "endB", "[I", true)
  | 46 => ("CableShipModel", "capacities", "[I", true)
  | 47 => ("CableShipModel", "isDead", "[Z", true)
  | 48 => ("CableShipModel", "demands", "I", false)
  | 49 => ("CableShipModel", "demandA", "[I", true)
  | 50 => ("CableShipModel", "demandB", "[I", true)
  | 51 => ("CableShipModel", "waves", "[I", true)
  | 52 => ("CableShipModel", "ways", "[I", true)
  | _ => ("CableShipModel", "path", "[I", true)
def tyX9 : Nat → FieldType := fun k => match k with
  | 0 => .int
  | 1 => .array .boolean
  | 2 => .array .int
  | 3 => .array .int
  | 4 => .array .boolean
  | 5 => .array .int
  | 6 => .int
  | 7 => .int
  | 8 => .int
  | 9 => .int
  | 10 => .int
  | 11 => .array .int
  | 12 => .long
  | 13 => .array .int
  | 14 => .array .int
  | 15 => .array .int
  | 16 => .array .int
  | 17 => .int
  | 18 => .array .int
  | 19 => .array .int
  | 20 => .array .int
  | 21 => .int
  | 22 => .array .int
  | 23 => .array .int
  | 24 => .array .int
  | 25 => .array .int
  | 26 => .int
  | 27 => .array .int
  | 28 => .array .int
  | 29 => .array .int
  | 30 => .array .int
  | 31 => .int
  | 32 => .array .int
  | 33 => .long
  | 34 => .boolean
  | 35 => .int
  | 36 => .int
  | 37 => .int
  | 38 => .int
  | 39 => .array .int
  | 40 => .array .int
  | 41 => .array .int
  | 42 => .array .int
  | 43 => .int
  | 44 => .array .int
  | 45 => .array .int
  | 46 => .array .int
  | 47 => .array .boolean
  | 48 => .int
  | 49 => .array .int
  | 50 => .array .int
  | 51 => .array .int
  | 52 => .array .int
  | _ => .array .int
abbrev wsX90 : List Cond := u_ws RX9 TX9 54
theorem nmX9 : ∀ a, a < 54 → ∀ b, b < 54 → a ≠ b → (TX9 a).2.1 ≠ (TX9 b).2.1 := by decide +kernel
theorem tyX9_ok : ∀ k, k < 54 → parseFieldDescriptor (TX9 k).2.2.1 = some (tyX9 k) := by decide +kernel
abbrev cX9_init : ByteArray := prog_11_method_1_code
def yX9_init : MethodName := ⟨RX9, "<init>", "()V"⟩
abbrev cX9_thrown : ByteArray := prog_11_method_2_code
def yX9_thrown : MethodName := ⟨RX9, "thrown", "()I"⟩
abbrev cX9_isIn : ByteArray := prog_11_method_3_code
def yX9_isIn : MethodName := ⟨RX9, "isIn", "(III)Z"⟩
abbrev cX9_isCell : ByteArray := prog_11_method_4_code
def yX9_isCell : MethodName := ⟨RX9, "isCell", "(I)Z"⟩
abbrev cX9_depthOf : ByteArray := prog_11_method_5_code
def yX9_depthOf : MethodName := ⟨RX9, "depthOf", "(I)I"⟩
abbrev cX9_ground : ByteArray := prog_11_method_6_code
def yX9_ground : MethodName := ⟨RX9, "ground", "(I)I"⟩
abbrev cX9_sound : ByteArray := prog_11_method_7_code
def yX9_sound : MethodName := ⟨RX9, "sound", "(III)I"⟩
abbrev cX9_wreck : ByteArray := prog_11_method_8_code
def yX9_wreck : MethodName := ⟨RX9, "wreck", "(IZ)Z"⟩
abbrev cX9_crossing : ByteArray := prog_11_method_9_code
def yX9_crossing : MethodName := ⟨RX9, "crossing", "(II)I"⟩
abbrev cX9_weather : ByteArray := prog_11_method_10_code
def yX9_weather : MethodName := ⟨RX9, "weather", "(I)I"⟩
abbrev cX9_liesAtB : ByteArray := prog_11_method_11_code
def yX9_liesAtB : MethodName := ⟨RX9, "liesAtB", "()Z"⟩
abbrev cX9_pass : ByteArray := prog_11_method_12_code
def yX9_pass : MethodName := ⟨RX9, "pass", "(I)I"⟩
abbrev cX9_buoys : ByteArray := prog_11_method_13_code
def yX9_buoys : MethodName := ⟨RX9, "buoys", "()V"⟩
abbrev cX9_doubts : ByteArray := prog_11_method_14_code
def yX9_doubts : MethodName := ⟨RX9, "doubts", "()V"⟩
abbrev cX9_ships : ByteArray := prog_11_method_15_code
def yX9_ships : MethodName := ⟨RX9, "ships", "()Z"⟩
abbrev cX9_make : ByteArray := prog_11_method_16_code
def yX9_make : MethodName := ⟨RX9, "make", "(III)I"⟩
abbrev cX9_inTank : ByteArray := prog_11_method_17_code
def yX9_inTank : MethodName := ⟨RX9, "inTank", "(I)I"⟩
abbrev cX9_wouldGo : ByteArray := prog_11_method_18_code
def yX9_wouldGo : MethodName := ⟨RX9, "wouldGo", "(II)Z"⟩
abbrev cX9_goesOut : ByteArray := prog_11_method_19_code
def yX9_goesOut : MethodName := ⟨RX9, "goesOut", "(I)V"⟩
abbrev cX9_typesFit : ByteArray := prog_11_method_20_code
def yX9_typesFit : MethodName := ⟨RX9, "typesFit", "(II)Z"⟩
abbrev cX9_pull : ByteArray := prog_11_method_21_code
def yX9_pull : MethodName := ⟨RX9, "pull", "(II)I"⟩
abbrev cX9_holds : ByteArray := prog_11_method_22_code
def yX9_holds : MethodName := ⟨RX9, "holds", "(I)Z"⟩
abbrev cX9_lengthOf : ByteArray := prog_11_method_23_code
def yX9_lengthOf : MethodName := ⟨RX9, "lengthOf", "(I)I"⟩
abbrev cX9_metres : ByteArray := prog_11_method_24_code
def yX9_metres : MethodName := ⟨RX9, "metres", "()I"⟩
abbrev cX9_typeAt : ByteArray := prog_11_method_25_code
def yX9_typeAt : MethodName := ⟨RX9, "typeAt", "(I)I"⟩
abbrev cX9_lastType : ByteArray := prog_11_method_26_code
def yX9_lastType : MethodName := ⟨RX9, "lastType", "()I"⟩
abbrev cX9_puts : ByteArray := prog_11_method_27_code
def yX9_puts : MethodName := ⟨RX9, "puts", "(IIII)V"⟩
abbrev cX9_appends : ByteArray := prog_11_method_28_code
def yX9_appends : MethodName := ⟨RX9, "appends", "()V"⟩
abbrev cX9_lays : ByteArray := prog_11_method_29_code
def yX9_lays : MethodName := ⟨RX9, "lays", "(II)Z"⟩
abbrev cX9_lay : ByteArray := prog_11_method_30_code
def yX9_lay : MethodName := ⟨RX9, "lay", "(III)I"⟩
abbrev cX9_many : ByteArray := prog_11_method_31_code
def yX9_many : MethodName := ⟨RX9, "many", "(I)I"⟩
abbrev cX9_repeater : ByteArray := prog_11_method_32_code
def yX9_repeater : MethodName := ⟨RX9, "repeater", "()I"⟩
abbrev cX9_takeUp : ByteArray := prog_11_method_33_code
def yX9_takeUp : MethodName := ⟨RX9, "takeUp", "(I)I"⟩
abbrev cX9_feed : ByteArray := prog_11_method_34_code
def yX9_feed : MethodName := ⟨RX9, "feed", "(II)V"⟩
abbrev cX9_marginOf : ByteArray := prog_11_method_35_code
def yX9_marginOf : MethodName := ⟨RX9, "marginOf", "()I"⟩
abbrev cX9_drops : ByteArray := prog_11_method_36_code
def yX9_drops : MethodName := ⟨RX9, "drops", "(II)I"⟩
abbrev cX9_feeds : ByteArray := prog_11_method_37_code
def yX9_feeds : MethodName := ⟨RX9, "feeds", "()Z"⟩
abbrev cX9_dropsBehind : ByteArray := prog_11_method_38_code
def yX9_dropsBehind : MethodName := ⟨RX9, "dropsBehind", "(II)I"⟩
abbrev cX9_repeatersUpTo : ByteArray := prog_11_method_39_code
def yX9_repeatersUpTo : MethodName := ⟨RX9, "repeatersUpTo", "(I)I"⟩
abbrev cX9_worksNow : ByteArray := prog_11_method_40_code
def yX9_worksNow : MethodName := ⟨RX9, "worksNow", "()Z"⟩
abbrev cX9_margin : ByteArray := prog_11_method_41_code
def yX9_margin : MethodName := ⟨RX9, "margin", "()I"⟩
abbrev cX9_earth : ByteArray := prog_11_method_42_code
def yX9_earth : MethodName := ⟨RX9, "earth", "()I"⟩
abbrev cX9_isFed : ByteArray := prog_11_method_43_code
def yX9_isFed : MethodName := ⟨RX9, "isFed", "()Z"⟩
abbrev cX9_works : ByteArray := prog_11_method_44_code
def yX9_works : MethodName := ⟨RX9, "works", "()Z"⟩
abbrev cX9_comes : ByteArray := prog_11_method_45_code
def yX9_comes : MethodName := ⟨RX9, "comes", "(II)V"⟩
abbrev cX9_fault : ByteArray := prog_11_method_46_code
def yX9_fault : MethodName := ⟨RX9, "fault", "(II)I"⟩
abbrev cX9_begins : ByteArray := prog_11_method_47_code
def yX9_begins : MethodName := ⟨RX9, "begins", "(I)I"⟩
abbrev cX9_net : ByteArray := prog_11_method_48_code
def yX9_net : MethodName := ⟨RX9, "net", "(I)Z"⟩
abbrev cX9_measure : ByteArray := prog_11_method_49_code
def yX9_measure : MethodName := ⟨RX9, "measure", "(ZZI)I"⟩
abbrev cX9_keeps : ByteArray := prog_11_method_50_code
def yX9_keeps : MethodName := ⟨RX9, "keeps", "(IIII)V"⟩
abbrev cX9_keepsFrom : ByteArray := prog_11_method_51_code
def yX9_keepsFrom : MethodName := ⟨RX9, "keepsFrom", "(IIIZ)V"⟩
abbrev cX9_canMend : ByteArray := prog_11_method_52_code
def yX9_canMend : MethodName := ⟨RX9, "canMend", "(II)Z"⟩
abbrev cX9_mend : ByteArray := prog_11_method_53_code
def yX9_mend : MethodName := ⟨RX9, "mend", "(II)I"⟩
abbrev cX9_mendsFaults : ByteArray := prog_11_method_54_code
def yX9_mendsFaults : MethodName := ⟨RX9, "mendsFaults", "(III)I"⟩
abbrev cX9_isDeadNow : ByteArray := prog_11_method_55_code
def yX9_isDeadNow : MethodName := ⟨RX9, "isDeadNow", "(I)Z"⟩
abbrev cX9_link : ByteArray := prog_11_method_56_code
def yX9_link : MethodName := ⟨RX9, "link", "(III)I"⟩
abbrev cX9_dead : ByteArray := prog_11_method_57_code
def yX9_dead : MethodName := ⟨RX9, "dead", "(IZ)Z"⟩
abbrev cX9_hasFree : ByteArray := prog_11_method_58_code
def yX9_hasFree : MethodName := ⟨RX9, "hasFree", "(II)Z"⟩
abbrev cX9_across : ByteArray := prog_11_method_59_code
def yX9_across : MethodName := ⟨RX9, "across", "(II)I"⟩
abbrev cX9_wayOf : ByteArray := prog_11_method_60_code
def yX9_wayOf : MethodName := ⟨RX9, "wayOf", "(II)I"⟩
abbrev cX9_carries : ByteArray := prog_11_method_61_code
def yX9_carries : MethodName := ⟨RX9, "carries", "(I)V"⟩
abbrev cX9_demand : ByteArray := prog_11_method_62_code
def yX9_demand : MethodName := ⟨RX9, "demand", "(III)I"⟩
abbrev cX9_isCarried : ByteArray := prog_11_method_63_code
def yX9_isCarried : MethodName := ⟨RX9, "isCarried", "(I)Z"⟩
abbrev cX9_restore : ByteArray := prog_11_method_64_code
def yX9_restore : MethodName := ⟨RX9, "restore", "()I"⟩
abbrev cX9_way : ByteArray := prog_11_method_65_code
def yX9_way : MethodName := ⟨RX9, "way", "(I)I"⟩
abbrev cX9_isLit : ByteArray := prog_11_method_66_code
def yX9_isLit : MethodName := ⟨RX9, "isLit", "(I)Z"⟩
abbrev cX9_day : ByteArray := prog_11_method_67_code
def yX9_day : MethodName := ⟨RX9, "day", "()I"⟩
abbrev cX9_waves : ByteArray := prog_11_method_68_code
def yX9_waves : MethodName := ⟨RX9, "waves", "()I"⟩
abbrev cX9_canWork : ByteArray := prog_11_method_69_code
def yX9_canWork : MethodName := ⟨RX9, "canWork", "()Z"⟩
abbrev cX9_cell : ByteArray := prog_11_method_70_code
def yX9_cell : MethodName := ⟨RX9, "cell", "(II)I"⟩
abbrev cX9_tension : ByteArray := prog_11_method_71_code
def yX9_tension : MethodName := ⟨RX9, "tension", "(II)I"⟩
abbrev cX9_tank : ByteArray := prog_11_method_72_code
def yX9_tank : MethodName := ⟨RX9, "tank", "(II)I"⟩
abbrev cX9_line : ByteArray := prog_11_method_73_code
def yX9_line : MethodName := ⟨RX9, "line", "(I)I"⟩
abbrev cX9_thing : ByteArray := prog_11_method_74_code
def yX9_thing : MethodName := ⟨RX9, "thing", "(II)I"⟩
abbrev cX9_metreAt : ByteArray := prog_11_method_75_code
def yX9_metreAt : MethodName := ⟨RX9, "metreAt", "(I)I"⟩
abbrev cX9_metre : ByteArray := prog_11_method_76_code
def yX9_metre : MethodName := ⟨RX9, "metre", "(I)I"⟩
abbrev cX9_metreAnew : ByteArray := prog_11_method_77_code
def yX9_metreAnew : MethodName := ⟨RX9, "metreAnew", "(I)I"⟩
abbrev cX9_ofFault : ByteArray := prog_11_method_78_code
def yX9_ofFault : MethodName := ⟨RX9, "ofFault", "(II)I"⟩
abbrev cX9_faults : ByteArray := prog_11_method_79_code
def yX9_faults : MethodName := ⟨RX9, "faults", "()I"⟩
abbrev cX9_isKept : ByteArray := prog_11_method_80_code
def yX9_isKept : MethodName := ⟨RX9, "isKept", "()Z"⟩
def RJx145de : String := "java/io/Serializable"
def TJx145de : u_T := fun k => match k with
  | _ => ("", "", "", false)
def tyJx145de : Nat → FieldType := fun k => match k with
  | _ => .int
abbrev wsJx145de0 : List Cond := u_ws RJx145de TJx145de 0
theorem nmJx145de : ∀ a, a < 0 → ∀ b, b < 0 → a ≠ b → (TJx145de a).2.1 ≠ (TJx145de b).2.1 := by decide +kernel
theorem tyJx145de_ok : ∀ k, k < 0 → parseFieldDescriptor (TJx145de k).2.2.1 = some (tyJx145de k) := by decide +kernel
def RJx8e188 : String := "java/lang/Cloneable"
def TJx8e188 : u_T := fun k => match k with
  | _ => ("", "", "", false)
def tyJx8e188 : Nat → FieldType := fun k => match k with
  | _ => .int
abbrev wsJx8e1880 : List Cond := u_ws RJx8e188 TJx8e188 0
theorem nmJx8e188 : ∀ a, a < 0 → ∀ b, b < 0 → a ≠ b → (TJx8e188 a).2.1 ≠ (TJx8e188 b).2.1 := by decide +kernel
theorem tyJx8e188_ok : ∀ k, k < 0 → parseFieldDescriptor (TJx8e188 k).2.2.1 = some (tyJx8e188 k) := by decide +kernel
def RJ9 : String := "java/lang/Math"
def TJ9 : u_T := fun k => match k with
  | _ => ("", "", "", false)
def tyJ9 : Nat → FieldType := fun k => match k with
  | _ => .int
abbrev wsJ90 : List Cond := u_ws RJ9 TJ9 0
theorem nmJ9 : ∀ a, a < 0 → ∀ b, b < 0 → a ≠ b → (TJ9 a).2.1 ≠ (TJ9 b).2.1 := by decide +kernel
theorem tyJ9_ok : ∀ k, k < 0 → parseFieldDescriptor (TJ9 k).2.2.1 = some (tyJ9 k) := by decide +kernel
abbrev cJ9_abs_0f7a4 : ByteArray := prog_17_method_59_code
def yJ9_abs_0f7a4 : MethodName := ⟨RJ9, "abs", "(I)I"⟩
abbrev cJ9_max_7cf53 : ByteArray := prog_17_method_65_code
def yJ9_max_7cf53 : MethodName := ⟨RJ9, "max", "(II)I"⟩
abbrev cJ9_min_7cf53 : ByteArray := prog_17_method_69_code
def yJ9_min_7cf53 : MethodName := ⟨RJ9, "min", "(II)I"⟩
def RJ0 : String := "java/lang/String"
def TJ0 : u_T := fun k => match k with
  | _ => ("", "", "", false)
def tyJ0 : Nat → FieldType := fun k => match k with
  | _ => .int
abbrev wsJ00 : List Cond := u_ws RJ0 TJ0 0
theorem nmJ0 : ∀ a, a < 0 → ∀ b, b < 0 → a ≠ b → (TJ0 a).2.1 ≠ (TJ0 b).2.1 := by decide +kernel
theorem tyJ0_ok : ∀ k, k < 0 → parseFieldDescriptor (TJ0 k).2.2.1 = some (tyJ0 k) := by decide +kernel
def RJ10 : String := "java/lang/System"
def TJ10 : u_T := fun k => match k with
  | _ => ("", "", "", false)
def tyJ10 : Nat → FieldType := fun k => match k with
  | _ => .int
abbrev wsJ100 : List Cond := u_ws RJ10 TJ10 0
theorem nmJ10 : ∀ a, a < 0 → ∀ b, b < 0 → a ≠ b → (TJ10 a).2.1 ≠ (TJ10 b).2.1 := by decide +kernel
theorem tyJ10_ok : ∀ k, k < 0 → parseFieldDescriptor (TJ10 k).2.2.1 = some (tyJ10 k) := by decide +kernel
def RJ7 : String := "java/util/Arrays"
def TJ7 : u_T := fun k => match k with
  | _ => ("", "", "", false)
def tyJ7 : Nat → FieldType := fun k => match k with
  | _ => .int
abbrev wsJ70 : List Cond := u_ws RJ7 TJ7 0
theorem nmJ7 : ∀ a, a < 0 → ∀ b, b < 0 → a ≠ b → (TJ7 a).2.1 ≠ (TJ7 b).2.1 := by decide +kernel
theorem tyJ7_ok : ∀ k, k < 0 → parseFieldDescriptor (TJ7 k).2.2.1 = some (tyJ7 k) := by decide +kernel
abbrev cJ7_fill_53178 : ByteArray := prog_22_method_103_code
def yJ7_fill_53178 : MethodName := ⟨RJ7, "fill", "([II)V"⟩
abbrev cJ7_copyOf_59c91 : ByteArray := prog_22_method_123_code
def yJ7_copyOf_59c91 : MethodName := ⟨RJ7, "copyOf", "([II)[I"⟩
def RL : String := "CableShipLaw"
abbrev cL_sound : ByteArray := method_3_code
def yL_sound : MethodName := ⟨RL, "sound", "(LCableShip;III[J)I"⟩
abbrev cL_wreck : ByteArray := method_4_code
def yL_wreck : MethodName := ⟨RL, "wreck", "(LCableShip;IZ[J)I"⟩
abbrev cL_crossing : ByteArray := method_5_code
def yL_crossing : MethodName := ⟨RL, "crossing", "(LCableShip;II[J)I"⟩
abbrev cL_weather : ByteArray := method_6_code
def yL_weather : MethodName := ⟨RL, "weather", "(LCableShip;I[J)I"⟩
abbrev cL_pass : ByteArray := method_7_code
def yL_pass : MethodName := ⟨RL, "pass", "(LCableShip;I[J)I"⟩
abbrev cL_make : ByteArray := method_8_code
def yL_make : MethodName := ⟨RL, "make", "(LCableShip;III[J)I"⟩
abbrev cL_lay : ByteArray := method_9_code
def yL_lay : MethodName := ⟨RL, "lay", "(LCableShip;III[J)I"⟩
abbrev cL_repeater : ByteArray := method_10_code
def yL_repeater : MethodName := ⟨RL, "repeater", "(LCableShip;[J)I"⟩
abbrev cL_takeUp : ByteArray := method_11_code
def yL_takeUp : MethodName := ⟨RL, "takeUp", "(LCableShip;I[J)I"⟩
abbrev cL_feed : ByteArray := method_12_code
def yL_feed : MethodName := ⟨RL, "feed", "(LCableShip;II)I"⟩
abbrev cL_fault : ByteArray := method_13_code
def yL_fault : MethodName := ⟨RL, "fault", "(LCableShip;II[J)I"⟩
abbrev cL_net : ByteArray := method_14_code
def yL_net : MethodName := ⟨RL, "net", "(LCableShip;I[J)I"⟩
abbrev cL_measure : ByteArray := method_15_code
def yL_measure : MethodName := ⟨RL, "measure", "(LCableShip;ZZI[J)I"⟩
abbrev cL_mend : ByteArray := method_16_code
def yL_mend : MethodName := ⟨RL, "mend", "(LCableShip;II[J)I"⟩
abbrev cL_link : ByteArray := method_17_code
def yL_link : MethodName := ⟨RL, "link", "(LCableShip;III[J)I"⟩
abbrev cL_dead : ByteArray := method_18_code
def yL_dead : MethodName := ⟨RL, "dead", "(LCableShip;IZ[J)I"⟩
abbrev cL_demand : ByteArray := method_19_code
def yL_demand : MethodName := ⟨RL, "demand", "(LCableShip;III[J)I"⟩
abbrev cL_way : ByteArray := method_20_code
def yL_way : MethodName := ⟨RL, "way", "(LCableShip;I[J)I"⟩
abbrev cL_isLit : ByteArray := method_21_code
def yL_isLit : MethodName := ⟨RL, "isLit", "(LCableShip;I[J)I"⟩
abbrev cL_cell : ByteArray := method_22_code
def yL_cell : MethodName := ⟨RL, "cell", "(LCableShip;II[J)I"⟩
abbrev cL_tension : ByteArray := method_23_code
def yL_tension : MethodName := ⟨RL, "tension", "(LCableShip;II[J)I"⟩
abbrev cL_tank : ByteArray := method_24_code
def yL_tank : MethodName := ⟨RL, "tank", "(LCableShip;II[J)I"⟩
abbrev cL_line : ByteArray := method_25_code
def yL_line : MethodName := ⟨RL, "line", "(LCableShip;I[J)I"⟩
abbrev cL_thing : ByteArray := method_26_code
def yL_thing : MethodName := ⟨RL, "thing", "(LCableShip;II[J)I"⟩
abbrev cL_metre : ByteArray := method_27_code
def yL_metre : MethodName := ⟨RL, "metre", "(LCableShip;I[J)I"⟩
abbrev cL_metreAnew : ByteArray := method_28_code
def yL_metreAnew : MethodName := ⟨RL, "metreAnew", "(LCableShip;I[J)I"⟩
abbrev cL_ofFault : ByteArray := method_29_code
def yL_ofFault : MethodName := ⟨RL, "ofFault", "(LCableShip;II[J)I"⟩
abbrev cL_law : ByteArray := code
def yL_law : MethodName := ⟨RL, "law", "([I)Z"⟩
theorem wsL_law_x0 : ∀ w ∈ (vx_atS RX8 373 "java/lang/IllegalArgumentException" ["java/lang/RuntimeException", "java/lang/Exception"]).filter goodWord, w ∈ lw_tbl := by decide +kernel
theorem wsL_law_x1 : ∀ w ∈ (vx_atS RX8 380 "java/lang/IllegalStateException" ["java/lang/RuntimeException", "java/lang/Exception"]).filter goodWord, w ∈ lw_tbl := by decide +kernel
theorem wsL_law_x2 : ∀ w ∈ (vx_atS RX8 385 "java/lang/IndexOutOfBoundsException" ["java/lang/RuntimeException", "java/lang/Exception"]).filter goodWord, w ∈ lw_tbl := by decide +kernel
abbrev vwCl : List vw_C := [(RX0, TX0, 3), (RX1, TX1, 1), (RX2, TX2, 1), (RX3, TX3, 5), (RX4, TX4, 3), (RX5, TX5, 5), (RX6, TX6, 4), (RX7, TX7, 2), (RX8, TX8, 12), (RX9, TX9, 54)]
end
section
/-! THE PURE PICTURE OF THE MACHINE: a heap of cells at places 0, 1, 2 ..; locals and operands hold places, not addresses; unknown or dropped references are null -/
abbrev mm_E : Type := (FieldType × vp_A) ⊕ (Nat × List Value)
abbrev mm_H : Type := (Nat → Option mm_E) × Nat × Nat × Nat
abbrev mm_R : Type := Option Value ⊕ String
abbrev mm_M : Type := MethodName × ByteArray × Nat × Option FieldType × List (Nat × Nat × Nat × Nat) × Nat × Nat
abbrev mm_A : Type := FieldType → ClassId
/-- the class numbers; the class numbers of arrays; where the three texts lie; the script: its address, length and ints -/
abbrev mm_G : Type := va_G × mm_A × (Nat × Nat × Nat) × (Nat × Nat × (Nat → Int32))
def mm_tys (cA : mm_A) : List (ClassId × FieldType) := [(cA .int, .int), (cA .boolean, .boolean), (cA .long, .long)]
def mm_v (ws : va_W) (v V : Value) : Prop := match v with
  | .ref k => ∃ q : Nat × va_E, ws[k]? = some q ∧ V = .ref q.1
  | .null => V.category = 1
  | .retAddr u => V = .ref u
  | .float _ => ∃ q : Nat, V = .ref q
  | v => V = v
def mm_e (cA : mm_A) (ws : va_W) (e : mm_E) (E : va_E) : Prop := match e with
  | .inl a => E = .inl (cA a.1, a.2)
  | .inr o => ∃ fs : List Value, E = .inr (o.1, fs) ∧ fs.length = o.2.length ∧ ∀ (k : Nat) (v : Value), o.2[k]? = some v → ∃ V, fs[k]? = some V ∧ mm_v ws v V
def mm_h (cA : mm_A) (h : mm_H) (ws : va_W) : Prop := ws.length = h.2.1 ∧ ∀ (k : Nat) (e : mm_E), h.1 k = some e → ∃ q, ws[k]? = some q ∧ mm_e cA ws e q.2
def mm_s (ws : va_W) : List Value → List Value → Prop
  | [], L => L = []
  | v :: l, L => ∃ V L', L = V :: L' ∧ mm_v ws v V ∧ mm_s ws l L'
def mm_l (ws : va_W) (ls : List Value) (L : Array Slot) : Prop := lv_wf L ∧ L.size = ls.length ∧ ∀ (k : Nat) (v : Value), ls[k]? = some v → v.category = 1 → v ≠ .null → ∃ V, L[k]? = some (.val V) ∧ mm_v ws v V ∧ V.category = 1
def mm_k (ws ws' : va_W) : Prop := ∀ (k : Nat) (q : Nat × va_E), ws[k]? = some q → ∃ q', ws'[k]? = some q' ∧ q'.1 = q.1
def mm_set (h : mm_H) (k : Nat) (e : mm_E) : mm_H := (fun j => if j = k then some e else h.1 j, h.2)
def mm_new (h : mm_H) (e : mm_E) (n : Nat) : mm_H := (fun j => if j = h.2.1 then some e else h.1 j, h.2.1 + 1, h.2.2.1 + 1, h.2.2.2 + n)
theorem mm_k.refl (ws : va_W) : mm_k ws ws := fun _ q h => ⟨q, h, rfl⟩
theorem mm_k.trans {a b c : va_W} (h : mm_k a b) (g : mm_k b c) : mm_k a c := fun k q hq => by
  obtain ⟨q1, h1, e1⟩ := h k q hq
  obtain ⟨q2, h2, e2⟩ := g k q1 h1
  exact ⟨q2, h2, e2.trans e1⟩
theorem mm_k.set {ws : va_W} {k a : Nat} {E0 E : va_E} (h : ws[k]? = some (a, E0)) : mm_k ws (ws.set k (a, E)) := fun j q hq => by
  by_cases hj : k = j
  · subst hj
    rw [h] at hq
    cases hq
    exact ⟨(a, E), by rw [List.getElem?_set_self (List.getElem?_eq_some_iff.mp h).1], rfl⟩
  · exact ⟨q, by rw [List.getElem?_set_ne hj]; exact hq, rfl⟩
theorem mm_k.push (ws : va_W) (q : Nat × va_E) : mm_k ws (ws ++ [q]) := fun j r hr => ⟨r, by rw [List.getElem?_append_left (List.getElem?_eq_some_iff.mp hr).1]; exact hr, rfl⟩
theorem mm_v.mono {ws ws' : va_W} (hk : mm_k ws ws') {v V : Value} (h : mm_v ws v V) : mm_v ws' v V := by
  cases v with
  | ref k =>
    obtain ⟨q, h1, h2⟩ := h
    obtain ⟨q', h3, h4⟩ := hk k q h1
    exact ⟨q', h3, by rw [h4]; exact h2⟩
  | _ => exact h
theorem mm_e.mono {cA : mm_A} {ws ws' : va_W} (hk : mm_k ws ws') {e : mm_E} {E : va_E} (h : mm_e cA ws e E) : mm_e cA ws' e E := by
  cases e with
  | inl a => exact h
  | inr o =>
    obtain ⟨fs, h1, h2, h3⟩ := h
    refine ⟨fs, h1, h2, fun k v hv => ?_⟩
    obtain ⟨V, h4, h5⟩ := h3 k v hv
    exact ⟨V, h4, h5.mono hk⟩
theorem mm_s.mono {ws ws' : va_W} (hk : mm_k ws ws') : ∀ {l L : List Value}, mm_s ws l L → mm_s ws' l L
  | [], _, h => h
  | _ :: _, _, ⟨V, L', h1, h2, h3⟩ => ⟨V, L', h1, h2.mono hk, mm_s.mono hk h3⟩
theorem mm_l.mono {ws ws' : va_W} (hk : mm_k ws ws') {ls : List Value} {L : Array Slot} (h : mm_l ws ls L) : mm_l ws' ls L :=
  ⟨h.1, h.2.1, fun k v h1 h2 h3 => by
    obtain ⟨V, a, b, c⟩ := h.2.2 k v h1 h2 h3
    exact ⟨V, a, b.mono hk, c⟩⟩
theorem mm_h.set {cA : mm_A} {h : mm_H} {ws : va_W} {k a : Nat} {e : mm_E} {E0 E : va_E} (hh : mm_h cA h ws) (hw : ws[k]? = some (a, E0)) (he : mm_e cA ws e E) : mm_h cA (mm_set h k e) (ws.set k (a, E)) := by
  have hl := (List.getElem?_eq_some_iff.mp hw).1
  refine ⟨by rw [List.length_set]; exact hh.1, fun j e' hj => ?_⟩
  by_cases hjk : j = k
  · subst hjk
    simp only [mm_set, if_pos rfl] at hj
    cases hj
    exact ⟨(a, E), by rw [List.getElem?_set_self hl], he.mono (mm_k.set hw)⟩
  · simp only [mm_set, if_neg hjk] at hj
    obtain ⟨q, h1, h2⟩ := hh.2 j e' hj
    exact ⟨q, by rw [List.getElem?_set_ne (Ne.symm hjk)]; exact h1, h2.mono (mm_k.set hw)⟩
theorem mm_h.push {cA : mm_A} {h : mm_H} {ws : va_W} {a n : Nat} {e : mm_E} {E : va_E} (hh : mm_h cA h ws) (he : mm_e cA ws e E) : mm_h cA (mm_new h e n) (ws ++ [(a, E)]) := by
  refine ⟨by rw [List.length_append]; show ws.length + 1 = h.2.1 + 1; rw [hh.1], fun j e' hj => ?_⟩
  by_cases hjk : j = h.2.1
  · subst hjk
    simp only [mm_new, if_pos rfl] at hj
    cases hj
    exact ⟨(a, E), by rw [← hh.1, List.getElem?_append_right (Nat.le_refl _), Nat.sub_self]; rfl, he.mono (mm_k.push ws _)⟩
  · simp only [mm_new, if_neg hjk] at hj
    obtain ⟨q, h1, h2⟩ := hh.2 j e' hj
    exact ⟨q, by rw [List.getElem?_append_left (List.getElem?_eq_some_iff.mp h1).1]; exact h1, h2.mono (mm_k.push ws _)⟩
theorem mm_v.cat {ws : va_W} {v V : Value} (h : mm_v ws v V) : V.category = v.category := by
  cases v with
  | ref k => obtain ⟨q, -, h2⟩ := h; rw [h2]; rfl
  | null => exact h
  | retAddr u => rw [show V = _ from h]; rfl
  | float u => obtain ⟨q, h1⟩ := h; rw [h1]; rfl
  | _ => rw [show V = _ from h]
theorem mm_s.cat {ws : va_W} : ∀ {l L : List Value}, mm_s ws l L → (L.map fun v => v.category).sum = (l.map fun v => v.category).sum
  | [], _, h => by rw [show _ = [] from h]
  | _ :: _, _, ⟨V, L', h1, h2, h3⟩ => by
    rw [h1]
    simp only [List.map_cons, List.sum_cons]
    rw [h2.cat, mm_s.cat h3]
theorem mm_s.app {ws : va_W} : ∀ {a b L : List Value}, mm_s ws (a ++ b) L → ∃ A B, L = A ++ B ∧ mm_s ws a A ∧ mm_s ws b B ∧ A.length = a.length
  | [], b, L, h => ⟨[], L, rfl, rfl, h, rfl⟩
  | v :: a, b, L, ⟨V, L', h1, h2, h3⟩ => by
    obtain ⟨A, B, e1, e2, e3, e4⟩ := mm_s.app h3
    exact ⟨V :: A, B, by rw [h1, e1]; rfl, ⟨V, A, rfl, h2, e2⟩, e3, by simp [e4]⟩
theorem mm_s.join {ws : va_W} : ∀ {a b A B : List Value}, mm_s ws a A → mm_s ws b B → mm_s ws (a ++ b) (A ++ B)
  | [], b, A, B, h1, h2 => by rw [show A = [] from h1]; exact h2
  | v :: a, b, A, B, ⟨V, L', h1, h2, h3⟩, h4 => ⟨V, L' ++ B, by rw [h1]; rfl, h2, mm_s.join h3 h4⟩
theorem mm_s.rev {ws : va_W} : ∀ {a A : List Value}, mm_s ws a A → mm_s ws a.reverse A.reverse
  | [], A, h => by rw [show A = [] from h]; exact rfl
  | v :: a, A, ⟨V, L', h1, h2, h3⟩ => by
    rw [h1, List.reverse_cons, List.reverse_cons]
    exact (mm_s.rev h3).join ⟨V, [], rfl, h2, rfl⟩
theorem mm_s.len {ws : va_W} : ∀ {a A : List Value}, mm_s ws a A → A.length = a.length
  | [], A, h => by rw [show A = [] from h]
  | v :: a, A, ⟨V, L', h1, h2, h3⟩ => by rw [h1, List.length_cons, List.length_cons, mm_s.len h3]
theorem mm_s.int {ws : va_W} {x : Int32} {l L : List Value} (h : mm_s ws (.int x :: l) L) : ∃ L', L = .int x :: L' ∧ mm_s ws l L' := by
  obtain ⟨V, L', h1, h2, h3⟩ := h
  rw [show V = .int x from h2] at h1
  exact ⟨L', h1, h3⟩
theorem mm_s.long {ws : va_W} {x : Int64} {l L : List Value} (h : mm_s ws (.long x :: l) L) : ∃ L', L = .long x :: L' ∧ mm_s ws l L' := by
  obtain ⟨V, L', h1, h2, h3⟩ := h
  rw [show V = .long x from h2] at h1
  exact ⟨L', h1, h3⟩
theorem mm_s.ref {ws : va_W} {k : Nat} {l L : List Value} (h : mm_s ws (.ref k :: l) L) : ∃ a E L', ws[k]? = some (a, E) ∧ L = .ref a :: L' ∧ mm_s ws l L' := by
  obtain ⟨V, L', h1, ⟨q, h2, h4⟩, h3⟩ := h
  exact ⟨q.1, q.2, L', h2, by rw [h1, h4], h3⟩
theorem mm_s.pi {ws : va_W} {x : Int32} {l L : List Value} (h : mm_s ws l L) : mm_s ws (.int x :: l) (.int x :: L) := ⟨_, _, rfl, rfl, h⟩
theorem mm_s.pl {ws : va_W} {x : Int64} {l L : List Value} (h : mm_s ws l L) : mm_s ws (.long x :: l) (.long x :: L) := ⟨_, _, rfl, rfl, h⟩
theorem mm_s.pr {ws : va_W} {k a : Nat} {E : va_E} {l L : List Value} (hk : ws[k]? = some (a, E)) (h : mm_s ws l L) : mm_s ws (.ref k :: l) (.ref a :: L) := ⟨_, _, rfl, ⟨_, hk, rfl⟩, h⟩
def mm_isN (w : Cond) : Bool := match w with
  | .methodLinkNest .. => true
  | .castable .. => true
  | .declares .. => true
  | _ => false
def mm_N : List Cond := lw_tbl.filter mm_isN
theorem mm_N_warm {s U : State} (hW : s.WarmedH U.vm) {w : Cond} (hw : w ∈ mm_N) (h : va_Nw w s) : va_Nw w U := by
  have h1 := (List.mem_filter.mp hw).2
  cases w <;> first | exact va_Nw.warmM hW h | exact va_Nw.warmC hW h | exact va_Nw.warmD hW h | (simp [mm_isN] at h1)
theorem mm_N_tab {w : Cond} (hw : w ∈ mm_N) : w.onTables = true := by
  have h1 := (List.mem_filter.mp hw).2
  cases w <;> first | rfl | (simp [mm_isN] at h1)
/-- what the tables say, good for every method -/
def mm_V (G : mm_G) (s : State) : Prop := va_K G.1 vwCl (mm_tys G.2.1) s ∧ vk_R RX8 371 "an argument is out of its range" G.2.2.1.1 s ∧ vk_R RX8 378 "this cannot be done now" G.2.2.1.2.1 s ∧ vk_R RX8 383 "there is none of this number" G.2.2.1.2.2 s ∧ va_Nc "java/lang/IllegalStateException" "java/lang/IllegalArgumentException" s ∧ va_Nc "java/lang/IllegalArgumentException" "java/lang/IndexOutOfBoundsException" s ∧ ∀ w ∈ mm_N, va_Nw w s
theorem mm_V.warm {G : mm_G} {s U : State} (hW : s.WarmedH U.vm) (h : mm_V G s) : mm_V G U :=
  ⟨h.1.moved hW.alike, h.2.1.warm hW, h.2.2.1.warm hW, h.2.2.2.1.warm hW, h.2.2.2.2.1.moved hW.alike, h.2.2.2.2.2.1.moved hW.alike, fun w hw => mm_N_warm hW hw (h.2.2.2.2.2.2 w hw)⟩
def mm_W : List Cond := lw_tbl.filter goodWord
def mm_ws (M : mm_M) : List Cond := .code M.1 M.2.1 M.2.2.1 M.2.2.2.1 :: mm_W
def mm_wsH (M : mm_M) : List Cond := .codeWith M.1 M.2.1 M.2.2.1 M.2.2.2.1 M.2.2.2.2.1 :: mm_W
def mm_wsx (M : mm_M) : List Cond := match M.2.2.2.2.1 with
  | [] => mm_ws M
  | _ => mm_wsH M
abbrev mm_Z1 (A : Nat → Prop) (s : State) : Prop := vx_Zq Bundle.tN "UNASSIGNED_STACK" Bundle.steD A s s.heap ∧ vx_Zq Bundle.tN "SUPPRESSED_SENTINEL" Bundle.listD A s s.heap
/-- what holds of the machine in a method's body -/
def mm_X (G : mm_G) (M : mm_M) (p : Program) (R : Room) (s : State) (m : MethodId) (args : Array Value) (meth : Method) (c : Code) (A : Nat → Prop) : Prop :=
  p.tables.exec = Jvm.exec ∧ c.code = M.2.1 ∧ c.maxLocals = M.2.2.1 ∧ (∀ w ∈ mm_W, w.before args s = true) ∧ s.vm.findClass M.1.cls = some m.cls ∧ mm_V G s ∧ (∀ q, s.heap.size ≤ q → A q) ∧ mm_Z1 A s ∧ R.frames = M.2.2.2.2.2.1 ∧ R.locals = M.2.2.2.2.2.2 ∧ (¬ M.1.name = "law" → c.exceptionTable.toList = tableOf M.2.2.2.2.1 ∧ meth.name = M.1.name) ∧ (M.1.name = "law" → va_X G.2.2.2.1 G.2.2.2.2.1 G.2.2.2.2.2 s s.heap ∧ G.2.2.2.1 < s.heap.size ∧ ¬ A G.2.2.2.1)
/-- how the pure heap h stands for the cells H; h' is the heap at the end -/
def mm_S (G : mm_G) (R : Room) (s : State) (A : Nat → Prop) (ws0 : va_W) (h h' : mm_H) (ws : va_W) (H : Heap) (locs : List Loc) (cells slots : Nat) : Prop :=
  va_P G.1 vwCl ws H ∧ va_D A ws ∧ va_S A s.heap H locs ∧ mm_h G.2.1 h ws ∧ mm_k ws0 ws ∧ cells + h'.2.2.1 ≤ R.cells + h.2.2.1 ∧ slots + h'.2.2.2 ≤ R.slots + h.2.2.2
abbrev mm_chain : List String := ["java/lang/RuntimeException", "java/lang/Exception"]
/-- at pc the method M makes an exception of the class cls and throws it -/
def mm_Th (G : mm_G) (M : mm_M) (pc : Nat) (cls : String) : Prop := ∃ (ik is ic : Nat) (text : String) (sa : Nat),
  decode M.2.1 pc = .ok (.new ik, 3) ∧ decode M.2.1 (pc + 3) = .ok (.dup, 1) ∧ decode M.2.1 (pc + 4) = .ok (.ldc_w is, 3) ∧ decode M.2.1 (pc + 7) = .ok (.invokespecial ic, 3) ∧ decode M.2.1 (pc + 10) = .ok (.athrow, 1) ∧
  Bundle.fit cls = true ∧ Cond.classLink M.1.cls ik cls ∈ mm_W ∧ Cond.initialized cls ∈ mm_W ∧ (∀ w ∈ (vx_atS M.1.cls ic cls mm_chain).filter goodWord, w ∈ mm_W) ∧ (∀ w ∈ (vx_atS M.1.cls ic cls mm_chain).filter (fun w => !goodWord w), w ∈ mm_N) ∧ (∀ w ∈ Cond.classLink M.1.cls ik cls :: Cond.initialized cls :: vx_atS M.1.cls ic cls mm_chain, vx_ot w = true) ∧
  (∀ s : State, mm_V G s → vk_R M.1.cls is text sa s) ∧ M.2.2.2.2.1 = [] ∧ 5 < M.2.2.2.2.2.1 ∧ 82 ≤ M.2.2.2.2.2.2
/-- what the ends of a method's body must come to -/
def mm_F (G : mm_G) (M : mm_M) (p : Program) (l : Launch) (e : Env) (R : Room) (s : State) (m : MethodId) (args : Array Value) (below : List Frame) (meth : Method) (c : Code) (A : Nat → Prop) (ws0 : va_W) (r : mm_R) (h' : mm_H) (Z : State → Prop) : Prop :=
  (∀ (ws : va_W) (H : Heap) (locs : List Loc) (cells slots : Nat) (L : Array Slot), mm_S G R s A ws0 h' h' ws H locs cells slots →
    (∀ (x : Int32) (pc : Nat), r = .inl (some (.int x)) → (∃ ty, M.2.2.2.1 = some ty ∧ narrow ty (.int x) = .int x) → decode M.2.1 pc = .ok (.ireturn, 1) → W p l e R s m args below meth c H locs cells slots Z (F0 m pc L [.int x])) ∧
    (∀ (k a : Nat) (E : va_E) (pc : Nat), r = .inl (some (.ref k)) → ws[k]? = some (a, E) → (∃ t, M.2.2.2.1 = some (.array t)) → decode M.2.1 pc = .ok (.areturn, 1) → W p l e R s m args below meth c H locs cells slots Z (F0 m pc L [.ref a])) ∧
    (∀ (pc : Nat), r = .inl none → M.2.2.2.1 = none → decode M.2.1 pc = .ok (.return_, 1) → W p l e R s m args below meth c H locs cells slots Z (F0 m pc L [])) ∧
    (∀ (E : String) (pc : Nat) (rest : List Value) (q : Addr) (ce : Cell), r = .inr E → M.2.2.2.2.1 = [] → H[q]? = some ce → ce.vm = .none → s.vm.findClass E = some ce.cls → vx_W p l e R s m args below meth c H locs cells slots Z (F0 m pc L rest) q)) ∧
  (∀ (E : String) (pc : Nat) (h : mm_H) (ws : va_W) (H : Heap) (locs : List Loc) (cells slots : Nat) (L : Array Slot), l.stackTraces = false → r = .inr E → h' = (h.1, h.2.1, h.2.2.1 + 1, h.2.2.2 + 6) → mm_Th G M pc E → mm_S G R s A ws0 h h' ws H locs cells slots → L.size = c.maxLocals → W p l e R s m args below meth c H locs cells slots Z (F0 m pc L []))
/-- from the place pc of the method M, with these locals, operands and heap, M comes to the end r with the heap h' -/
def mm_Go (l : Launch) (G : mm_G) (M : mm_M) (r : mm_R) (h' : mm_H) (pc : Nat) (ls st : List Value) (h : mm_H) : Prop :=
  h.2.2.1 ≤ h'.2.2.1 ∧ h.2.2.2 ≤ h'.2.2.2 ∧
  ∀ (p : Program) (e : Env) (R : Room) (s : State) (m : MethodId) (args : Array Value) (below : List Frame) (meth : Method) (c : Code) (A : Nat → Prop) (ws0 : va_W) (Z : State → Prop),
    mm_X G M p R s m args meth c A → mm_F G M p l e R s m args below meth c A ws0 r h' Z →
    ∀ (ws : va_W) (H : Heap) (locs : List Loc) (cells slots : Nat) (L : Array Slot) (stC : List Value),
      mm_S G R s A ws0 h h' ws H locs cells slots → mm_l ws ls L → ls.length = M.2.2.1 → mm_s ws st stC → W p l e R s m args below meth c H locs cells slots Z (F0 m pc L stC)
/-- what a caller may take of the method M: on these arguments and this heap it ends as r, with the heap h' -/
def mm_P (G : mm_G) (ws0 : va_W) (sz : Nat) : State → Prop := fun U => U.heap.size = sz ∧ va_P G.1 vwCl ws0 U.heap ∧ va_D (fun _ => True) ws0 ∧ mm_V G U ∧ mm_Z1 (va_A ws0 sz) U
def mm_o (ws : va_W) (v V : Option Value) : Prop := match v with
  | none => V = none
  | some v => ∃ W, V = some W ∧ mm_v ws v W
def mm_Q (G : mm_G) (ws0 : va_W) (sz : Nat) (r : mm_R) (h' : mm_H) : Array Value → State → Outcome → State → Prop := fun _ st oc t =>
  (∃ (v V : Option Value) (ws : va_W), r = .inl v ∧ oc = .returned V ∧ mm_o ws v V ∧ mm_k ws0 ws ∧ va_P G.1 vwCl ws t.heap ∧ va_D (va_A ws0 sz) ws ∧ mm_h G.2.1 h' ws) ∧ va_F (va_A ws0 sz) st t
def mm_XC (G : mm_G) (ws0 : va_W) (sz : Nat) (r : mm_R) (h' : mm_H) : String → State → State → Prop := fun E st t =>
  (∃ ws : va_W, r = .inr E ∧ mm_k ws0 ws ∧ va_P G.1 vwCl ws t.heap ∧ va_D (va_A ws0 sz) ws ∧ mm_h G.2.1 h' ws) ∧ va_F (va_A ws0 sz) st t
def mm_rm (M : mm_M) (h h' : mm_H) : Room := { frames := M.2.2.2.2.2.1, cells := h'.2.2.1 - h.2.2.1, slots := h'.2.2.2 - h.2.2.2, locals := M.2.2.2.2.2.2 }
def mm_Met (l : Launch) (G : mm_G) (M : mm_M) (as : List Value) (h : mm_H) (r : mm_R) (h' : mm_H) : Prop :=
  h.2.2.1 ≤ h'.2.2.1 ∧ h.2.2.2 ≤ h'.2.2.2 ∧ ∀ (ws0 : va_W) (sz : Nat) (asC : List Value), mm_h G.2.1 h ws0 → mm_s ws0 as asC →
    vx_Met l M.1 (mm_wsx M) (mm_rm M h h') (va_Pc asC (mm_P G ws0 sz)) (mm_Q G ws0 sz r h') (mm_XC G ws0 sz r h') (h'.2.2.1 - h.2.2.1) (h'.2.2.2 - h.2.2.2) (va_A ws0 sz)
end
section
/-- existential form: the method comes to some end with Q -/
def mm_Ex (l : Launch) (G : mm_G) (M : mm_M) (Q : mm_R → mm_H → Prop) (pc : Nat) (ls st : List Value) (h : mm_H) : Prop := ∃ r h', mm_Go l G M r h' pc ls st h ∧ Q r h'
def mm_Ct (l : Launch) (G : mm_G) (M : mm_M) (as : List Value) (h : mm_H) (Q : mm_R → mm_H → Prop) : Prop := ∃ r h', mm_Met l G M as h r h' ∧ Q r h'
section MMR
variable {l : Launch} {G : mm_G} {M : mm_M} {Q : mm_R → mm_H → Prop} {pc pc' : Nat} {ls st st' : List Value} {h : mm_H}
theorem mm_ex1 (k : mm_Ex l G M Q pc' ls st' h) (F : ∀ (p : Program) (e : Env) (R : Room) (s : State) (m : MethodId) (args : Array Value) (below : List Frame) (meth : Method) (c : Code) (A : Nat → Prop) (Z : State → Prop) (ws : va_W) (H : Heap) (locs : List Loc) (cells slots : Nat) (L : Array Slot) (stC : List Value),
    mm_X G M p R s m args meth c A → mm_l ws ls L → mm_s ws st stC → ∃ stC', mm_s ws st' stC' ∧ (W p l e R s m args below meth c H locs cells slots Z (F0 m pc' L stC') → W p l e R s m args below meth c H locs cells slots Z (F0 m pc L stC))) : mm_Ex l G M Q pc ls st h := by
  obtain ⟨r, h', ⟨k1, k2, k3⟩, q⟩ := k
  refine ⟨r, h', ⟨k1, k2, fun p e R s m args below meth c A ws0 Z X F0 ws H locs cells slots L stC hS hl hn hs => ?_⟩, q⟩
  obtain ⟨stC', h1, h2⟩ := F p e R s m args below meth c A Z ws H locs cells slots L stC X hl hs
  exact h2 (k3 p e R s m args below meth c A ws0 Z X F0 ws H locs cells slots L stC' hS hl hn h1)
theorem ex_iconst {n : Int} {v : Int32} (hd : decode M.2.1 pc = .ok (.iconst n, 1)) (hv : Int32.ofInt n = v) (k : mm_Ex l G M Q (pc + 1) ls (.int v :: st) h) : mm_Ex l G M Q pc ls st h :=
  mm_ex1 k (fun p e R s m args below meth c A Z ws H locs cells slots L stC X hl hs => ⟨_, hs.pi, fun w => lv_iconst X.1 X.2.1 hd hv w⟩)
theorem ex_bipush {n : Int} {v : Int32} (hd : decode M.2.1 pc = .ok (.bipush n, 2)) (hv : (Int8.ofInt n).toInt32 = v) (k : mm_Ex l G M Q (pc + 2) ls (.int v :: st) h) : mm_Ex l G M Q pc ls st h :=
  mm_ex1 k (fun p e R s m args below meth c A Z ws H locs cells slots L stC X hl hs => ⟨_, hs.pi, fun w => lv_bipush X.1 X.2.1 hd hv w⟩)
theorem ex_sipush {n : Int} {v : Int32} (hd : decode M.2.1 pc = .ok (.sipush n, 3)) (hv : (Int16.ofInt n).toInt32 = v) (k : mm_Ex l G M Q (pc + 3) ls (.int v :: st) h) : mm_Ex l G M Q pc ls st h :=
  mm_ex1 k (fun p e R s m args below meth c A Z ws H locs cells slots L stC X hl hs => ⟨_, hs.pi, fun w => lv_sipush X.1 X.2.1 hd hv w⟩)
theorem ex_lconst {n : Fin 2} {v : Int64} (hd : decode M.2.1 pc = .ok (.lconst n, 1)) (hv : Int64.ofNat (n : Nat) = v) (k : mm_Ex l G M Q (pc + 1) ls (.long v :: st) h) : mm_Ex l G M Q pc ls st h :=
  mm_ex1 k (fun p e R s m args below meth c A Z ws H locs cells slots L stC X hl hs => ⟨_, hs.pl, fun w => lv_lconst X.1 X.2.1 hd hv w⟩)
theorem ex_ldc {i : Nat} {v : Int32} (hd : decode M.2.1 pc = .ok (.ldc i, 2)) (hc : Cond.constant M.1.cls i v ∈ mm_W) (k : mm_Ex l G M Q (pc + 2) ls (.int v :: st) h) : mm_Ex l G M Q pc ls st h :=
  mm_ex1 k (fun p e R s m args below meth c A Z ws H locs cells slots L stC X hl hs => ⟨_, hs.pi, fun w => lv_ldc X.1 X.2.1 X.2.2.2.2.1 (X.2.2.2.1 _ hc) hd w⟩)
theorem ex_ldcw {i : Nat} {v : Int32} (hd : decode M.2.1 pc = .ok (.ldc_w i, 3)) (hc : Cond.constant M.1.cls i v ∈ mm_W) (k : mm_Ex l G M Q (pc + 3) ls (.int v :: st) h) : mm_Ex l G M Q pc ls st h :=
  mm_ex1 k (fun p e R s m args below meth c A Z ws H locs cells slots L stC X hl hs => ⟨_, hs.pi, fun w => lv_ldcw X.1 X.2.1 X.2.2.2.2.1 (X.2.2.2.1 _ hc) hd w⟩)
theorem mm_l.geti {ws : va_W} {L : Array Slot} (hl : mm_l ws ls L) {i : Nat} {x : Int32} (hv : ls[i]? = some (.int x)) : L[i]? = some (.val (.int x)) := by
  obtain ⟨V, h1, h2, -⟩ := hl.2.2 i _ hv rfl (by simp)
  rw [h1, show V = .int x from h2]
theorem mm_l.getr {ws : va_W} {L : Array Slot} (hl : mm_l ws ls L) {i k : Nat} (hv : ls[i]? = some (.ref k)) : ∃ a E, ws[k]? = some (a, E) ∧ L[i]? = some (.val (.ref a)) := by
  obtain ⟨V, h1, ⟨q, h2, h3⟩, -⟩ := hl.2.2 i _ hv rfl (by simp)
  exact ⟨q.1, q.2, h2, by rw [h1, h3]⟩
theorem ex_iload_n {n : Fin 4} {x : Int32} (hd : decode M.2.1 pc = .ok (.iload_n n, 1)) (hv : ls[(n : Nat)]? = some (.int x)) (k : mm_Ex l G M Q (pc + 1) ls (.int x :: st) h) : mm_Ex l G M Q pc ls st h :=
  mm_ex1 k (fun p e R s m args below meth c A Z ws H locs cells slots L stC X hl hs => ⟨_, hs.pi, fun w => lv_iload_n X.1 X.2.1 hd rfl (hl.geti hv) w⟩)
theorem ex_iload {i : Nat} {x : Int32} (hd : decode M.2.1 pc = .ok (.iload i, 2)) (hv : ls[i]? = some (.int x)) (k : mm_Ex l G M Q (pc + 2) ls (.int x :: st) h) : mm_Ex l G M Q pc ls st h :=
  mm_ex1 k (fun p e R s m args below meth c A Z ws H locs cells slots L stC X hl hs => ⟨_, hs.pi, fun w => lv_iload X.1 X.2.1 hd (hl.geti hv) w⟩)
theorem ex_aload_n {n : Fin 4} {x : Nat} (hd : decode M.2.1 pc = .ok (.aload_n n, 1)) (hv : ls[(n : Nat)]? = some (.ref x)) (k : mm_Ex l G M Q (pc + 1) ls (.ref x :: st) h) : mm_Ex l G M Q pc ls st h :=
  mm_ex1 k (fun p e R s m args below meth c A Z ws H locs cells slots L stC X hl hs => by
    obtain ⟨a, E, h1, h2⟩ := hl.getr hv
    exact ⟨_, hs.pr h1, fun w => lv_aload_n X.1 X.2.1 hd rfl h2 w⟩)
theorem ex_aload {i : Nat} {x : Nat} (hd : decode M.2.1 pc = .ok (.aload i, 2)) (hv : ls[i]? = some (.ref x)) (k : mm_Ex l G M Q (pc + 2) ls (.ref x :: st) h) : mm_Ex l G M Q pc ls st h :=
  mm_ex1 k (fun p e R s m args below meth c A Z ws H locs cells slots L stC X hl hs => by
    obtain ⟨a, E, h1, h2⟩ := hl.getr hv
    exact ⟨_, hs.pr h1, fun w => lv_aload X.1 X.2.1 hd h2 w⟩)
theorem ex_aload_x {n : Fin 4} {u : Nat} (hd : decode M.2.1 pc = .ok (.aload_n n, 1)) (hv : ls[(n : Nat)]? = some (.retAddr u)) (k : mm_Ex l G M Q (pc + 1) ls (.retAddr u :: st) h) : mm_Ex l G M Q pc ls st h :=
  mm_ex1 k (fun p e R s m args below meth c A Z ws H locs cells slots L stC X hl hs => by
    obtain ⟨V, h1, h2, -⟩ := hl.2.2 _ _ hv rfl (by simp)
    rw [show V = .ref u from h2] at h1
    exact ⟨_, ⟨_, _, rfl, rfl, hs⟩, fun w => lv_aload_n X.1 X.2.1 hd rfl h1 w⟩)
theorem ex_iadd {x y : Int32} (hd : decode M.2.1 pc = .ok (.iadd, 1)) (k : mm_Ex l G M Q (pc + 1) ls (.int (x + y) :: st) h) : mm_Ex l G M Q pc ls (.int y :: .int x :: st) h :=
  mm_ex1 k (fun p e R s m args below meth c A Z ws H locs cells slots L stC X hl hs => by
    obtain ⟨_, rfl, hs1⟩ := hs.int; obtain ⟨_, rfl, hs2⟩ := hs1.int
    exact ⟨_, hs2.pi, fun w => lv_iadd X.1 X.2.1 hd w⟩)
theorem ex_isub {x y : Int32} (hd : decode M.2.1 pc = .ok (.isub, 1)) (k : mm_Ex l G M Q (pc + 1) ls (.int (x - y) :: st) h) : mm_Ex l G M Q pc ls (.int y :: .int x :: st) h :=
  mm_ex1 k (fun p e R s m args below meth c A Z ws H locs cells slots L stC X hl hs => by
    obtain ⟨_, rfl, hs1⟩ := hs.int; obtain ⟨_, rfl, hs2⟩ := hs1.int
    exact ⟨_, hs2.pi, fun w => lv_isub X.1 X.2.1 hd w⟩)
theorem ex_imul {x y : Int32} (hd : decode M.2.1 pc = .ok (.imul, 1)) (k : mm_Ex l G M Q (pc + 1) ls (.int (x * y) :: st) h) : mm_Ex l G M Q pc ls (.int y :: .int x :: st) h :=
  mm_ex1 k (fun p e R s m args below meth c A Z ws H locs cells slots L stC X hl hs => by
    obtain ⟨_, rfl, hs1⟩ := hs.int; obtain ⟨_, rfl, hs2⟩ := hs1.int
    exact ⟨_, hs2.pi, fun w => lv_imul X.1 X.2.1 hd w⟩)
theorem ex_iand {x y : Int32} (hd : decode M.2.1 pc = .ok (.iand, 1)) (k : mm_Ex l G M Q (pc + 1) ls (.int (x &&& y) :: st) h) : mm_Ex l G M Q pc ls (.int y :: .int x :: st) h :=
  mm_ex1 k (fun p e R s m args below meth c A Z ws H locs cells slots L stC X hl hs => by
    obtain ⟨_, rfl, hs1⟩ := hs.int; obtain ⟨_, rfl, hs2⟩ := hs1.int
    exact ⟨_, hs2.pi, fun w => lv_iand X.1 X.2.1 hd w⟩)
theorem ex_ior {x y : Int32} (hd : decode M.2.1 pc = .ok (.ior, 1)) (k : mm_Ex l G M Q (pc + 1) ls (.int (x ||| y) :: st) h) : mm_Ex l G M Q pc ls (.int y :: .int x :: st) h :=
  mm_ex1 k (fun p e R s m args below meth c A Z ws H locs cells slots L stC X hl hs => by
    obtain ⟨_, rfl, hs1⟩ := hs.int; obtain ⟨_, rfl, hs2⟩ := hs1.int
    exact ⟨_, hs2.pi, fun w => lv_ior X.1 X.2.1 hd w⟩)
theorem ex_ishl {x y : Int32} (hd : decode M.2.1 pc = .ok (.ishl, 1)) (k : mm_Ex l G M Q (pc + 1) ls (.int (x <<< (y &&& 31)) :: st) h) : mm_Ex l G M Q pc ls (.int y :: .int x :: st) h :=
  mm_ex1 k (fun p e R s m args below meth c A Z ws H locs cells slots L stC X hl hs => by
    obtain ⟨_, rfl, hs1⟩ := hs.int; obtain ⟨_, rfl, hs2⟩ := hs1.int
    exact ⟨_, hs2.pi, fun w => lv_ishl X.1 X.2.1 hd w⟩)
theorem ex_ishr {x y : Int32} (hd : decode M.2.1 pc = .ok (.ishr, 1)) (k : mm_Ex l G M Q (pc + 1) ls (.int (x >>> (y &&& 31)) :: st) h) : mm_Ex l G M Q pc ls (.int y :: .int x :: st) h :=
  mm_ex1 k (fun p e R s m args below meth c A Z ws H locs cells slots L stC X hl hs => by
    obtain ⟨_, rfl, hs1⟩ := hs.int; obtain ⟨_, rfl, hs2⟩ := hs1.int
    exact ⟨_, hs2.pi, fun w => lv_ishr X.1 X.2.1 hd w⟩)
theorem ex_idiv {x y : Int32} (hd : decode M.2.1 pc = .ok (.idiv, 1)) (hy : ¬ y = 0) (k : mm_Ex l G M Q (pc + 1) ls (.int (x / y) :: st) h) : mm_Ex l G M Q pc ls (.int y :: .int x :: st) h :=
  mm_ex1 k (fun p e R s m args below meth c A Z ws H locs cells slots L stC X hl hs => by
    obtain ⟨_, rfl, hs1⟩ := hs.int; obtain ⟨_, rfl, hs2⟩ := hs1.int
    exact ⟨_, hs2.pi, fun w => lv_idiv X.1 X.2.1 hd hy w⟩)
theorem ex_irem {x y : Int32} (hd : decode M.2.1 pc = .ok (.irem, 1)) (hy : ¬ y = 0) (k : mm_Ex l G M Q (pc + 1) ls (.int (x - x / y * y) :: st) h) : mm_Ex l G M Q pc ls (.int y :: .int x :: st) h :=
  mm_ex1 k (fun p e R s m args below meth c A Z ws H locs cells slots L stC X hl hs => by
    obtain ⟨_, rfl, hs1⟩ := hs.int; obtain ⟨_, rfl, hs2⟩ := hs1.int
    exact ⟨_, hs2.pi, fun w => lv_irem X.1 X.2.1 hd hy w⟩)
theorem ex_ineg {x : Int32} (hd : decode M.2.1 pc = .ok (.ineg, 1)) (k : mm_Ex l G M Q (pc + 1) ls (.int (-x) :: st) h) : mm_Ex l G M Q pc ls (.int x :: st) h :=
  mm_ex1 k (fun p e R s m args below meth c A Z ws H locs cells slots L stC X hl hs => by
    obtain ⟨_, rfl, hs1⟩ := hs.int
    exact ⟨_, hs1.pi, fun w => lv_ineg X.1 X.2.1 hd w⟩)
theorem ex_ladd {x y : Int64} (hd : decode M.2.1 pc = .ok (.ladd, 1)) (k : mm_Ex l G M Q (pc + 1) ls (.long (x + y) :: st) h) : mm_Ex l G M Q pc ls (.long y :: .long x :: st) h :=
  mm_ex1 k (fun p e R s m args below meth c A Z ws H locs cells slots L stC X hl hs => by
    obtain ⟨_, rfl, hs1⟩ := hs.long; obtain ⟨_, rfl, hs2⟩ := hs1.long
    exact ⟨_, hs2.pl, fun w => lv_ladd X.1 X.2.1 hd w⟩)
theorem ex_lcmp {x y : Int64} (hd : decode M.2.1 pc = .ok (.lcmp, 1)) (k : mm_Ex l G M Q (pc + 1) ls (.int (lg_cmp x y) :: st) h) : mm_Ex l G M Q pc ls (.long y :: .long x :: st) h :=
  mm_ex1 k (fun p e R s m args below meth c A Z ws H locs cells slots L stC X hl hs => by
    obtain ⟨_, rfl, hs1⟩ := hs.long; obtain ⟨_, rfl, hs2⟩ := hs1.long
    exact ⟨_, hs2.pi, fun w => W.lcmp X.1 X.2.1 hd w⟩)
theorem ex_i2l {x : Int32} (hd : decode M.2.1 pc = .ok (.i2l, 1)) (k : mm_Ex l G M Q (pc + 1) ls (.long x.toInt64 :: st) h) : mm_Ex l G M Q pc ls (.int x :: st) h :=
  mm_ex1 k (fun p e R s m args below meth c A Z ws H locs cells slots L stC X hl hs => by
    obtain ⟨_, rfl, hs1⟩ := hs.int
    exact ⟨_, hs1.pl, fun w => lv_i2l X.1 X.2.1 hd rfl w⟩)
theorem ex_l2i {x : Int64} (hd : decode M.2.1 pc = .ok (.l2i, 1)) (k : mm_Ex l G M Q (pc + 1) ls (.int x.toInt32 :: st) h) : mm_Ex l G M Q pc ls (.long x :: st) h :=
  mm_ex1 k (fun p e R s m args below meth c A Z ws H locs cells slots L stC X hl hs => by
    obtain ⟨_, rfl, hs1⟩ := hs.long
    exact ⟨_, hs1.pi, fun w => lv_l2i X.1 X.2.1 hd rfl w⟩)
theorem ex_dup {v : Value} (hd : decode M.2.1 pc = .ok (.dup, 1)) (hv : v.category = 1) (k : mm_Ex l G M Q (pc + 1) ls (v :: v :: st) h) : mm_Ex l G M Q pc ls (v :: st) h :=
  mm_ex1 k (fun p e R s m args below meth c A Z ws H locs cells slots L stC X hl hs => by
    obtain ⟨V, _, rfl, h2, hs1⟩ := hs
    exact ⟨_, ⟨V, _, rfl, h2, V, _, rfl, h2, hs1⟩, fun w => lv_dup X.1 X.2.1 hd (by rw [h2.cat, hv]) w⟩)
theorem ex_pop {v : Value} (hd : decode M.2.1 pc = .ok (.pop, 1)) (hv : v.category = 1) (k : mm_Ex l G M Q (pc + 1) ls st h) : mm_Ex l G M Q pc ls (v :: st) h :=
  mm_ex1 k (fun p e R s m args below meth c A Z ws H locs cells slots L stC X hl hs => by
    obtain ⟨V, _, rfl, h2, hs1⟩ := hs
    exact ⟨_, hs1, fun w => lv_pop X.1 X.2.1 hd (by rw [h2.cat, hv]) w⟩)
theorem ex_dup2 {v v2 : Value} (hd : decode M.2.1 pc = .ok (.dup2, 1)) (hv : v.category = 1) (hv2 : v2.category = 1) (k : mm_Ex l G M Q (pc + 1) ls (v :: v2 :: v :: v2 :: st) h) : mm_Ex l G M Q pc ls (v :: v2 :: st) h :=
  mm_ex1 k (fun p e R s m args below meth c A Z ws H locs cells slots L stC X hl hs => by
    obtain ⟨V, _, rfl, h2, V2, _, rfl, h3, hs1⟩ := hs
    exact ⟨_, ⟨V, _, rfl, h2, V2, _, rfl, h3, V, _, rfl, h2, V2, _, rfl, h3, hs1⟩, fun w => lv_dup2_11 X.1 X.2.1 hd (by rw [h2.cat, hv]) (by rw [h3.cat, hv2]) w⟩)
theorem ex_goto {off : Int} {tgt : Nat} (hd : decode M.2.1 pc = .ok (.goto off, 3)) (ht : (pc : Int) + off = (tgt : Int)) (k : mm_Ex l G M Q tgt ls st h) : mm_Ex l G M Q pc ls st h :=
  mm_ex1 k (fun p e R s m args below meth c A Z ws H locs cells slots L stC X hl hs => ⟨_, hs, fun w => lv_goto X.1 X.2.1 hd ht w⟩)
end MMR
end
section
def mm_lv (L : Array Slot) (n : Nat) : List (Nat × Value) := (List.range n).filterMap (fun k => match (L[k]? : Option Slot) with
  | some (Slot.val V) => if V.category = 1 then some (k, V) else none
  | _ => none)
theorem mm_lv_mem {L : Array Slot} {n k : Nat} {V : Value} : (k, V) ∈ mm_lv L n ↔ k < n ∧ L[k]? = some (.val V) ∧ V.category = 1 := by
  simp only [mm_lv, List.mem_filterMap, List.mem_range]
  constructor
  · rintro ⟨j, hj, he⟩
    cases hL : L[j]? with
    | none => simp [hL] at he
    | some x =>
      cases x with
      | val W =>
        simp only [hL] at he
        by_cases hc : W.category = 1
        · rw [if_pos hc] at he
          cases he
          exact ⟨hj, hL, hc⟩
        · rw [if_neg hc] at he
          cases he
      | _ => simp [hL] at he
  · rintro ⟨h1, h2, h3⟩
    exact ⟨k, h1, by simp [h2, h3]⟩
theorem mm_l.has {ws : va_W} {ls : List Value} {L : Array Slot} (hl : mm_l ws ls L) {n : Nat} (hn : ls.length = n) : lv_has L n (mm_lv L n) :=
  ⟨by rw [hl.2.1, hn], hl.1, fun q hq => (mm_lv_mem.mp (show (q.1, q.2) ∈ _ from hq)).2.1⟩
theorem mm_l.back {ws : va_W} {ls : List Value} {L L' : Array Slot} (hl : mm_l ws ls L) {i n : Nat} {v V : Value} (hn : ls.length = n) (h : lv_has L' n ((i, V) :: (mm_lv L n).filter (fun q => !(q.1 == i) && !(q.1 + 1 == i && q.2.category == 2)))) (hV : mm_v ws v V) (hc : v.category = 1) : mm_l ws (ls.set i v) L' := by
  refine ⟨h.2.1, by rw [h.1, List.length_set, hn], fun k u hk hu hu2 => ?_⟩
  by_cases hik : i = k
  · subst hik
    have hlt : i < ls.length := by
      have := (List.getElem?_eq_some_iff.mp hk).1
      rwa [List.length_set] at this
    rw [List.getElem?_set_self hlt] at hk
    cases hk
    exact ⟨V, h.2.2 (i, V) List.mem_cons_self, hV, by rw [hV.cat, hc]⟩
  · rw [List.getElem?_set_ne hik] at hk
    obtain ⟨U, h1, h2, h3⟩ := hl.2.2 k u hk hu hu2
    refine ⟨U, h.2.2 (k, U) (List.mem_cons_of_mem _ (List.mem_filter.mpr ⟨mm_lv_mem.mpr ⟨?_, h1, h3⟩, ?_⟩)), h2, h3⟩
    · rw [← hn]; exact (List.getElem?_eq_some_iff.mp hk).1
    · have e1 : (k == i) = false := by simp [Ne.symm hik]
      simp [e1, h3]
section MMR2
variable {l : Launch} {G : mm_G} {M : mm_M} {Q : mm_R → mm_H → Prop} {pc pc' : Nat} {ls ls' st st' : List Value} {h h2 : mm_H}
theorem mm_exL (k : mm_Ex l G M Q pc' ls' st' h) (hlen : ls'.length = ls.length) (F : ∀ (p : Program) (e : Env) (R : Room) (s : State) (m : MethodId) (args : Array Value) (below : List Frame) (meth : Method) (c : Code) (A : Nat → Prop) (Z : State → Prop) (ws : va_W) (H : Heap) (locs : List Loc) (cells slots : Nat) (L : Array Slot) (stC : List Value),
    mm_X G M p R s m args meth c A → mm_l ws ls L → mm_s ws st stC → ls.length = M.2.2.1 → (∀ (L' : Array Slot) (stC' : List Value), mm_l ws ls' L' → mm_s ws st' stC' → W p l e R s m args below meth c H locs cells slots Z (F0 m pc' L' stC')) → W p l e R s m args below meth c H locs cells slots Z (F0 m pc L stC)) : mm_Ex l G M Q pc ls st h := by
  obtain ⟨r, h', ⟨k1, k2, k3⟩, q⟩ := k
  refine ⟨r, h', ⟨k1, k2, fun p e R s m args below meth c A ws0 Z X F0 ws H locs cells slots L stC hS hl hn hs => ?_⟩, q⟩
  exact F p e R s m args below meth c A Z ws H locs cells slots L stC X hl hs hn (fun L' stC' h1 h2 => k3 p e R s m args below meth c A ws0 Z X F0 ws H locs cells slots L' stC' hS h1 (hlen.trans hn) h2)
theorem ex_istore_n {n : Fin 4} {x : Int32} (hd : decode M.2.1 pc = .ok (.istore_n n, 1)) (hi : (n : Nat) < ls.length) (k : mm_Ex l G M Q (pc + 1) (ls.set (n : Nat) (.int x)) st h) : mm_Ex l G M Q pc ls (.int x :: st) h :=
  mm_exL k (by simp) (fun p e R s m args below meth c A Z ws H locs cells slots L stC X hl hs hn w => by
    obtain ⟨_, rfl, hs1⟩ := hs.int
    exact lv_istore_n X.1 X.2.1 hd rfl (hl.has rfl) hi rfl (fun L' hL' => w L' _ (hl.back rfl hL' rfl rfl) hs1))
theorem ex_istore {i : Nat} {x : Int32} (hd : decode M.2.1 pc = .ok (.istore i, 2)) (hi : i < ls.length) (k : mm_Ex l G M Q (pc + 2) (ls.set i (.int x)) st h) : mm_Ex l G M Q pc ls (.int x :: st) h :=
  mm_exL k (by simp) (fun p e R s m args below meth c A Z ws H locs cells slots L stC X hl hs hn w => by
    obtain ⟨_, rfl, hs1⟩ := hs.int
    exact lv_istore X.1 X.2.1 hd (hl.has rfl) hi rfl (fun L' hL' => w L' _ (hl.back rfl hL' rfl rfl) hs1))
theorem ex_astore_n {n : Fin 4} {x : Nat} (hd : decode M.2.1 pc = .ok (.astore_n n, 1)) (hi : (n : Nat) < ls.length) (k : mm_Ex l G M Q (pc + 1) (ls.set (n : Nat) (.ref x)) st h) : mm_Ex l G M Q pc ls (.ref x :: st) h :=
  mm_exL k (by simp) (fun p e R s m args below meth c A Z ws H locs cells slots L stC X hl hs hn w => by
    obtain ⟨a, E, _, hk, rfl, hs1⟩ := hs.ref
    exact lv_astore_n X.1 X.2.1 hd rfl (hl.has rfl) hi rfl (fun L' hL' => w L' _ (hl.back rfl hL' ⟨_, hk, rfl⟩ rfl) hs1))
theorem ex_astore {i : Nat} {x : Nat} (hd : decode M.2.1 pc = .ok (.astore i, 2)) (hi : i < ls.length) (k : mm_Ex l G M Q (pc + 2) (ls.set i (.ref x)) st h) : mm_Ex l G M Q pc ls (.ref x :: st) h :=
  mm_exL k (by simp) (fun p e R s m args below meth c A Z ws H locs cells slots L stC X hl hs hn w => by
    obtain ⟨a, E, _, hk, rfl, hs1⟩ := hs.ref
    exact lv_astore X.1 X.2.1 hd (hl.has rfl) hi rfl (fun L' hL' => w L' _ (hl.back rfl hL' ⟨_, hk, rfl⟩ rfl) hs1))
theorem ex_astore_x {i : Nat} {u : UInt32} (hd : decode M.2.1 pc = .ok (.astore i, 2)) (hi : i < ls.length) (k : mm_Ex l G M Q (pc + 2) (ls.set i .null) st h) : mm_Ex l G M Q pc ls (.float u :: st) h :=
  mm_exL k (by simp) (fun p e R s m args below meth c A Z ws H locs cells slots L stC X hl hs hn w => by
    obtain ⟨V, L', rfl, ⟨q, rfl⟩, hs1⟩ := hs
    exact lv_astore X.1 X.2.1 hd (hl.has rfl) hi rfl (fun L' hL' => w L' _ (hl.back (v := .null) rfl hL' rfl rfl) hs1))
theorem ex_astore_xn {n : Fin 4} {u : UInt32} (hd : decode M.2.1 pc = .ok (.astore_n n, 1)) (hi : (n : Nat) < ls.length) (k : mm_Ex l G M Q (pc + 1) (ls.set (n : Nat) .null) st h) : mm_Ex l G M Q pc ls (.float u :: st) h :=
  mm_exL k (by simp) (fun p e R s m args below meth c A Z ws H locs cells slots L stC X hl hs hn w => by
    obtain ⟨V, L', rfl, ⟨q, rfl⟩, hs1⟩ := hs
    exact lv_astore_n X.1 X.2.1 hd rfl (hl.has rfl) hi rfl (fun L' hL' => w L' _ (hl.back (v := .null) rfl hL' rfl rfl) hs1))
theorem ex_iinc {i : Nat} {n : Int} {x d : Int32} (hd : decode M.2.1 pc = .ok (.iinc i n, 3)) (hv : ls[i]? = some (.int x)) (hn : Int32.ofInt n = d) (k : mm_Ex l G M Q (pc + 3) (ls.set i (.int (x + d))) st h) : mm_Ex l G M Q pc ls st h :=
  mm_exL k (by simp) (fun p e R s m args below meth c A Z ws H locs cells slots L stC X hl hs hlen w => by
    subst hn
    have hi : i < ls.length := (List.getElem?_eq_some_iff.mp hv).1
    obtain ⟨V, h1, h2, h3⟩ := hl.2.2 i _ hv rfl (by simp)
    rw [show V = .int x from h2] at h1
    obtain ⟨j, hj⟩ := List.getElem?_of_mem (mm_lv_mem.mpr ⟨hi, h1, rfl⟩)
    exact lv_iinc X.1 X.2.1 hd (hl.has rfl) hj rfl hi rfl (fun L' hL' => w L' _ (hl.back rfl hL' rfl rfl) hs))

theorem ex_if_eq {x : Int32} {off : Int} {tgt : Nat} (hd : decode M.2.1 pc = .ok (.ifCond .eq off, 3)) (ht : (pc : Int) + off = (tgt : Int)) (kt : x = 0 → mm_Ex l G M Q tgt ls st h) (kf : ¬ x = 0 → mm_Ex l G M Q (pc + 3) ls st h) : mm_Ex l G M Q pc ls (.int x :: st) h := by
  by_cases hc : x = 0
  · exact mm_ex1 (kt hc) (fun p e R s m args below meth c A Z ws H locs cells slots L stC X hl hs => by
      obtain ⟨_, rfl, hs1⟩ := hs.int
      exact ⟨_, hs1, fun w => lv_if_eq X.1 X.2.1 hd ht (fun _ => w) (fun z => absurd hc z)⟩)
  · exact mm_ex1 (kf hc) (fun p e R s m args below meth c A Z ws H locs cells slots L stC X hl hs => by
      obtain ⟨_, rfl, hs1⟩ := hs.int
      exact ⟨_, hs1, fun w => lv_if_eq X.1 X.2.1 hd ht (fun z => absurd z hc) (fun _ => w)⟩)
theorem ex_icmp_eq {x y : Int32} {off : Int} {tgt : Nat} (hd : decode M.2.1 pc = .ok (.if_icmp .eq off, 3)) (ht : (pc : Int) + off = (tgt : Int)) (kt : x = y → mm_Ex l G M Q tgt ls st h) (kf : ¬ x = y → mm_Ex l G M Q (pc + 3) ls st h) : mm_Ex l G M Q pc ls (.int y :: .int x :: st) h := by
  by_cases hc : x = y
  · exact mm_ex1 (kt hc) (fun p e R s m args below meth c A Z ws H locs cells slots L stC X hl hs => by
      obtain ⟨_, rfl, hs0⟩ := hs.int; obtain ⟨_, rfl, hs1⟩ := hs0.int
      exact ⟨_, hs1, fun w => lv_icmp_eq X.1 X.2.1 hd ht (fun _ => w) (fun z => absurd hc z)⟩)
  · exact mm_ex1 (kf hc) (fun p e R s m args below meth c A Z ws H locs cells slots L stC X hl hs => by
      obtain ⟨_, rfl, hs0⟩ := hs.int; obtain ⟨_, rfl, hs1⟩ := hs0.int
      exact ⟨_, hs1, fun w => lv_icmp_eq X.1 X.2.1 hd ht (fun z => absurd z hc) (fun _ => w)⟩)
theorem ex_if_ne {x : Int32} {off : Int} {tgt : Nat} (hd : decode M.2.1 pc = .ok (.ifCond .ne off, 3)) (ht : (pc : Int) + off = (tgt : Int)) (kt : ¬ x = 0 → mm_Ex l G M Q tgt ls st h) (kf : x = 0 → mm_Ex l G M Q (pc + 3) ls st h) : mm_Ex l G M Q pc ls (.int x :: st) h := by
  by_cases hc : x = 0
  · exact mm_ex1 (kf hc) (fun p e R s m args below meth c A Z ws H locs cells slots L stC X hl hs => by
      obtain ⟨_, rfl, hs1⟩ := hs.int
      exact ⟨_, hs1, fun w => lv_if_ne X.1 X.2.1 hd ht (fun z => absurd hc z) (fun _ => w)⟩)
  · exact mm_ex1 (kt hc) (fun p e R s m args below meth c A Z ws H locs cells slots L stC X hl hs => by
      obtain ⟨_, rfl, hs1⟩ := hs.int
      exact ⟨_, hs1, fun w => lv_if_ne X.1 X.2.1 hd ht (fun _ => w) (fun z => absurd z hc)⟩)
theorem ex_icmp_ne {x y : Int32} {off : Int} {tgt : Nat} (hd : decode M.2.1 pc = .ok (.if_icmp .ne off, 3)) (ht : (pc : Int) + off = (tgt : Int)) (kt : ¬ x = y → mm_Ex l G M Q tgt ls st h) (kf : x = y → mm_Ex l G M Q (pc + 3) ls st h) : mm_Ex l G M Q pc ls (.int y :: .int x :: st) h := by
  by_cases hc : x = y
  · exact mm_ex1 (kf hc) (fun p e R s m args below meth c A Z ws H locs cells slots L stC X hl hs => by
      obtain ⟨_, rfl, hs0⟩ := hs.int; obtain ⟨_, rfl, hs1⟩ := hs0.int
      exact ⟨_, hs1, fun w => lv_icmp_ne X.1 X.2.1 hd ht (fun z => absurd hc z) (fun _ => w)⟩)
  · exact mm_ex1 (kt hc) (fun p e R s m args below meth c A Z ws H locs cells slots L stC X hl hs => by
      obtain ⟨_, rfl, hs0⟩ := hs.int; obtain ⟨_, rfl, hs1⟩ := hs0.int
      exact ⟨_, hs1, fun w => lv_icmp_ne X.1 X.2.1 hd ht (fun _ => w) (fun z => absurd z hc)⟩)
theorem ex_if_lt {x : Int32} {off : Int} {tgt : Nat} (hd : decode M.2.1 pc = .ok (.ifCond .lt off, 3)) (ht : (pc : Int) + off = (tgt : Int)) (kt : x < 0 → mm_Ex l G M Q tgt ls st h) (kf : ¬ x < 0 → mm_Ex l G M Q (pc + 3) ls st h) : mm_Ex l G M Q pc ls (.int x :: st) h := by
  by_cases hc : x < 0
  · exact mm_ex1 (kt hc) (fun p e R s m args below meth c A Z ws H locs cells slots L stC X hl hs => by
      obtain ⟨_, rfl, hs1⟩ := hs.int
      exact ⟨_, hs1, fun w => lv_if_lt X.1 X.2.1 hd ht (fun _ => w) (fun z => absurd hc z)⟩)
  · exact mm_ex1 (kf hc) (fun p e R s m args below meth c A Z ws H locs cells slots L stC X hl hs => by
      obtain ⟨_, rfl, hs1⟩ := hs.int
      exact ⟨_, hs1, fun w => lv_if_lt X.1 X.2.1 hd ht (fun z => absurd z hc) (fun _ => w)⟩)
theorem ex_icmp_lt {x y : Int32} {off : Int} {tgt : Nat} (hd : decode M.2.1 pc = .ok (.if_icmp .lt off, 3)) (ht : (pc : Int) + off = (tgt : Int)) (kt : x < y → mm_Ex l G M Q tgt ls st h) (kf : ¬ x < y → mm_Ex l G M Q (pc + 3) ls st h) : mm_Ex l G M Q pc ls (.int y :: .int x :: st) h := by
  by_cases hc : x < y
  · exact mm_ex1 (kt hc) (fun p e R s m args below meth c A Z ws H locs cells slots L stC X hl hs => by
      obtain ⟨_, rfl, hs0⟩ := hs.int; obtain ⟨_, rfl, hs1⟩ := hs0.int
      exact ⟨_, hs1, fun w => lv_icmp_lt X.1 X.2.1 hd ht (fun _ => w) (fun z => absurd hc z)⟩)
  · exact mm_ex1 (kf hc) (fun p e R s m args below meth c A Z ws H locs cells slots L stC X hl hs => by
      obtain ⟨_, rfl, hs0⟩ := hs.int; obtain ⟨_, rfl, hs1⟩ := hs0.int
      exact ⟨_, hs1, fun w => lv_icmp_lt X.1 X.2.1 hd ht (fun z => absurd z hc) (fun _ => w)⟩)
theorem ex_if_ge {x : Int32} {off : Int} {tgt : Nat} (hd : decode M.2.1 pc = .ok (.ifCond .ge off, 3)) (ht : (pc : Int) + off = (tgt : Int)) (kt : 0 ≤ x → mm_Ex l G M Q tgt ls st h) (kf : ¬ 0 ≤ x → mm_Ex l G M Q (pc + 3) ls st h) : mm_Ex l G M Q pc ls (.int x :: st) h := by
  by_cases hc : 0 ≤ x
  · exact mm_ex1 (kt hc) (fun p e R s m args below meth c A Z ws H locs cells slots L stC X hl hs => by
      obtain ⟨_, rfl, hs1⟩ := hs.int
      exact ⟨_, hs1, fun w => lv_if_ge X.1 X.2.1 hd ht (fun _ => w) (fun z => absurd hc z)⟩)
  · exact mm_ex1 (kf hc) (fun p e R s m args below meth c A Z ws H locs cells slots L stC X hl hs => by
      obtain ⟨_, rfl, hs1⟩ := hs.int
      exact ⟨_, hs1, fun w => lv_if_ge X.1 X.2.1 hd ht (fun z => absurd z hc) (fun _ => w)⟩)
theorem ex_icmp_ge {x y : Int32} {off : Int} {tgt : Nat} (hd : decode M.2.1 pc = .ok (.if_icmp .ge off, 3)) (ht : (pc : Int) + off = (tgt : Int)) (kt : y ≤ x → mm_Ex l G M Q tgt ls st h) (kf : ¬ y ≤ x → mm_Ex l G M Q (pc + 3) ls st h) : mm_Ex l G M Q pc ls (.int y :: .int x :: st) h := by
  by_cases hc : y ≤ x
  · exact mm_ex1 (kt hc) (fun p e R s m args below meth c A Z ws H locs cells slots L stC X hl hs => by
      obtain ⟨_, rfl, hs0⟩ := hs.int; obtain ⟨_, rfl, hs1⟩ := hs0.int
      exact ⟨_, hs1, fun w => lv_icmp_ge X.1 X.2.1 hd ht (fun _ => w) (fun z => absurd hc z)⟩)
  · exact mm_ex1 (kf hc) (fun p e R s m args below meth c A Z ws H locs cells slots L stC X hl hs => by
      obtain ⟨_, rfl, hs0⟩ := hs.int; obtain ⟨_, rfl, hs1⟩ := hs0.int
      exact ⟨_, hs1, fun w => lv_icmp_ge X.1 X.2.1 hd ht (fun z => absurd z hc) (fun _ => w)⟩)
theorem ex_if_gt {x : Int32} {off : Int} {tgt : Nat} (hd : decode M.2.1 pc = .ok (.ifCond .gt off, 3)) (ht : (pc : Int) + off = (tgt : Int)) (kt : 0 < x → mm_Ex l G M Q tgt ls st h) (kf : ¬ 0 < x → mm_Ex l G M Q (pc + 3) ls st h) : mm_Ex l G M Q pc ls (.int x :: st) h := by
  by_cases hc : 0 < x
  · exact mm_ex1 (kt hc) (fun p e R s m args below meth c A Z ws H locs cells slots L stC X hl hs => by
      obtain ⟨_, rfl, hs1⟩ := hs.int
      exact ⟨_, hs1, fun w => lv_if_gt X.1 X.2.1 hd ht (fun _ => w) (fun z => absurd hc z)⟩)
  · exact mm_ex1 (kf hc) (fun p e R s m args below meth c A Z ws H locs cells slots L stC X hl hs => by
      obtain ⟨_, rfl, hs1⟩ := hs.int
      exact ⟨_, hs1, fun w => lv_if_gt X.1 X.2.1 hd ht (fun z => absurd z hc) (fun _ => w)⟩)
theorem ex_icmp_gt {x y : Int32} {off : Int} {tgt : Nat} (hd : decode M.2.1 pc = .ok (.if_icmp .gt off, 3)) (ht : (pc : Int) + off = (tgt : Int)) (kt : y < x → mm_Ex l G M Q tgt ls st h) (kf : ¬ y < x → mm_Ex l G M Q (pc + 3) ls st h) : mm_Ex l G M Q pc ls (.int y :: .int x :: st) h := by
  by_cases hc : y < x
  · exact mm_ex1 (kt hc) (fun p e R s m args below meth c A Z ws H locs cells slots L stC X hl hs => by
      obtain ⟨_, rfl, hs0⟩ := hs.int; obtain ⟨_, rfl, hs1⟩ := hs0.int
      exact ⟨_, hs1, fun w => lv_icmp_gt X.1 X.2.1 hd ht (fun _ => w) (fun z => absurd hc z)⟩)
  · exact mm_ex1 (kf hc) (fun p e R s m args below meth c A Z ws H locs cells slots L stC X hl hs => by
      obtain ⟨_, rfl, hs0⟩ := hs.int; obtain ⟨_, rfl, hs1⟩ := hs0.int
      exact ⟨_, hs1, fun w => lv_icmp_gt X.1 X.2.1 hd ht (fun z => absurd z hc) (fun _ => w)⟩)
theorem ex_if_le {x : Int32} {off : Int} {tgt : Nat} (hd : decode M.2.1 pc = .ok (.ifCond .le off, 3)) (ht : (pc : Int) + off = (tgt : Int)) (kt : x ≤ 0 → mm_Ex l G M Q tgt ls st h) (kf : ¬ x ≤ 0 → mm_Ex l G M Q (pc + 3) ls st h) : mm_Ex l G M Q pc ls (.int x :: st) h := by
  by_cases hc : x ≤ 0
  · exact mm_ex1 (kt hc) (fun p e R s m args below meth c A Z ws H locs cells slots L stC X hl hs => by
      obtain ⟨_, rfl, hs1⟩ := hs.int
      exact ⟨_, hs1, fun w => lv_if_le X.1 X.2.1 hd ht (fun _ => w) (fun z => absurd hc z)⟩)
  · exact mm_ex1 (kf hc) (fun p e R s m args below meth c A Z ws H locs cells slots L stC X hl hs => by
      obtain ⟨_, rfl, hs1⟩ := hs.int
      exact ⟨_, hs1, fun w => lv_if_le X.1 X.2.1 hd ht (fun z => absurd z hc) (fun _ => w)⟩)
theorem ex_icmp_le {x y : Int32} {off : Int} {tgt : Nat} (hd : decode M.2.1 pc = .ok (.if_icmp .le off, 3)) (ht : (pc : Int) + off = (tgt : Int)) (kt : x ≤ y → mm_Ex l G M Q tgt ls st h) (kf : ¬ x ≤ y → mm_Ex l G M Q (pc + 3) ls st h) : mm_Ex l G M Q pc ls (.int y :: .int x :: st) h := by
  by_cases hc : x ≤ y
  · exact mm_ex1 (kt hc) (fun p e R s m args below meth c A Z ws H locs cells slots L stC X hl hs => by
      obtain ⟨_, rfl, hs0⟩ := hs.int; obtain ⟨_, rfl, hs1⟩ := hs0.int
      exact ⟨_, hs1, fun w => lv_icmp_le X.1 X.2.1 hd ht (fun _ => w) (fun z => absurd hc z)⟩)
  · exact mm_ex1 (kf hc) (fun p e R s m args below meth c A Z ws H locs cells slots L stC X hl hs => by
      obtain ⟨_, rfl, hs0⟩ := hs.int; obtain ⟨_, rfl, hs1⟩ := hs0.int
      exact ⟨_, hs1, fun w => lv_icmp_le X.1 X.2.1 hd ht (fun z => absurd z hc) (fun _ => w)⟩)
theorem ex_tableIn {dflt lo hi : Int} {offs : Array Int} {len : Nat} {x : Int32} {off : Int} {tgt : Nat} (hd : decode M.2.1 pc = .ok (.tableswitch dflt lo hi offs, len)) (h1 : ¬ x.toInt < lo) (h2 : ¬ hi < x.toInt) (ho : offs[(x.toInt - lo).toNat]? = some off) (ht : (pc : Int) + off = (tgt : Int)) (k : mm_Ex l G M Q tgt ls st h) : mm_Ex l G M Q pc ls (.int x :: st) h :=
  mm_ex1 k (fun p e R s m args below meth c A Z ws H locs cells slots L stC X hl hs => by
    obtain ⟨_, rfl, hs1⟩ := hs.int
    exact ⟨_, hs1, fun w => lv_tableIn X.1 X.2.1 hd h1 h2 ho ht w⟩)
theorem ex_tableOut {dflt lo hi : Int} {offs : Array Int} {len : Nat} {x : Int32} {tgt : Nat} (hd : decode M.2.1 pc = .ok (.tableswitch dflt lo hi offs, len)) (h1 : x.toInt < lo ∨ hi < x.toInt) (ht : (pc : Int) + dflt = (tgt : Int)) (k : mm_Ex l G M Q tgt ls st h) : mm_Ex l G M Q pc ls (.int x :: st) h :=
  mm_ex1 k (fun p e R s m args below meth c A Z ws H locs cells slots L stC X hl hs => by
    obtain ⟨_, rfl, hs1⟩ := hs.int
    exact ⟨_, hs1, fun w => lv_tableOut X.1 X.2.1 hd h1 ht w⟩)
theorem ex_lookup {dflt : Int} {ps : Array (Int × Int)} {len : Nat} {x : Int32} {off : Int} {tgt : Nat} (hd : decode M.2.1 pc = .ok (.lookupswitch dflt ps, len)) (hp : (ps.toList.zip (ps.toList.drop 1)).all (fun (a, next) => a.1 < next.1) = true) (ho : Op.lookupswitch.offset ps.toList dflt x.toInt = off) (ht : (pc : Int) + off = (tgt : Int)) (k : mm_Ex l G M Q tgt ls st h) : mm_Ex l G M Q pc ls (.int x :: st) h :=
  mm_ex1 k (fun p e R s m args below meth c A Z ws H locs cells slots L stC X hl hs => by
    obtain ⟨_, rfl, hs1⟩ := hs.int
    exact ⟨_, hs1, fun w => lv_lookup X.1 X.2.1 hd hp ho ht w⟩)
/-- a step that changes the heap, not the locals -/
theorem mm_exH (k : mm_Ex l G M Q pc' ls st' h2) (hc : h.2.2.1 ≤ h2.2.2.1) (hn : h.2.2.2 ≤ h2.2.2.2) (F : ∀ (p : Program) (e : Env) (R : Room) (s : State) (m : MethodId) (args : Array Value) (below : List Frame) (meth : Method) (c : Code) (A : Nat → Prop) (ws0 : va_W) (h' : mm_H) (Z : State → Prop) (ws : va_W) (H : Heap) (locs : List Loc) (cells slots : Nat) (L : Array Slot) (stC : List Value),
    mm_X G M p R s m args meth c A → h2.2.2.1 ≤ h'.2.2.1 → h2.2.2.2 ≤ h'.2.2.2 → mm_S G R s A ws0 h h' ws H locs cells slots → mm_s ws st stC → L.size = c.maxLocals →
    (∀ (ws1 : va_W) (H1 : Heap) (locs1 : List Loc) (c1 n1 : Nat) (stC' : List Value), mm_k ws ws1 → mm_S G R s A ws0 h2 h' ws1 H1 locs1 c1 n1 → mm_s ws1 st' stC' → W p l e R s m args below meth c H1 locs1 c1 n1 Z (F0 m pc' L stC')) → W p l e R s m args below meth c H locs cells slots Z (F0 m pc L stC)) : mm_Ex l G M Q pc ls st h := by
  obtain ⟨r, h', ⟨k1, k2, k3⟩, q⟩ := k
  refine ⟨r, h', ⟨Nat.le_trans hc k1, Nat.le_trans hn k2, fun p e R s m args below meth c A ws0 Z X F0 ws H locs cells slots L stC hS hl hnn hs => ?_⟩, q⟩
  exact F p e R s m args below meth c A ws0 h' Z ws H locs cells slots L stC X k1 k2 hS hs (by rw [X.2.2.1, hl.2.1, hnn]) (fun ws1 H1 locs1 c1 n1 stC' hk hS1 hs1 => k3 p e R s m args below meth c A ws0 Z X F0 ws1 H1 locs1 c1 n1 L stC' hS1 (hl.mono hk) hnn hs1)
def mm_gf (own : String) (idx ci k : Nat) : Prop := ∃ (C : String) (T : u_T) (N : Nat), vwCl[ci]? = some (C, T, N) ∧ k < N ∧ (∀ w ∈ u_ws C T N, w ∈ mm_W) ∧ Cond.fieldLink own idx (T k).1 (T k).2.1 (T k).2.2.1 ∈ mm_W
theorem ex_getfield {idx ci f o : Nat} {fs : List Value} {v : Value} (hd : decode M.2.1 pc = .ok (.getfield idx, 3)) (hg : mm_gf M.1.cls idx ci f) (he : h.1 o = some (.inr (ci, fs))) (hv : fs[f]? = some v) (k : mm_Ex l G M Q (pc + 3) ls (v :: st) h) : mm_Ex l G M Q pc ls (.ref o :: st) h :=
  mm_exH k (Nat.le_refl _) (Nat.le_refl _) (fun p e R s m args below meth c A ws0 h' Z ws H locs cells slots L stC X b1 b2 hS hs hsz w => by
    obtain ⟨C, T, N, g1, g2, g3, g4⟩ := hg
    obtain ⟨a, E, _, hk, rfl, hs1⟩ := hs.ref
    obtain ⟨q, e1, fs', e2, e3, e4⟩ := hS.2.2.2.1.2 o _ he
    rw [hk] at e1
    cases e1
    obtain ⟨V, e5, e6⟩ := e4 f v hv
    exact va_get X.1 X.2.1 X.2.2.2.1 g3 X.2.2.2.2.1 X.2.2.2.2.2.1.1 hS.1 o (by rw [hk]; exact congrArg (fun z => some (a, z)) e2) g1 f g2 (X.2.2.2.1 _ g4) (fun _ z => z) e5 hd (w ws H locs cells slots _ (mm_k.refl ws) hS ⟨V, _, rfl, e6, hs1⟩))
def mm_pf (own : String) (idx ci k : Nat) (fin : Bool) (ty : FieldType) : Prop := ∃ (C : String) (T : u_T) (N : Nat) (ty0 : Nat → FieldType), vwCl[ci]? = some (C, T, N) ∧ k < N ∧ (∀ w ∈ u_ws C T N, w ∈ mm_W) ∧ Cond.fieldLink own idx (T k).1 (T k).2.1 (T k).2.2.1 ∈ mm_W ∧ (∀ k, k < N → parseFieldDescriptor (T k).2.2.1 = some (ty0 k)) ∧ (∀ a, a < N → ∀ b, b < N → a ≠ b → (T a).2.1 ≠ (T b).2.1) ∧ (T k).2.2.2 = fin ∧ (fin = true → (T k).1 = own) ∧ ty0 k = ty
theorem ex_put {idx ci f o : Nat} {fs : List Value} {v : Value} {fin : Bool} {ty : FieldType} (hd : decode M.2.1 pc = .ok (.putfield idx, 3)) (hg : mm_pf M.1.cls idx ci f fin ty) (he : h.1 o = some (.inr (ci, fs))) (hl : f < fs.length) (hfin : fin = true → M.1.name = "<init>") (hf : ∀ (ws : va_W) (V : Value), mm_v ws v V → narrow ty V = V ∧ fits ty V = true) (k : mm_Ex l G M Q (pc + 3) ls st (mm_set h o (.inr (ci, fs.set f v)))) : mm_Ex l G M Q pc ls (v :: .ref o :: st) h :=
  mm_exH k (Nat.le_refl _) (Nat.le_refl _) (fun p e R s m args below meth c A ws0 h' Z ws H locs cells slots L stC X b1 b2 hS hs hsz w => by
    obtain ⟨C, T, N, ty0, g1, g2, g3, g4, g5, g6, g7, g8, g9⟩ := hg
    obtain ⟨V, _, rfl, hV, hs0⟩ := hs
    obtain ⟨a, E, _, hk, rfl, hs1⟩ := hs0.ref
    obtain ⟨q, e1, fs', e2, e3, e4⟩ := hS.2.2.2.1.2 o _ he
    rw [hk] at e1
    cases e1
    have e2' : E = .inr (ci, fs') := e2
    subst e2'
    obtain ⟨n1, n2⟩ := hf ws V hV
    have hrel : mm_e G.2.1 ws (.inr (ci, fs.set f v)) (.inr (ci, fs'.set f V)) := by
      refine ⟨fs'.set f V, rfl, by show (fs'.set f V).length = (fs.set f v).length; rw [List.length_set, List.length_set, e3], fun j u hj => ?_⟩
      have hj : (fs.set f v)[j]? = some u := hj
      by_cases hjf : f = j
      · subst hjf
        rw [List.getElem?_set_self hl] at hj
        cases hj
        exact ⟨V, by rw [List.getElem?_set_self (by rw [e3]; exact hl)], hV⟩
      · rw [List.getElem?_set_ne hjf] at hj
        obtain ⟨U, u1, u2⟩ := e4 j u hj
        exact ⟨U, by rw [List.getElem?_set_ne hjf]; exact u1, u2⟩
    have fin' : ∀ (H1 : Heap) (locs1 : List Loc), va_P G.1 vwCl (ws.set o (a, .inr (ci, fs'.set f V))) H1 → va_D A (ws.set o (a, .inr (ci, fs'.set f V))) → va_S A s.heap H1 locs1 → W p l e R s m args below meth c H1 locs1 cells slots Z (F0 m (pc + 3) L _) := fun H1 locs1 q1 q2 q3 =>
      w _ H1 locs1 cells slots _ (mm_k.set hk) ⟨q1, q2, q3, hS.2.2.2.1.set hk hrel, hS.2.2.2.2.1.trans (mm_k.set hk), hS.2.2.2.2.2⟩ (hs1.mono (mm_k.set hk))
    cases fin with
    | false => exact va_put X.1 X.2.1 X.2.2.2.1 g3 ty0 g5 g6 X.2.2.2.2.1 X.2.2.2.2.2.1.1 hS.1 hS.2.1 hS.2.2.1 o hk g1 f g2 (X.2.2.2.1 _ g4) (fun _ z => z) g7 (g9 ▸ g5 f g2) n1 n2 (by rw [e3]; exact hl) hd fin'
    | true => exact va_putF X.1 X.2.1 X.2.2.2.1 g3 ty0 g5 g6 X.2.2.2.2.1 X.2.2.2.2.2.1.1 hS.1 hS.2.1 hS.2.2.1 o hk g1 f g2 (X.2.2.2.1 _ g4) (fun _ z => z) g7 ((X.2.2.2.2.2.2.2.2.2.2.1 (by rw [hfin rfl]; decide)).2.trans (hfin rfl)) (g8 rfl) (g9 ▸ g5 f g2) n1 n2 (by rw [e3]; exact hl) hd fin')
theorem mm_fi (x : Int32) : ∀ (ws : va_W) (V : Value), mm_v ws (.int x) V → narrow .int V = V ∧ fits .int V = true := fun ws V h => by rw [show V = .int x from h]; exact ⟨rfl, rfl⟩
theorem mm_fl (x : Int64) : ∀ (ws : va_W) (V : Value), mm_v ws (.long x) V → narrow .long V = V ∧ fits .long V = true := fun ws V h => by rw [show V = .long x from h]; exact ⟨rfl, rfl⟩
theorem mm_fz {x : Int32} (hx : x = 0 ∨ x = 1) : ∀ (ws : va_W) (V : Value), mm_v ws (.int x) V → narrow .boolean V = V ∧ fits .boolean V = true := fun ws V h => by
  rw [show V = .int x from h]
  rcases hx with rfl | rfl <;> exact ⟨rfl, rfl⟩
theorem mm_fo (n : String) (o : Nat) : ∀ (ws : va_W) (V : Value), mm_v ws (.ref o) V → narrow (.object n) V = V ∧ fits (.object n) V = true := fun ws V ⟨q, _, h⟩ => by rw [h]; exact ⟨rfl, rfl⟩
theorem mm_fa (t : FieldType) (o : Nat) : ∀ (ws : va_W) (V : Value), mm_v ws (.ref o) V → narrow (.array t) V = V ∧ fits (.array t) V = true := fun ws V ⟨q, _, h⟩ => by rw [h]; exact ⟨rfl, rfl⟩
end MMR2
end
section
section MMR3
variable {l : Launch} {G : mm_G} {M : mm_M} {Q : mm_R → mm_H → Prop} {pc pc' : Nat} {ls ls' st st' : List Value} {h h2 : mm_H}
theorem mm_arr {cA : mm_A} {ws : va_W} {h : mm_H} (hh : mm_h cA h ws) {o a : Nat} {E : va_E} (hk : ws[o]? = some (a, E)) {ty : FieldType} {x : vp_A} (he : h.1 o = some (.inl (ty, x))) : ws[o]? = some (a, .inl (cA ty, x)) := by
  obtain ⟨q, e1, e2⟩ := hh.2 o _ he
  rw [hk] at e1
  cases e1
  rw [hk]
  exact congrArg (fun z => some (a, z)) e2
theorem ex_iaload {o n : Nat} {f : Nat → Int32} {i : Int32} (hd : decode M.2.1 pc = .ok (.iaload, 1)) (he : h.1 o = some (.inl (.int, n, .inl f))) (hi : vp_in i n) (k : mm_Ex l G M Q (pc + 1) ls (.int (f i.toNatClampNeg) :: st) h) : mm_Ex l G M Q pc ls (.int i :: .ref o :: st) h :=
  mm_exH k (Nat.le_refl _) (Nat.le_refl _) (fun p e R s m args below meth c A ws0 h' Z ws H locs cells slots L stC X b1 b2 hS hs hsz w => by
    obtain ⟨_, rfl, hs0⟩ := hs.int
    obtain ⟨a, E, _, hk, rfl, hs1⟩ := hs0.ref
    exact va_iald X.1 X.2.1 X.2.2.2.2.2.1.1 hS.1 o 0 (mm_arr hS.2.2.2.1 hk he) rfl hi hd (w ws H locs cells slots _ (mm_k.refl ws) hS hs1.pi))
theorem ex_baload {o n : Nat} {f : Nat → Int32} {i : Int32} (hd : decode M.2.1 pc = .ok (.baload, 1)) (he : h.1 o = some (.inl (.boolean, n, .inl f))) (hi : vp_in i n) (k : mm_Ex l G M Q (pc + 1) ls (.int (f i.toNatClampNeg) :: st) h) : mm_Ex l G M Q pc ls (.int i :: .ref o :: st) h :=
  mm_exH k (Nat.le_refl _) (Nat.le_refl _) (fun p e R s m args below meth c A ws0 h' Z ws H locs cells slots L stC X b1 b2 hS hs hsz w => by
    obtain ⟨_, rfl, hs0⟩ := hs.int
    obtain ⟨a, E, _, hk, rfl, hs1⟩ := hs0.ref
    exact va_zald X.1 X.2.1 X.2.2.2.2.2.1.1 hS.1 o 1 (mm_arr hS.2.2.2.1 hk he) rfl hi hd (w ws H locs cells slots _ (mm_k.refl ws) hS hs1.pi))
theorem ex_laload {o n : Nat} {f : Nat → Int64} {i : Int32} (hd : decode M.2.1 pc = .ok (.laload, 1)) (he : h.1 o = some (.inl (.long, n, .inr (.inl f)))) (hi : vp_in i n) (k : mm_Ex l G M Q (pc + 1) ls (.long (f i.toNatClampNeg) :: st) h) : mm_Ex l G M Q pc ls (.int i :: .ref o :: st) h :=
  mm_exH k (Nat.le_refl _) (Nat.le_refl _) (fun p e R s m args below meth c A ws0 h' Z ws H locs cells slots L stC X b1 b2 hS hs hsz w => by
    obtain ⟨_, rfl, hs0⟩ := hs.int
    obtain ⟨a, E, _, hk, rfl, hs1⟩ := hs0.ref
    exact va_lald X.1 X.2.1 X.2.2.2.2.2.1.1 hS.1 o 2 (mm_arr hS.2.2.2.1 hk he) rfl hi hd (w ws H locs cells slots _ (mm_k.refl ws) hS hs1.pl))
theorem ex_iastore {o n : Nat} {f : Nat → Int32} {i x : Int32} (hd : decode M.2.1 pc = .ok (.iastore, 1)) (he : h.1 o = some (.inl (.int, n, .inl f))) (hi : vp_in i n) (k : mm_Ex l G M Q (pc + 1) ls st (mm_set h o (.inl (.int, n, .inl (upd f i.toNatClampNeg x))))) : mm_Ex l G M Q pc ls (.int x :: .int i :: .ref o :: st) h :=
  mm_exH k (Nat.le_refl _) (Nat.le_refl _) (fun p e R s m args below meth c A ws0 h' Z ws H locs cells slots L stC X b1 b2 hS hs hsz w => by
    obtain ⟨_, rfl, hsa⟩ := hs.int
    obtain ⟨_, rfl, hs0⟩ := hsa.int
    obtain ⟨a, E, _, hk, rfl, hs1⟩ := hs0.ref
    exact va_iast X.1 X.2.1 X.2.2.2.2.2.1.1 hS.1 hS.2.1 hS.2.2.1 o 0 (mm_arr hS.2.2.2.1 hk he) rfl hi hd (fun H1 locs1 q1 q2 q3 => w _ H1 locs1 cells slots _ (mm_k.set hk) ⟨q1, q2, q3, hS.2.2.2.1.set hk rfl, hS.2.2.2.2.1.trans (mm_k.set hk), hS.2.2.2.2.2⟩ (hs1.mono (mm_k.set hk))))
theorem ex_bastore {o n : Nat} {f : Nat → Int32} {i x : Int32} (hd : decode M.2.1 pc = .ok (.bastore, 1)) (he : h.1 o = some (.inl (.boolean, n, .inl f))) (hi : vp_in i n) (hx : x = 0 ∨ x = 1) (k : mm_Ex l G M Q (pc + 1) ls st (mm_set h o (.inl (.boolean, n, .inl (upd f i.toNatClampNeg x))))) : mm_Ex l G M Q pc ls (.int x :: .int i :: .ref o :: st) h :=
  mm_exH k (Nat.le_refl _) (Nat.le_refl _) (fun p e R s m args below meth c A ws0 h' Z ws H locs cells slots L stC X b1 b2 hS hs hsz w => by
    obtain ⟨_, rfl, hsa⟩ := hs.int
    obtain ⟨_, rfl, hs0⟩ := hsa.int
    obtain ⟨a, E, _, hk, rfl, hs1⟩ := hs0.ref
    have hx' : vp_nar .boolean x = x := by rcases hx with rfl | rfl <;> rfl
    exact va_zast X.1 X.2.1 X.2.2.2.2.2.1.1 hS.1 hS.2.1 hS.2.2.1 o 1 (mm_arr hS.2.2.2.1 hk he) rfl hi hd (fun H1 locs1 q1 q2 q3 => by
      rw [hx'] at q1 q2
      exact w _ H1 locs1 cells slots _ (mm_k.set hk) ⟨q1, q2, q3, hS.2.2.2.1.set hk rfl, hS.2.2.2.2.1.trans (mm_k.set hk), hS.2.2.2.2.2⟩ (hs1.mono (mm_k.set hk))))
theorem ex_lastore {o n : Nat} {f : Nat → Int64} {i : Int32} {x : Int64} (hd : decode M.2.1 pc = .ok (.lastore, 1)) (he : h.1 o = some (.inl (.long, n, .inr (.inl f)))) (hi : vp_in i n) (k : mm_Ex l G M Q (pc + 1) ls st (mm_set h o (.inl (.long, n, .inr (.inl (vp_updL f i.toNatClampNeg x)))))) : mm_Ex l G M Q pc ls (.long x :: .int i :: .ref o :: st) h :=
  mm_exH k (Nat.le_refl _) (Nat.le_refl _) (fun p e R s m args below meth c A ws0 h' Z ws H locs cells slots L stC X b1 b2 hS hs hsz w => by
    obtain ⟨_, rfl, hsa⟩ := hs.long
    obtain ⟨_, rfl, hs0⟩ := hsa.int
    obtain ⟨a, E, _, hk, rfl, hs1⟩ := hs0.ref
    exact va_last X.1 X.2.1 X.2.2.2.2.2.1.1 hS.1 hS.2.1 hS.2.2.1 o 2 (mm_arr hS.2.2.2.1 hk he) rfl hi hd (fun H1 locs1 q1 q2 q3 => w _ H1 locs1 cells slots _ (mm_k.set hk) ⟨q1, q2, q3, hS.2.2.2.1.set hk rfl, hS.2.2.2.2.1.trans (mm_k.set hk), hS.2.2.2.2.2⟩ (hs1.mono (mm_k.set hk))))
theorem ex_alen {o : Nat} {x : vp_A} {ty : FieldType} (hd : decode M.2.1 pc = .ok (.arraylength, 1)) (he : h.1 o = some (.inl (ty, x))) (hty : ty = .int ∨ ty = .boolean ∨ ty = .long) (k : mm_Ex l G M Q (pc + 1) ls (.int (Int32.ofNat x.1) :: st) h) : mm_Ex l G M Q pc ls (.ref o :: st) h :=
  mm_exH k (Nat.le_refl _) (Nat.le_refl _) (fun p e R s m args below meth c A ws0 h' Z ws H locs cells slots L stC X b1 b2 hS hs hsz w => by
    obtain ⟨a, E, _, hk, rfl, hs1⟩ := hs.ref
    have w' := w ws H locs cells slots _ (mm_k.refl ws) hS hs1.pi
    rcases hty with rfl | rfl | rfl
    · exact va_alen X.1 X.2.1 X.2.2.2.2.2.1.1 hS.1 o 0 (mm_arr hS.2.2.2.1 hk he) rfl rfl hd w'
    · exact va_alen X.1 X.2.1 X.2.2.2.2.2.1.1 hS.1 o 1 (mm_arr hS.2.2.2.1 hk he) rfl rfl hd w'
    · exact va_alen X.1 X.2.1 X.2.2.2.2.2.1.1 hS.1 o 2 (mm_arr hS.2.2.2.1 hk he) rfl rfl hd w')
def mm_nw (own : String) (idx ci N : Nat) (fs : List Value) : Prop := ∃ (C : String) (T : u_T) (ty : Nat → FieldType), vwCl[ci]? = some (C, T, N) ∧ (∀ w ∈ u_ws C T N, w ∈ mm_W) ∧ (∀ k, k < N → parseFieldDescriptor (T k).2.2.1 = some (ty k)) ∧ Cond.classLink own idx C ∈ mm_W ∧ Cond.instantiable C N ∈ mm_W ∧ Cond.initialized C ∈ mm_W ∧ (∀ j, j < N → defaultValue (ty j) = vp_V fs j) ∧ (∀ v ∈ fs, v = .null ∨ v = .int 0 ∨ v = .long 0)
theorem ex_new {idx ci N : Nat} {fs : List Value} (hd : decode M.2.1 pc = .ok (.new idx, 3)) (hg : mm_nw M.1.cls idx ci N fs) (k : mm_Ex l G M Q (pc + 3) ls (.ref h.2.1 :: st) (mm_new h (.inr (ci, fs)) N)) : mm_Ex l G M Q pc ls st h :=
  mm_exH k (Nat.le_succ _) (Nat.le_add_right _ _) (fun p e R s m args below meth c A ws0 h' Z ws H locs cells slots L stC X b1 b2 hS hs hsz w => by
    obtain ⟨C, T, ty, g1, g3, g5, g6, g7, g8, g9, g10⟩ := hg
    have b1' : h.2.2.1 + 1 ≤ h'.2.2.1 := b1
    have b2' : h.2.2.2 + N ≤ h'.2.2.2 := b2
    obtain ⟨hP, hD, hSS, hh, hk0, hc1, hc2⟩ := hS
    have hrel : ∀ ws : va_W, mm_e G.2.1 ws (.inr (ci, fs)) (.inr (ci, fs)) := fun ws => ⟨fs, rfl, rfl, fun j v hj => ⟨v, hj, by
      rcases g10 v (List.mem_of_getElem? hj) with rfl | rfl | rfl <;> rfl⟩⟩
    refine va_new X.1 X.2.1 X.2.2.2.1 g3 ty g5 X.2.2.2.2.1 (X.2.2.2.1 _ g6) (X.2.2.2.1 _ g7) (X.2.2.2.1 _ g8) X.2.2.2.2.2.1.1 hP hD hSS X.2.2.2.2.2.2.1 g1 g9 (by omega) (by omega) hd (fun q H1 q1 q2 q3 => ?_)
    have hk1 : mm_k ws (ws ++ [(q, .inr (ci, fs))]) := mm_k.push ws _
    refine w _ H1 locs (cells + 1) (slots + N) _ hk1 ⟨q1, q2, q3, hh.push (hrel ws), hk0.trans hk1, ?_, ?_⟩ (mm_s.pr (a := q) (E := .inr (ci, fs)) ?_ (hs.mono hk1))
    · show cells + 1 + h'.2.2.1 ≤ R.cells + (h.2.2.1 + 1); omega
    · show slots + N + h'.2.2.2 ≤ R.slots + (h.2.2.2 + N); omega
    · rw [← hh.1, List.getElem?_append_right (Nat.le_refl _), Nat.sub_self]; rfl)
theorem mm_cA {D : va_G} {cA : mm_A} {s : State} {c9 : ClassId} {ty : FieldType} {t0 : Nat} (hK : va_K D vwCl (mm_tys cA) s) (ht : (mm_tys cA)[t0]? = some (cA ty, ty)) (hK2 : va_K D vwCl (mm_tys cA ++ [(c9, ty)]) s) (hty : ty = .int ∨ ty = .boolean ∨ ty = .long) : c9 = cA ty := by
  have h1 := (hK.2 t0 _ ht).2
  have h2 := (hK2.2 3 (c9, ty) rfl).2
  rcases hty with rfl | rfl | rfl <;> exact Option.some.inj (h2.symm.trans h1)
theorem ex_newI {n : Int32} {N : Nat} (hd : decode M.2.1 pc = .ok (.newarray .int, 2)) (hw : Cond.arrayClass .int ∈ mm_W) (hn : ¬ n < 0) (hN : n.toNatClampNeg = N) (hb : N ≤ 100000000) (k : mm_Ex l G M Q (pc + 2) ls (.ref h.2.1 :: st) (mm_new h (.inl (.int, N, .inl (fun _ => 0))) N)) : mm_Ex l G M Q pc ls (.int n :: st) h :=
  mm_exH k (Nat.le_succ _) (Nat.le_add_right _ _) (fun p e R s m args below meth c A ws0 h' Z ws H locs cells slots L stC X b1 b2 hS hs hsz w => by
    have b1' : h.2.2.1 + 1 ≤ h'.2.2.1 := b1
    have b2' : h.2.2.2 + N ≤ h'.2.2.2 := b2
    obtain ⟨_, rfl, hs1⟩ := hs.int
    obtain ⟨hP, hD, hSS, hh, hk0, hc1, hc2⟩ := hS
    refine va_newa (atype := .int) (ty := .int) (N' := N) (a0 := (N, .inl (fun _ => 0))) X.1 X.2.1 (X.2.2.2.1 _ hw) rfl X.2.2.2.2.2.1.1 hP hD hSS X.2.2.2.2.2.2.1 (fun cA => rfl) hn hN (by show N * 4 ≤ _; omega) (by omega) (by omega) hd (fun q c9 H1 hK2 q1 q2 q3 => ?_)
    have hc9 := mm_cA (t0 := 0) X.2.2.2.2.2.1.1 rfl hK2 (Or.inl rfl)
    subst hc9
    have hk1 : mm_k ws (ws ++ [(q, .inl (G.2.1 .int, N, .inl (fun _ => 0)))]) := mm_k.push ws _
    refine w _ H1 locs (cells + 1) (slots + N) _ hk1 ⟨q1, q2, q3, hh.push rfl, hk0.trans hk1, ?_, ?_⟩ (mm_s.pr (a := q) (E := .inl (G.2.1 .int, N, .inl (fun _ => 0))) ?_ (hs1.mono hk1))
    · show cells + 1 + h'.2.2.1 ≤ R.cells + (h.2.2.1 + 1); omega
    · show slots + N + h'.2.2.2 ≤ R.slots + (h.2.2.2 + N); omega
    · rw [← hh.1, List.getElem?_append_right (Nat.le_refl _), Nat.sub_self]; rfl)
theorem ex_newZ {n : Int32} {N : Nat} (hd : decode M.2.1 pc = .ok (.newarray .boolean, 2)) (hw : Cond.arrayClass .boolean ∈ mm_W) (hn : ¬ n < 0) (hN : n.toNatClampNeg = N) (hb : N ≤ 100000000) (k : mm_Ex l G M Q (pc + 2) ls (.ref h.2.1 :: st) (mm_new h (.inl (.boolean, N, .inl (fun _ => 0))) N)) : mm_Ex l G M Q pc ls (.int n :: st) h :=
  mm_exH k (Nat.le_succ _) (Nat.le_add_right _ _) (fun p e R s m args below meth c A ws0 h' Z ws H locs cells slots L stC X b1 b2 hS hs hsz w => by
    have b1' : h.2.2.1 + 1 ≤ h'.2.2.1 := b1
    have b2' : h.2.2.2 + N ≤ h'.2.2.2 := b2
    obtain ⟨_, rfl, hs1⟩ := hs.int
    obtain ⟨hP, hD, hSS, hh, hk0, hc1, hc2⟩ := hS
    refine va_newa (atype := .boolean) (ty := .boolean) (N' := N) (a0 := (N, .inl (fun _ => 0))) X.1 X.2.1 (X.2.2.2.1 _ hw) rfl X.2.2.2.2.2.1.1 hP hD hSS X.2.2.2.2.2.2.1 (fun cA => rfl) hn hN (by show N * 1 ≤ _; omega) (by omega) (by omega) hd (fun q c9 H1 hK2 q1 q2 q3 => ?_)
    have hc9 := mm_cA (t0 := 1) X.2.2.2.2.2.1.1 rfl hK2 (Or.inr (Or.inl rfl))
    subst hc9
    have hk1 : mm_k ws (ws ++ [(q, .inl (G.2.1 .boolean, N, .inl (fun _ => 0)))]) := mm_k.push ws _
    refine w _ H1 locs (cells + 1) (slots + N) _ hk1 ⟨q1, q2, q3, hh.push rfl, hk0.trans hk1, ?_, ?_⟩ (mm_s.pr (a := q) (E := .inl (G.2.1 .boolean, N, .inl (fun _ => 0))) ?_ (hs1.mono hk1))
    · show cells + 1 + h'.2.2.1 ≤ R.cells + (h.2.2.1 + 1); omega
    · show slots + N + h'.2.2.2 ≤ R.slots + (h.2.2.2 + N); omega
    · rw [← hh.1, List.getElem?_append_right (Nat.le_refl _), Nat.sub_self]; rfl)
theorem ex_newJ {n : Int32} {N : Nat} (hd : decode M.2.1 pc = .ok (.newarray .long, 2)) (hw : Cond.arrayClass .long ∈ mm_W) (hn : ¬ n < 0) (hN : n.toNatClampNeg = N) (hb : N ≤ 10000000) (k : mm_Ex l G M Q (pc + 2) ls (.ref h.2.1 :: st) (mm_new h (.inl (.long, N, .inr (.inl (fun _ => 0)))) N)) : mm_Ex l G M Q pc ls (.int n :: st) h :=
  mm_exH k (Nat.le_succ _) (Nat.le_add_right _ _) (fun p e R s m args below meth c A ws0 h' Z ws H locs cells slots L stC X b1 b2 hS hs hsz w => by
    have b1' : h.2.2.1 + 1 ≤ h'.2.2.1 := b1
    have b2' : h.2.2.2 + N ≤ h'.2.2.2 := b2
    obtain ⟨_, rfl, hs1⟩ := hs.int
    obtain ⟨hP, hD, hSS, hh, hk0, hc1, hc2⟩ := hS
    refine va_newa (atype := .long) (ty := .long) (N' := N) (a0 := (N, .inr (.inl (fun _ => 0)))) X.1 X.2.1 (X.2.2.2.1 _ hw) rfl X.2.2.2.2.2.1.1 hP hD hSS X.2.2.2.2.2.2.1 (fun cA => rfl) hn hN (by show N * 8 ≤ _; omega) (by omega) (by omega) hd (fun q c9 H1 hK2 q1 q2 q3 => ?_)
    have hc9 := mm_cA (t0 := 2) X.2.2.2.2.2.1.1 rfl hK2 (Or.inr (Or.inr rfl))
    subst hc9
    have hk1 : mm_k ws (ws ++ [(q, .inl (G.2.1 .long, N, .inr (.inl (fun _ => 0))))]) := mm_k.push ws _
    refine w _ H1 locs (cells + 1) (slots + N) _ hk1 ⟨q1, q2, q3, hh.push rfl, hk0.trans hk1, ?_, ?_⟩ (mm_s.pr (a := q) (E := .inl (G.2.1 .long, N, .inr (.inl (fun _ => 0)))) ?_ (hs1.mono hk1))
    · show cells + 1 + h'.2.2.1 ≤ R.cells + (h.2.2.1 + 1); omega
    · show slots + N + h'.2.2.2 ≤ R.slots + (h.2.2.2 + N); omega
    · rw [← hh.1, List.getElem?_append_right (Nat.le_refl _), Nat.sub_self]; rfl)
theorem ex_copyI {idx o0 o1 n0 n1 : Nat} {f g : Nat → Int32} {sp dp n : Int32} (hd : decode M.2.1 pc = .ok (.invokestatic idx, 3)) (hl : Cond.methodLink M.1.cls idx arraycopyName ∈ mm_W ∧ Cond.native arraycopyName ∈ mm_W ∧ Cond.static arraycopyName ∈ mm_W ∧ Cond.initialized "java/lang/System" ∈ mm_W)
    (he0 : h.1 o0 = some (.inl (.int, n0, .inl f))) (he1 : h.1 o1 = some (.inl (.int, n1, .inl g))) (h1 : ¬ sp < 0) (h2' : ¬ dp < 0) (h3 : ¬ n < 0) (h4 : sp.toNatClampNeg + n.toNatClampNeg ≤ n0) (h5 : dp.toNatClampNeg + n.toNatClampNeg ≤ n1)
    (hfr : 1 ≤ M.2.2.2.2.2.1) (hlo : (st.map fun v => v.category).sum + (nativeFrameWords "java/lang/System" "arraycopy" 5 + 11) ≤ M.2.2.2.2.2.2)
    (k : mm_Ex l G M Q (pc + 3) ls st (mm_set h o1 (.inl (.int, n1, .inl (va_cpy f g sp.toNatClampNeg dp.toNatClampNeg n.toNatClampNeg))))) : mm_Ex l G M Q pc ls (.int n :: .int dp :: .ref o1 :: .int sp :: .ref o0 :: st) h :=
  mm_exH k (Nat.le_refl _) (Nat.le_refl _) (fun p e R s m args below meth c A ws0 h' Z ws H locs cells slots L stC X b1 b2 hS hs hsz w => by
    obtain ⟨_, rfl, ha⟩ := hs.int
    obtain ⟨_, rfl, hb⟩ := ha.int
    obtain ⟨a1, E1, _, hk1, rfl, hc⟩ := hb.ref
    obtain ⟨_, rfl, hd'⟩ := hc.int
    obtain ⟨a0, E0, _, hk0, rfl, hs1⟩ := hd'.ref
    exact va_copyi X.1 X.2.1 hsz.symm X.2.2.2.2.1 (X.2.2.2.1 _ hl.1) (X.2.2.2.1 _ hl.2.1) (X.2.2.2.1 _ hl.2.2.1) (X.2.2.2.1 _ hl.2.2.2) X.2.2.2.2.2.1.1 hS.1 hS.2.1 hS.2.2.1 o0 o1 0 0 (mm_arr hS.2.2.2.1 hk0 he0) (mm_arr hS.2.2.2.1 hk1 he1) rfl rfl rfl h1 h2' h3 h4 h5 (fun _ _ => rfl) (by rw [X.2.2.2.2.2.2.2.2.1]; exact hfr) (by rw [X.2.2.2.2.2.2.2.2.2.1, hs1.cat]; exact hlo) hd
      (fun H1 locs1 q1 q2 q3 => w _ H1 locs1 cells slots _ (mm_k.set hk1) ⟨q1, q2, q3, hS.2.2.2.1.set hk1 rfl, hS.2.2.2.2.1.trans (mm_k.set hk1), hS.2.2.2.2.2⟩ (hs1.mono (mm_k.set hk1))))
theorem ex_objInit {idx o : Nat} (hd : decode M.2.1 pc = .ok (.invokespecial idx, 3)) (hl : Cond.methodLink M.1.cls idx Lib.objectInit ∈ mm_W ∧ Cond.instanceMethod Lib.objectInit ∈ mm_W ∧ Cond.code Lib.objectInit ⟨#[0xb1]⟩ 1 none ∈ mm_W) (hfr : 1 ≤ M.2.2.2.2.2.1) (hlo : (st.map fun v => v.category).sum + 12 ≤ M.2.2.2.2.2.2) (k : mm_Ex l G M Q (pc + 3) ls st h) : mm_Ex l G M Q pc ls (.ref o :: st) h :=
  mm_exH k (Nat.le_refl _) (Nat.le_refl _) (fun p e R s m args below meth c A ws0 h' Z ws H locs cells slots L stC X b1 b2 hS hs hsz w => by
    obtain ⟨a, E, _, hk, rfl, hs1⟩ := hs.ref
    refine W.objInit X.1 X.2.1 X.2.2.2.2.1 (X.2.2.2.1 _ hl.1) (X.2.2.2.1 _ hl.2.1) (X.2.2.2.1 _ hl.2.2) rfl hsz rfl hd (by rw [X.2.2.2.2.2.2.2.2.1]; exact hfr) ?_ (w ws H locs cells slots _ (mm_k.refl ws) hS hs1)
    rw [X.2.2.2.2.2.2.2.2.2.1, hs1.cat]
    show 2 * 0 + _ + 12 ≤ _
    omega)
theorem ex_ireturn {x : Int32} (hd : decode M.2.1 pc = .ok (.ireturn, 1)) (hn : ∃ ty, M.2.2.2.1 = some ty ∧ narrow ty (.int x) = .int x) (q : Q (.inl (some (.int x))) h) : mm_Ex l G M Q pc ls [.int x] h :=
  ⟨_, h, ⟨Nat.le_refl _, Nat.le_refl _, fun p e R s m args below meth c A ws0 Z X F ws H locs cells slots L stC hS hl hlen hs => by
    obtain ⟨L0, rfl, hs1⟩ := hs.int
    rw [show L0 = [] from hs1]
    exact (F.1 ws H locs cells slots L hS).1 x pc rfl hn hd⟩, q⟩
theorem ex_return (hd : decode M.2.1 pc = .ok (.return_, 1)) (hn : M.2.2.2.1 = none) (q : Q (.inl none) h) : mm_Ex l G M Q pc ls [] h :=
  ⟨_, h, ⟨Nat.le_refl _, Nat.le_refl _, fun p e R s m args below meth c A ws0 Z X F ws H locs cells slots L stC hS hl hlen hs => by
    rw [show stC = [] from hs]
    exact (F.1 ws H locs cells slots L hS).2.2.1 pc rfl hn hd⟩, q⟩
theorem ex_areturn {o : Nat} (hd : decode M.2.1 pc = .ok (.areturn, 1)) (hn : ∃ t, M.2.2.2.1 = some (.array t)) (q : Q (.inl (some (.ref o))) h) : mm_Ex l G M Q pc ls [.ref o] h :=
  ⟨_, h, ⟨Nat.le_refl _, Nat.le_refl _, fun p e R s m args below meth c A ws0 Z X F ws H locs cells slots L stC hS hl hlen hs => by
    obtain ⟨a, E, L0, hk, rfl, hs1⟩ := hs.ref
    rw [show L0 = [] from hs1]
    exact (F.1 ws H locs cells slots L hS).2.1 o a E pc rfl hk hn hd⟩, q⟩
end MMR3
end
section
theorem mm_gi {ws : List Cond} (h : ∀ w ∈ ws, w ∈ mm_W) : GoodIn mm_W ws := fun w hw => ⟨h w hw, good_of_word (List.mem_filter.mp (h w hw)).2⟩
theorem mm_in {w : Cond} (i : Nat) (h : lw_tbl[i]? = some w) (hg : goodWord w = true) : w ∈ mm_W := List.mem_filter.mpr ⟨List.mem_of_getElem? h, hg⟩
theorem mm_V.same {G : mm_G} {u U : State} (hv : U.vm = u.vm) (h : mm_V G u) : mm_V G U :=
  ⟨h.1.moved (by rw [hv]; exact Vm.Alike.refl _), h.2.1.same hv, h.2.2.1.same hv, h.2.2.2.1.same hv, h.2.2.2.2.1.moved (by rw [hv]; exact Vm.Alike.refl _), h.2.2.2.2.2.1.moved (by rw [hv]; exact Vm.Alike.refl _), fun w hw => va_Nw.same (mm_N_tab hw) hv.symm (h.2.2.2.2.2.2 w hw)⟩
theorem mm_blind {G : mm_G} {ws0 : va_W} {sz : Nat} {asC : List Value} : FrameBlind (va_Pc asC (mm_P G ws0 sz)) := fun a U g mk h =>
  ⟨h.1, h.2.1, h.2.2.1, h.2.2.2.1, mm_V.same (u := U) (U := U.calling g mk a) rfl h.2.2.2.2.1, vx_Zq.moved (u := U) (U := U.calling g mk a) (Vm.Alike.refl U.vm) h.2.2.2.2.2.1, vx_Zq.moved (u := U) (U := U.calling g mk a) (Vm.Alike.refl U.vm) h.2.2.2.2.2.2⟩
section MMC
variable {p : Program} {l : Launch} {e : Env} {R : Room} {s : State} {m : MethodId} {args : Array Value} {below : List Frame} {meth : Method} {c : Code} {H : Heap} {locs : List Loc} {cells slots : Nat}
variable {G : mm_G} {M : mm_M} {A : Nat → Prop} {ws0 ws : va_W} {h h' h1 : mm_H}
theorem mm_free (hS : mm_S G R s A ws0 h h' ws H locs cells slots) (hA : ∀ q, s.heap.size ≤ q → A q) : ∀ q, va_A ws H.size q → A q := fun q hq => by
  rcases hq with ⟨k, e, hk⟩ | hq
  · exact hS.2.1.2 k (q, e) hk
  · exact hA q (Nat.le_trans hS.2.2.1.1 hq)
/-- the callee's start -/
theorem mm_pre (X : mm_X G M p R s m args meth c A) (hS : mm_S G R s A ws0 h h' ws H locs cells slots) {asC : List Value} : ∀ U : State, U.heap = H → s.WarmedH U.vm → va_Pc asC (mm_P G ws H.size) asC.toArray U := fun U hU hW => by
  have hz : ∀ {C n d : String}, vx_Zq C n d A s s.heap → vx_Zq C n d (va_A ws H.size) U U.heap := fun hq => by
    rw [hU]
    exact (vx_Zq.moved hW.alike (hq.kept hS.2.2.1.2.1)).narrow (mm_free hS X.2.2.2.2.2.2.1)
  exact ⟨rfl, by rw [hU], by rw [hU]; exact hS.1, hS.2.1.weaken (fun _ _ _ _ => trivial), X.2.2.2.2.2.1.warm hW, hz X.2.2.2.2.2.2.2.1.1, hz X.2.2.2.2.2.2.2.1.2⟩
theorem mm_after {Z : State → Prop} {pc : Nat} {L : Array Slot} {st0 rest : List Value} {r1 : mm_R} {a : Array Value} {mc ms : Nat} (X : mm_X G M p R s m args meth c A) (hS : mm_S G R s A ws0 h h' ws H locs cells slots)
    (hmc : mc = h1.2.2.1 - h.2.2.1) (hms : ms = h1.2.2.2 - h.2.2.2) (l1 : h.2.2.1 ≤ h1.2.2.1) (l2 : h.2.2.2 ≤ h1.2.2.2)
    (hr : vx_Run p l e R s m args below meth c H locs cells slots mc ms (F0 m pc L st0) rest (mm_Q G ws H.size r1 h1 a) (mm_XC G ws H.size r1 h1) (va_A ws H.size))
    (kk : ∀ (ov V : Option Value) (ws1 : va_W) (H1 : Heap) (locs1 : List Loc), r1 = .inl ov → mm_o ws1 ov V → mm_k ws ws1 → mm_S G R s A ws0 h1 h' ws1 H1 locs1 (cells + mc) (slots + ms) → W p l e R s m args below meth c H1 locs1 (cells + mc) (slots + ms) Z (F0 m (pc + 3) L (V.toList ++ rest)))
    (kx : ∀ (E : String) (ws1 : va_W) (H1 : Heap) (locs1 : List Loc) (q : Addr) (ce : Cell), r1 = .inr E → mm_k ws ws1 → mm_S G R s A ws0 h1 h' ws1 H1 locs1 (cells + mc) (slots + ms) → H1[q]? = some ce → ce.vm = .none → s.vm.findClass E = some ce.cls → vx_W p l e R s m args below meth c H1 locs1 (cells + mc) (slots + ms) Z (F0 m pc L rest) q) :
    W p l e R s m args below meth c H locs cells slots Z (F0 m pc L st0) := by
  have hf := mm_free hS X.2.2.2.2.2.2.1
  intro T hT XX
  rcases hr T hT XX with ⟨v, st₀, t, T', L', h0, X', hL, e1, e2, ⟨⟨ov, V, ws1, hr1, hv, ho, hk, hP, hD, hh⟩, hF⟩, stp⟩ | ⟨q, st₀, t, T', L', E, ce, h0, X', hL, e1, e2, ⟨⟨ws1, hr1, hk, hP, hD, hh⟩, hF⟩, hce, hcv, hcl, stp⟩
  · cases hv
    obtain ⟨z1, z2, z3⟩ := vx_keep h0 e1 hS.2.2.1 (fun q _ hq => hf q hq) hf hL hF
    obtain ⟨t2, a1, b1⟩ := kk ov _ ws1 T'.heap (locs ++ L') hr1 ho hk ⟨by rw [e1]; exact hP, hD.weaken (fun _ _ _ hq => hf _ hq), z3, hh, hS.2.2.2.2.1.trans hk, by have := hS.2.2.2.2.2.1; omega, by have := hS.2.2.2.2.2.2; omega⟩ T' rfl X'
    exact ⟨t2, stp t2 a1, b1⟩
  · obtain ⟨z1, z2, z3⟩ := vx_keep h0 e1 hS.2.2.1 (fun q _ hq => hf q hq) hf hL hF
    obtain ⟨t2, a1, b1⟩ := kx E ws1 T'.heap (locs ++ L') q ce hr1 hk ⟨by rw [e1]; exact hP, hD.weaken (fun _ _ _ hq => hf _ hq), z3, hh, hS.2.2.2.2.1.trans hk, by have := hS.2.2.2.2.2.1; omega, by have := hS.2.2.2.2.2.2; omega⟩ (by rw [e1]; exact hce) hcv hcl T' rfl X'
    exact ⟨t2, stp.trans a1, b1⟩
end MMC
/-- how a method is linked, by the way of its call; the words of it -/
def mm_nm (y : MethodName) (n : Nat) : Prop := y.cls ≠ "java/lang/invoke/MethodHandle" ∧ y.cls ≠ "java/lang/invoke/VarHandle" ∧ (parseMethodDescriptor y.desc).map (fun d => d.parameters.length) = some n
def mm_LV (own : String) (idx : Nat) (M' : mm_M) (ci n : Nat) : Prop := mm_wsx M' = mm_ws M' ∧ (∀ w ∈ wsV own idx M'.1.cls M'.1 (mm_ws M'), w ∈ mm_W) ∧ mm_nm M'.1 n ∧ (vwCl[ci]?.map (fun q => q.1)) = some M'.1.cls
def mm_LS (own : String) (idx : Nat) (M' : mm_M) (n : Nat) : Prop := mm_wsx M' = mm_ws M' ∧ (∀ w ∈ va_wsS own idx M'.1 (mm_ws M'), w ∈ mm_W) ∧ mm_nm M'.1 n
def mm_LI (own : String) (idx : Nat) (M' : mm_M) (n : Nat) : Prop := mm_wsx M' = mm_ws M' ∧ (∀ w ∈ mm_ws M', w ∈ mm_W) ∧ Cond.initialized M'.1.cls ∈ mm_W ∧ Cond.methodLink own idx M'.1 ∈ mm_W ∧ Cond.instanceMethod M'.1 ∈ mm_W ∧ M'.1.name = "<init>" ∧ mm_nm M'.1 n ∧ M'.2.2.2.1 = none
def mm_LIN (own : String) (idx : Nat) (M' : mm_M) (host : String) (n : Nat) : Prop := mm_wsx M' = mm_ws M' ∧ (∀ w ∈ mm_ws M', w ∈ mm_W) ∧ Cond.initialized M'.1.cls ∈ mm_W ∧ Cond.methodLinkNest own idx M'.1 host ∈ mm_N ∧ Cond.instanceMethod M'.1 ∈ mm_W ∧ M'.1.name = "<init>" ∧ mm_nm M'.1 n ∧ M'.2.2.2.1 = none
def mm_LSN (own : String) (idx : Nat) (M' : mm_M) (host : String) (n : Nat) : Prop := mm_wsx M' = mm_ws M' ∧ (∀ w ∈ mm_ws M', w ∈ mm_W) ∧ Cond.initialized M'.1.cls ∈ mm_W ∧ Cond.methodLinkNest own idx M'.1 host ∈ mm_N ∧ Cond.static M'.1 ∈ mm_W ∧ mm_nm M'.1 n
def mm_LSW (own : String) (idx : Nat) (M' : mm_M) (n : Nat) : Prop := (∀ w ∈ va_wsS own idx M'.1 (mm_wsH M'), w ∈ mm_W) ∧ mm_nm M'.1 n
/-- the room of a callee in its caller's -/
def mm_rr (M M' : mm_M) : Prop := M'.2.2.2.2.2.1 + 1 ≤ M.2.2.2.2.2.1 ∧ 8 + (M'.2.2.1 + 11) + M'.2.2.2.2.2.2 ≤ M.2.2.2.2.2.2
section MMK
variable {l : Launch} {G : mm_G} {M M' : mm_M} {Q Q1 : mm_R → mm_H → Prop} {pc idx n : Nat} {ls st as stk : List Value} {h : mm_H}
/-- the frame of every call rule: as is what is passed, receiver first -/
theorem mm_call (hc : mm_Ct l G M' as h Q1) (hstk : stk = as.reverse ++ st) (hH : M.2.2.2.2.1 = [])
    (F : ∀ (p : Program) (e : Env) (R : Room) (s : State) (m : MethodId) (args : Array Value) (below : List Frame) (meth : Method) (c : Code) (A : Nat → Prop) (ws : va_W) (H : Heap) (locs : List Loc) (cells slots : Nat) (L : Array Slot) (asC stC : List Value) (r1 : mm_R) (h1 : mm_H),
      mm_X G M p R s m args meth c A → va_P G.1 vwCl ws H → mm_h G.2.1 h ws → mm_s ws as asC → (stC.map fun v => v.category).sum = (st.map fun v => v.category).sum → L.size = M.2.2.1 → (∀ U : State, U.heap = H → s.WarmedH U.vm → va_Pc asC (mm_P G ws H.size) asC.toArray U) → cells + (h1.2.2.1 - h.2.2.1) ≤ R.cells ∧ slots + (h1.2.2.2 - h.2.2.2) ≤ R.slots →
      vx_Met l M'.1 (mm_wsx M') (mm_rm M' h h1) (va_Pc asC (mm_P G ws H.size)) (mm_Q G ws H.size r1 h1) (mm_XC G ws H.size r1 h1) (h1.2.2.1 - h.2.2.1) (h1.2.2.2 - h.2.2.2) (va_A ws H.size) →
      vx_Run p l e R s m args below meth c H locs cells slots (h1.2.2.1 - h.2.2.1) (h1.2.2.2 - h.2.2.2) (F0 m pc L (asC.reverse ++ stC)) stC (mm_Q G ws H.size r1 h1 asC.toArray) (mm_XC G ws H.size r1 h1) (va_A ws H.size))
    (k : ∀ (ov : Option Value) (h1 : mm_H), Q1 (.inl ov) h1 → mm_Ex l G M Q (pc + 3) ls (ov.toList ++ st) h1) (kx : ∀ (E : String) (h1 : mm_H), Q1 (.inr E) h1 → Q (.inr E) h1) : mm_Ex l G M Q pc ls stk h := by
  subst hstk
  obtain ⟨r1, h1, ⟨l1, l2, hM⟩, q1⟩ := hc
  cases r1 with
  | inl ov =>
    obtain ⟨r, h', ⟨k1, k2, k3⟩, q⟩ := k ov h1 q1
    refine ⟨r, h', ⟨Nat.le_trans l1 k1, Nat.le_trans l2 k2, fun p e R s m args below meth c A ws0 Z X F0 ws H locs cells slots L stC hS hl hlen hs => ?_⟩, q⟩
    obtain ⟨ra, stC', rfl, hs1, hs2, -⟩ := mm_s.app hs
    have hs3 := hs1.rev
    rw [List.reverse_reverse] at hs3
    have hrun := F p e R s m args below meth c A ws H locs cells slots L ra.reverse stC' (.inl ov) h1 X hS.1 hS.2.2.2.1 hs3 hs2.cat (by rw [hl.2.1, hlen]) (mm_pre X hS) ⟨by have := hS.2.2.2.2.2.1; omega, by have := hS.2.2.2.2.2.2; omega⟩ (hM ws H.size ra.reverse hS.2.2.2.1 hs3)
    rw [List.reverse_reverse] at hrun
    refine mm_after X hS rfl rfl l1 l2 hrun (fun ov2 V ws1 H1 locs1 hr ho hk hS1 => ?_) (fun E ws1 H1 locs1 q9 ce hr hk hS1 _ _ _ => by cases hr)
    cases hr
    refine k3 p e R s m args below meth c A ws0 Z X F0 ws1 H1 locs1 _ _ L _ hS1 (hl.mono hk) hlen ?_
    cases ov with
    | none => rw [show V = none from ho]; exact hs2.mono hk
    | some v => obtain ⟨W', rfl, hv⟩ := ho; exact ⟨W', _, rfl, hv, hs2.mono hk⟩
  | inr E =>
    refine ⟨.inr E, h1, ⟨l1, l2, fun p e R s m args below meth c A ws0 Z X F0 ws H locs cells slots L stC hS hl hlen hs => ?_⟩, kx E h1 q1⟩
    obtain ⟨ra, stC', rfl, hs1, hs2, -⟩ := mm_s.app hs
    have hs3 := hs1.rev
    rw [List.reverse_reverse] at hs3
    have hrun := F p e R s m args below meth c A ws H locs cells slots L ra.reverse stC' (.inr E) h1 X hS.1 hS.2.2.2.1 hs3 hs2.cat (by rw [hl.2.1, hlen]) (mm_pre X hS) ⟨by have := hS.2.2.2.2.2.1; omega, by have := hS.2.2.2.2.2.2; omega⟩ (hM ws H.size ra.reverse hS.2.2.2.1 hs3)
    rw [List.reverse_reverse] at hrun
    refine mm_after X hS rfl rfl l1 l2 hrun (fun ov2 V ws1 H1 locs1 hr ho hk hS1 => by cases hr) (fun E2 ws1 H1 locs1 q9 ce hr hk hS1 hce hcv hcl => ?_)
    cases hr
    exact (F0.1 ws1 H1 locs1 _ _ L hS1).2.2.2 E pc stC' q9 ce rfl hH hce hcv hcl
theorem ex_callV {o ci : Nat} {fs : List Value} (hd : decode M.2.1 pc = .ok (.invokevirtual idx, 3)) (hL : mm_LV M.1.cls idx M' ci n) (hR : mm_rr M M') (hn : as.length = n) (ho : h.1 o = some (.inr (ci, fs))) (hst : (st.map fun v => v.category).sum ≤ 8) (hH : M.2.2.2.2.1 = [])
    (hc : mm_Ct l G M' (.ref o :: as) h Q1) (hstk : stk = as.reverse ++ (.ref o :: st))
    (k : ∀ (ov : Option Value) (h1 : mm_H), Q1 (.inl ov) h1 → mm_Ex l G M Q (pc + 3) ls (ov.toList ++ st) h1) (kx : ∀ (E : String) (h1 : mm_H), Q1 (.inr E) h1 → Q (.inr E) h1) : mm_Ex l G M Q pc ls stk h := by
  refine mm_call hc (by rw [hstk, List.reverse_cons, List.append_assoc]; rfl) hH (fun p e R s m args below meth c A ws H locs cells slots L asC stC r1 h1 X hP hh hs hcat hsz hpre hroom hM => ?_) k kx
  obtain ⟨hLw, hL1, ⟨hL2, hL3, hL4⟩, hL5⟩ := hL
  rw [hLw] at hM
  obtain ⟨V, asC', rfl, ⟨q0, hq0, rfl⟩, hs'⟩ := hs
  obtain ⟨q9, e1, fs', e2, e3, e4⟩ := hh.2 o _ ho
  rw [hq0] at e1
  cases e1
  obtain ⟨a0, E0⟩ := q0
  have e2' : E0 = .inr (ci, fs') := e2
  subst e2'
  cases hv : vwCl[ci]? with
  | none => rw [hv] at hL5; cases hL5
  | some q =>
    rw [hv] at hL5
    have hqc : q.1 = M'.1.cls := Option.some.inj hL5
    have hrec := va_recv X.2.2.2.2.2.1.1 hP hv hq0
    rw [hqc] at hrec
    refine vx_runV (own := M.1.cls) (C := M'.1.cls) (n := n) (As := asC') ⟨X.1, X.2.1, X.2.2.1, X.2.2.2.2.1, X.2.2.2.1⟩ hM (cwV n X.2.2.2.1 (mm_gi hL1) rfl rfl rfl ⟨rfl, hL2, hL3, hL4⟩ ⟨by rw [X.2.2.2.2.2.2.2.2.1]; exact hR.1, by rw [X.2.2.2.2.2.2.2.2.2.1]; exact hR.2⟩) ⟨mm_blind, hrec, hpre⟩ rfl (by rw [hs'.len, hn]) hsz (by rw [List.reverse_cons, List.append_assoc]; rfl) ?_ hd hroom
    exact lv_room (by rw [hcat]; exact hst)
theorem ex_callS (hd : decode M.2.1 pc = .ok (.invokestatic idx, 3)) (hL : mm_LS M.1.cls idx M' n) (hR : mm_rr M M') (hn : as.length = n) (hst : (st.map fun v => v.category).sum ≤ 8) (hH : M.2.2.2.2.1 = [])
    (hc : mm_Ct l G M' as h Q1) (hstk : stk = as.reverse ++ st)
    (k : ∀ (ov : Option Value) (h1 : mm_H), Q1 (.inl ov) h1 → mm_Ex l G M Q (pc + 3) ls (ov.toList ++ st) h1) (kx : ∀ (E : String) (h1 : mm_H), Q1 (.inr E) h1 → Q (.inr E) h1) : mm_Ex l G M Q pc ls stk h := by
  refine mm_call hc hstk hH (fun p e R s m args below meth c A ws H locs cells slots L asC stC r1 h1 X hP hh hs hcat hsz hpre hroom hM => ?_) k kx
  obtain ⟨hLw, hL1, hL2, hL3, hL4⟩ := hL
  rw [hLw] at hM
  refine vx_runS (own := M.1.cls) (n := n) (As := asC) ⟨X.1, X.2.1, X.2.2.1, X.2.2.2.2.1, X.2.2.2.1⟩ hM (va_cwS n X.2.2.2.1 (mm_gi hL1) rfl rfl rfl ⟨hL2, hL3, hL4⟩ ⟨by rw [X.2.2.2.2.2.2.2.2.1]; exact hR.1, by rw [X.2.2.2.2.2.2.2.2.2.1]; exact hR.2⟩) ⟨mm_blind, hpre⟩ rfl (by rw [hs.len, hn]) hsz rfl ?_ hd hroom
  exact lv_room (by rw [hcat]; exact hst)
theorem ex_callSN {host : String} (hd : decode M.2.1 pc = .ok (.invokestatic idx, 3)) (hL : mm_LSN M.1.cls idx M' host n) (hR : mm_rr M M') (hn : as.length = n) (hst : (st.map fun v => v.category).sum ≤ 8) (hH : M.2.2.2.2.1 = [])
    (hc : mm_Ct l G M' as h Q1) (hstk : stk = as.reverse ++ st)
    (k : ∀ (ov : Option Value) (h1 : mm_H), Q1 (.inl ov) h1 → mm_Ex l G M Q (pc + 3) ls (ov.toList ++ st) h1) (kx : ∀ (E : String) (h1 : mm_H), Q1 (.inr E) h1 → Q (.inr E) h1) : mm_Ex l G M Q pc ls stk h := by
  refine mm_call hc hstk hH (fun p e R s m args below meth c A ws H locs cells slots L asC stC r1 h1 X hP hh hs hcat hsz hpre hroom hM => ?_) k kx
  obtain ⟨hLw, hL1, hL2, hL3, hL4, hL5⟩ := hL
  rw [hLw] at hM
  refine vx_runSN (own := M.1.cls) (n := n) (As := asC) ⟨X.1, X.2.1, X.2.2.1, X.2.2.2.2.1, X.2.2.2.1⟩ hM ⟨va_cnB n X.2.2.2.1 (mm_gi hL1) rfl rfl rfl (X.2.2.2.2.2.1.2.2.2.2.2.2 _ hL3) (X.2.2.2.1 _ hL2) hL5 ⟨by rw [X.2.2.2.2.2.2.2.2.1]; exact hR.1, by rw [X.2.2.2.2.2.2.2.2.2.1]; exact hR.2⟩, X.2.2.2.1 _ hL4, trivial⟩ ⟨mm_blind, hpre⟩ rfl (by rw [hs.len, hn]) hsz rfl ?_ hd hroom
  exact lv_room (by rw [hcat]; exact hst)
theorem ex_callI {o : Nat} (hd : decode M.2.1 pc = .ok (.invokespecial idx, 3)) (hL : mm_LI M.1.cls idx M' n) (hR : mm_rr M M') (hn : as.length = n) (hst : (st.map fun v => v.category).sum ≤ 8) (hH : M.2.2.2.2.1 = [])
    (hc : mm_Ct l G M' (.ref o :: as) h Q1) (hstk : stk = as.reverse ++ (.ref o :: st))
    (k : ∀ (ov : Option Value) (h1 : mm_H), Q1 (.inl ov) h1 → mm_Ex l G M Q (pc + 3) ls (ov.toList ++ st) h1) (kx : ∀ (E : String) (h1 : mm_H), Q1 (.inr E) h1 → Q (.inr E) h1) : mm_Ex l G M Q pc ls stk h := by
  refine mm_call hc (by rw [hstk, List.reverse_cons, List.append_assoc]; rfl) hH (fun p e R s m args below meth c A ws H locs cells slots L asC stC r1 h1 X hP hh hs hcat hsz hpre hroom hM => ?_) k kx
  obtain ⟨hLw, hL1, hL2, hL3, hL4, hL5, hL6, hL7⟩ := hL
  rw [hLw] at hM
  obtain ⟨V, asC', rfl, ⟨q0, hq0, rfl⟩, hs'⟩ := hs
  refine vx_runI (own := M.1.cls) (n := n) (As := asC') (b := q0.1) ⟨X.1, X.2.1, X.2.2.1, X.2.2.2.2.1, X.2.2.2.1⟩ hM (cwI n X.2.2.2.1 (mm_gi hL1) (by rw [mm_ws, hL7]) rfl rfl (X.2.2.2.1 _ hL2) (X.2.2.2.1 _ hL3) (X.2.2.2.1 _ hL4) hL5 hL6 ⟨by rw [X.2.2.2.2.2.2.2.2.1]; exact hR.1, by rw [X.2.2.2.2.2.2.2.2.2.1]; exact hR.2⟩) ⟨mm_blind, hpre⟩ rfl (by rw [hs'.len, hn]) hsz (by rw [List.reverse_cons, List.append_assoc]; rfl) ?_ hd hroom
  exact lv_room (by rw [hcat]; exact hst)
theorem ex_callIN {o : Nat} {host : String} (hd : decode M.2.1 pc = .ok (.invokespecial idx, 3)) (hL : mm_LIN M.1.cls idx M' host n) (hR : mm_rr M M') (hn : as.length = n) (hst : (st.map fun v => v.category).sum ≤ 8) (hH : M.2.2.2.2.1 = [])
    (hc : mm_Ct l G M' (.ref o :: as) h Q1) (hstk : stk = as.reverse ++ (.ref o :: st))
    (k : ∀ (ov : Option Value) (h1 : mm_H), Q1 (.inl ov) h1 → mm_Ex l G M Q (pc + 3) ls (ov.toList ++ st) h1) (kx : ∀ (E : String) (h1 : mm_H), Q1 (.inr E) h1 → Q (.inr E) h1) : mm_Ex l G M Q pc ls stk h := by
  refine mm_call hc (by rw [hstk, List.reverse_cons, List.append_assoc]; rfl) hH (fun p e R s m args below meth c A ws H locs cells slots L asC stC r1 h1 X hP hh hs hcat hsz hpre hroom hM => ?_) k kx
  obtain ⟨hLw, hL1, hL2, hL3, hL4, hL5, hL6, hL7⟩ := hL
  rw [hLw] at hM
  obtain ⟨V, asC', rfl, ⟨q0, hq0, rfl⟩, hs'⟩ := hs
  refine vx_runIN (own := M.1.cls) (n := n) (As := asC') (b := q0.1) ⟨X.1, X.2.1, X.2.2.1, X.2.2.2.2.1, X.2.2.2.1⟩ hM ⟨by rw [← hL7]; exact va_cnB n X.2.2.2.1 (mm_gi hL1) rfl rfl rfl (X.2.2.2.2.2.1.2.2.2.2.2.2 _ hL3) (X.2.2.2.1 _ hL2) hL6 ⟨by rw [X.2.2.2.2.2.2.2.2.1]; exact hR.1, by rw [X.2.2.2.2.2.2.2.2.2.1]; exact hR.2⟩, hL5, X.2.2.2.1 _ hL4⟩ ⟨mm_blind, hpre⟩ rfl (by rw [hs'.len, hn]) hsz (by rw [List.reverse_cons, List.append_assoc]; rfl) ?_ hd hroom
  exact lv_room (by rw [hcat]; exact hst)
end MMK
end
section
theorem mm_s.cats {ws : va_W} : ∀ {as asC : List Value}, mm_s ws as asC → (∀ v ∈ as, v.category = 1) → ∀ V ∈ asC, V.category = 1
  | [], _, h, _ => by rw [show _ = [] from h]; exact fun _ hv => nomatch hv
  | v :: as, _, ⟨V, L', h1, h2, h3⟩, hc => fun U hU => by
    rw [h1] at hU
    rcases List.mem_cons.mp hU with rfl | hU
    · rw [h2.cat]; exact hc v List.mem_cons_self
    · exact mm_s.cats h3 (fun w hw => hc w (List.mem_cons_of_mem _ hw)) U hU
theorem mm_s.get {ws : va_W} : ∀ {as asC : List Value}, mm_s ws as asC → ∀ (k : Nat) (v : Value), as[k]? = some v → ∃ V, asC[k]? = some V ∧ mm_v ws v V
  | [], _, _, k, v, hk => by simp at hk
  | u :: as, _, ⟨V, L', h1, h2, h3⟩, k, v, hk => by
    subst h1
    cases k with
    | zero => cases hk; exact ⟨V, rfl, h2⟩
    | succ k => exact mm_s.get h3 k v hk
theorem mm_args : ∀ (asC : List Value) (i : Nat), (∀ V ∈ asC, V.category = 1) → ∀ (k : Nat) (V : Value), asC[k]? = some V → (i + k, V) ∈ lv_args i asC
  | [], i, _, k, V, hk => by simp at hk
  | U :: asC, i, hc, k, V, hk => by
    have hU : U.category = 1 := hc U List.mem_cons_self
    simp only [lv_args, show ¬ U.category = 2 by omega, if_false]
    cases k with
    | zero => cases hk; exact List.mem_cons_self
    | succ k =>
      have h := mm_args asC (i + 1) (fun w hw => hc w (List.mem_cons_of_mem _ hw)) k V hk
      rw [show i + (k + 1) = i + 1 + k by omega]
      exact List.mem_cons_of_mem _ h
theorem mm_lgsl : ∀ (asC : List Value), (∀ V ∈ asC, V.category = 1) → (lg_sl asC).length = asC.length
  | [], _ => rfl
  | U :: asC, hc => by
    have hU : U.category = 1 := hc U List.mem_cons_self
    have h := mm_lgsl asC (fun w hw => hc w (List.mem_cons_of_mem _ hw))
    simp only [lg_sl, List.flatMap_cons, show ¬ U.category = 2 by omega, if_false, List.length_append, List.length_cons, List.length_nil] at h ⊢
    omega
theorem mm_entry {ws : va_W} {as asC : List Value} {n : Nat} (hs : mm_s ws as asC) (hc : ∀ v ∈ as, v.category = 1) (hn : as.length ≤ n) : mm_l ws (as ++ List.replicate (n - as.length) .null) ((lg_sl asC ++ List.replicate (n - (lg_sl asC).length) Slot.unset).toArray) := by
  have hC := hs.cats hc
  have hlen : (lg_sl asC).length = as.length := by rw [mm_lgsl asC hC, hs.len]
  have h := lv_entry asC (n := n) (by omega)
  refine ⟨h.2.1, by rw [h.1]; simp; omega, fun k v hk h1 h2 => ?_⟩
  by_cases hka : k < as.length
  · rw [List.getElem?_append_left hka] at hk
    obtain ⟨V, e1, e2⟩ := hs.get k v hk
    have e3 := h.2.2 (k, V) (by have := mm_args asC 0 hC k V e1; rwa [Nat.zero_add] at this)
    exact ⟨V, e3, e2, hC V (List.mem_of_getElem? e1)⟩
  · rw [List.getElem?_append_right (by omega)] at hk
    exact absurd (List.eq_of_mem_replicate (List.mem_of_getElem? hk)) h2
theorem mm_ct {l : Launch} {G : mm_G} {M : mm_M} {Q : mm_R → mm_H → Prop} {as ls : List Value} {h : mm_H} (hy : plainName M.1.cls = true) (hnl : ¬ M.1.name = "law") (hH : M.2.2.2.2.1 = []) (hcat : ∀ v ∈ as, v.category = 1) (hlen : as.length ≤ M.2.2.1) (hls : ls = as ++ List.replicate (M.2.2.1 - as.length) .null)
    (k : mm_Ex l G M Q 0 ls [] h) : mm_Ct l G M as h Q := by
  subst hls
  obtain ⟨r, h', ⟨k1, k2, k3⟩, q⟩ := k
  refine ⟨r, h', ⟨k1, k2, fun ws0 sz asC hh hs => ?_⟩, q⟩
  have hwx : mm_wsx M = mm_ws M := by simp [mm_wsx, hH]
  rw [hwx]
  refine vx_ofW (cc := M.2.1) (maxL := M.2.2.1) (ret := M.2.2.2.1) hy rfl ?_
  intro p e s m args below meth c s₁ B hml hex hP
  obtain ⟨rfl, rfl, hP, hD, hV, hZ1, hZ2⟩ := hP
  have hts : ∀ w ∈ mm_ws M, w.before asC.toArray s = true := atoms_spec (ws := mm_ws M) B.pre
  have hex2 : c.exceptionTable.toList = [] := List.eq_nil_iff_forall_not_mem.mpr (fun x hx => hex x hx)
  have hlocks := B.notSynchronized
  have X : mm_X G M p (headSpec (mm_ws M) (mm_rm M h h')).room s m asC.toArray meth c (va_A ws0 s.heap.size) :=
    ⟨B.exec, B.bytes, hml, fun w hw => hts w (List.mem_cons_of_mem _ hw), findClass_of_methodNamed B.named, hV, fun q hq => Or.inr hq, ⟨hZ1, hZ2⟩, rfl, rfl, fun _ => ⟨by rw [hex2, hH]; rfl, (name_of_methodNamed B.named B.method).1⟩, fun z => absurd z hnl⟩
  have hrc : (headSpec (mm_ws M) (mm_rm M h h')).room.cells = h'.2.2.1 - h.2.2.1 := rfl
  have hrs : (headSpec (mm_ws M) (mm_rm M h h')).room.slots = h'.2.2.2 - h.2.2.2 := rfl
  rw [lg_entry_eq]
  refine k3 p e _ s m _ below meth c (va_A ws0 s.heap.size) ws0 _ X ⟨fun ws H locs cells slots L hS => ?_, ?_⟩ ws0 s.heap [] 0 0 _ [] ⟨hP, hD.self, va_S.rf, hh, mm_k.refl ws0, by rw [hrc]; omega, by rw [hrs]; omega⟩ (mm_entry hs hcat hlen) (by simp; omega) rfl
  · have hc1 : cells ≤ h'.2.2.1 - h.2.2.1 := by have := hS.2.2.2.2.2.1; rw [hrc] at this; omega
    have hc2 : slots ≤ h'.2.2.2 - h.2.2.2 := by have := hS.2.2.2.2.2.2; rw [hrs] at this; omega
    have hq : ∀ (ov V : Option Value), r = .inl ov → mm_o ws ov V → ∀ t : State, t.heap = H → s.WarmedH t.vm → mm_Q G ws0 s.heap.size r h' asC.toArray s (.returned V) t := fun ov V hr ho t ht hW =>
      ⟨⟨ov, V, ws, hr, rfl, ho, hS.2.2.2.2.1, by rw [ht]; exact hS.1, hS.2.1, hS.2.2.2.1⟩, hS.2.2.1.F ht⟩
    refine ⟨fun x pc hr ⟨ty, hty, hnar⟩ hd => ?_, fun o a E pc hr hk ⟨t, ht⟩ hd => ?_, fun pc hr hn hd => ?_, fun E pc rest q9 ce hr hH' hce hcv hcl => ?_⟩
    · exact W.widen hc1 hc2 (vx_ret (W.zret B.exec B.bytes (B.returns.trans hty) hnar (hq _ _ hr ⟨_, rfl, rfl⟩) (fun z hz => hS.2.2.1.2.2 z hz) hd))
    · exact W.widen hc1 hc2 (vx_ret (W.aret B.exec B.bytes (B.returns.trans ht) (Or.inr ⟨t, rfl⟩) (Or.inr ⟨a, rfl⟩) (hq _ _ hr ⟨_, rfl, ⟨_, hk, rfl⟩⟩) (fun z hz => hS.2.2.1.2.2 z hz) hd))
    · exact W.widen hc1 hc2 (vx_ret (W.vret B.exec B.bytes (B.returns.trans hn) (hq _ _ hr rfl) (fun z hz => hS.2.2.1.2.2 z hz) hd))
    · exact vx_out (fun x hx => (hex x hx).elim) hlocks hce hcv hcl (fun t ht hA => ⟨⟨ws, hr, hS.2.2.2.2.1, by rw [ht]; exact hS.1, hS.2.1, hS.2.2.2.1⟩, hS.2.2.1.F ht⟩) (fun z hz => hS.2.2.1.2.2 z hz) hc1 hc2
  · intro E pc h9 ws H locs cells slots L hlt hr hh' hT hS hsz
    obtain ⟨ik, is, ic, text, sa, d0, d3, d4, d7, d10, t1, t2, t3, t4, t5, t6, t7, t8, t9, t10⟩ := hT
    have b1 : h'.2.2.1 = h9.2.2.1 + 1 := by rw [hh']
    have b2 : h'.2.2.2 = h9.2.2.2 + 6 := by rw [hh']
    have b3 := hS.2.2.2.2.2.1
    have b4 := hS.2.2.2.2.2.2
    rw [hrc] at b3
    rw [hrs] at b4
    refine vx_throwSW (names := mm_chain) B.exec B.bytes hlt (findClass_of_methodNamed B.named) t1 (fun n hn => ?_) (X.2.2.2.1 _ t2) (X.2.2.2.1 _ t3) (t7 s hV) (vx_hat (fun w hw => X.2.2.2.1 _ (t4 w hw)) t5 (fun w hw => va_Nw.use (mm_N_tab hw) (hV.2.2.2.2.2.2 w hw))) t6 hZ1 hZ2 hS.2.2.1 hsz d0 d3 d4 d7 d10 (fun x hx => (hex x hx).elim) ?_ ?_ (by rw [hrc]; omega) (by rw [hrs]; omega) hlocks (fun t hA hz hk => ?_) (fun z hz => hS.2.2.1.2.2 z hz) (by omega) (by omega)
    · simp only [mm_chain, List.mem_cons, List.not_mem_nil, or_false] at hn
      rcases hn with rfl | rfl <;> decide +kernel
    · show 2 + 3 < M.2.2.2.2.2.1; omega
    · show 0 + (13 * (2 + 1) + 43) ≤ M.2.2.2.2.2.2; omega
    · refine ⟨⟨ws, hr, hS.2.2.2.2.1, hS.1.kept (fun k q hq => hk q.1 (hS.1 k q hq).lt), hS.2.1, ?_⟩, Nat.le_trans hS.2.2.1.1 hz, fun q h1 h2 => (hk q (Nat.lt_of_lt_of_le h1 hS.2.2.1.1)).trans (hS.2.2.1.2.1 q h1 h2)⟩
      rw [hh']
      exact ⟨hS.2.2.2.1.1, hS.2.2.2.1.2⟩
theorem ex_throw {l : Launch} {G : mm_G} {M : mm_M} {Q : mm_R → mm_H → Prop} {pc : Nat} {ls : List Value} {h : mm_H} {E : String} (hl : l.stackTraces = false) (hT : mm_Th G M pc E) (q : Q (.inr E) (h.1, h.2.1, h.2.2.1 + 1, h.2.2.2 + 6)) : mm_Ex l G M Q pc ls [] h :=
  ⟨.inr E, _, ⟨Nat.le_succ _, Nat.le_add_right _ _, fun p e R s m args below meth c A ws0 Z X F ws H locs cells slots L stC hS hll hlen hs => by
    rw [show stC = [] from hs]
    exact F.2 E pc h ws H locs cells slots L hl rfl rfl hT hS (by rw [X.2.2.1, hll.2.1, hlen])⟩, q⟩
end
section
theorem mm_ctH {l : Launch} {G : mm_G} {M : mm_M} {Q : mm_R → mm_H → Prop} {as ls : List Value} {h : mm_H} (hy : plainName M.1.cls = true) (hnl : ¬ M.1.name = "law") (hH : mm_wsx M = mm_wsH M) (hne : ¬ M.2.2.2.2.1 = []) (hcat : ∀ v ∈ as, v.category = 1) (hlen : as.length ≤ M.2.2.1) (hls : ls = as ++ List.replicate (M.2.2.1 - as.length) .null)
    (hQ : ∀ E h', ¬ Q (.inr E) h') (k : mm_Ex l G M Q 0 ls [] h) : mm_Ct l G M as h Q := by
  subst hls
  obtain ⟨r, h', ⟨k1, k2, k3⟩, q⟩ := k
  refine ⟨r, h', ⟨k1, k2, fun ws0 sz asC hh hs => ?_⟩, q⟩
  rw [hH]
  refine vx_ofWH (cc := M.2.1) (maxL := M.2.2.1) (ret := M.2.2.2.1) (hh := M.2.2.2.2.1) hy rfl ?_
  intro p e s m args below meth c s₁ B hml hP
  obtain ⟨rfl, rfl, hP, hD, hV, hZ1, hZ2⟩ := hP
  have hts : ∀ w ∈ mm_wsH M, w.before asC.toArray s = true := atoms_spec (ws := mm_wsH M) B.pre
  have hex2 : c.exceptionTable.toList = tableOf M.2.2.2.2.1 := vx_table (x := M.1) B (hts _ List.mem_cons_self)
  have hlocks := B.notSynchronized
  have X : mm_X G M p (headSpec (mm_wsH M) (mm_rm M h h')).room s m asC.toArray meth c (va_A ws0 s.heap.size) :=
    ⟨B.exec, B.bytes, hml, fun w hw => hts w (List.mem_cons_of_mem _ hw), findClass_of_methodNamed B.named, hV, fun q hq => Or.inr hq, ⟨hZ1, hZ2⟩, rfl, rfl, fun _ => ⟨hex2, (name_of_methodNamed B.named B.method).1⟩, fun z => absurd z hnl⟩
  have hrc : (headSpec (mm_wsH M) (mm_rm M h h')).room.cells = h'.2.2.1 - h.2.2.1 := rfl
  have hrs : (headSpec (mm_wsH M) (mm_rm M h h')).room.slots = h'.2.2.2 - h.2.2.2 := rfl
  rw [lg_entry_eq]
  refine k3 p e _ s m _ below meth c (va_A ws0 s.heap.size) ws0 _ X ⟨fun ws H locs cells slots L hS => ?_, ?_⟩ ws0 s.heap [] 0 0 _ [] ⟨hP, hD.self, va_S.rf, hh, mm_k.refl ws0, by rw [hrc]; omega, by rw [hrs]; omega⟩ (mm_entry hs hcat hlen) (by simp; omega) rfl
  · have hc1 : cells ≤ h'.2.2.1 - h.2.2.1 := by have := hS.2.2.2.2.2.1; rw [hrc] at this; omega
    have hc2 : slots ≤ h'.2.2.2 - h.2.2.2 := by have := hS.2.2.2.2.2.2; rw [hrs] at this; omega
    have hq : ∀ (ov V : Option Value), r = .inl ov → mm_o ws ov V → ∀ t : State, t.heap = H → s.WarmedH t.vm → mm_Q G ws0 s.heap.size r h' asC.toArray s (.returned V) t := fun ov V hr ho t ht hW =>
      ⟨⟨ov, V, ws, hr, rfl, ho, hS.2.2.2.2.1, by rw [ht]; exact hS.1, hS.2.1, hS.2.2.2.1⟩, hS.2.2.1.F ht⟩
    refine ⟨fun x pc hr ⟨ty, hty, hnar⟩ hd => ?_, fun o a E pc hr hk ⟨t, ht⟩ hd => ?_, fun pc hr hn hd => ?_, fun E pc rest q9 ce hr hH' hce hcv hcl => ?_⟩
    · exact W.widen hc1 hc2 (vx_ret (W.zret B.exec B.bytes (B.returns.trans hty) hnar (hq _ _ hr ⟨_, rfl, rfl⟩) (fun z hz => hS.2.2.1.2.2 z hz) hd))
    · exact W.widen hc1 hc2 (vx_ret (W.aret B.exec B.bytes (B.returns.trans ht) (Or.inr ⟨t, rfl⟩) (Or.inr ⟨a, rfl⟩) (hq _ _ hr ⟨_, rfl, ⟨_, hk, rfl⟩⟩) (fun z hz => hS.2.2.1.2.2 z hz) hd))
    · exact W.widen hc1 hc2 (vx_ret (W.vret B.exec B.bytes (B.returns.trans hn) (hq _ _ hr rfl) (fun z hz => hS.2.2.1.2.2 z hz) hd))
    · exact absurd hH' hne
  · intro E pc h9 ws H locs cells slots L hlt hr
    subst hr
    exact absurd q (hQ E h')
/-- the exception class E, thrown by a call at pc, is caught, and the body goes on at tgt -/
def mm_Ca (G : mm_G) (M : mm_M) (pc : Nat) (E : String) (tgt : Nat) : Prop := ∃ (pre : List ExceptionTableEntry) (x : ExceptionTableEntry) (suf : List ExceptionTableEntry) (name : String),
  tableOf M.2.2.2.2.1 = pre ++ x :: suf ∧ (∀ z ∈ pre, covers z pc = false ∨ (z.catchType ≠ 0 ∧ ∃ nm : String, Cond.classLink M.1.cls z.catchType nm ∈ mm_W ∧ ∀ s : State, mm_V G s → va_Nc E nm s)) ∧ covers x pc = true ∧ x.catchType ≠ 0 ∧ Cond.classLink M.1.cls x.catchType name ∈ mm_W ∧ Cond.castable E name ∈ mm_N ∧ x.handlerPc = tgt
section MMW
variable {l : Launch} {G : mm_G} {M M' : mm_M} {Q Q1 : mm_R → mm_H → Prop} {pc idx n : Nat} {ls st as stk : List Value} {h : mm_H}
theorem ex_callVH {o ci : Nat} {fs : List Value} (hnl : ¬ M.1.name = "law") (hd : decode M.2.1 pc = .ok (.invokevirtual idx, 3)) (hL : mm_LV M.1.cls idx M' ci n) (hR : mm_rr M M') (hn : as.length = n) (ho : h.1 o = some (.inr (ci, fs))) (hst : (st.map fun v => v.category).sum ≤ 8)
    (hc : mm_Ct l G M' (.ref o :: as) h Q1) (hstk : stk = as.reverse ++ (.ref o :: st))
    (k : ∀ (ov : Option Value) (h1 : mm_H), Q1 (.inl ov) h1 → mm_Ex l G M Q (pc + 3) ls (ov.toList ++ st) h1) (kx : ∀ (E : String) (h1 : mm_H), Q1 (.inr E) h1 → ∃ tgt, mm_Ca G M pc E tgt ∧ mm_Ex l G M Q tgt ls [.float 0] h1) : mm_Ex l G M Q pc ls stk h := by
  obtain ⟨hLw, hL1, ⟨hL2, hL3, hL4⟩, hL5⟩ := hL
  obtain ⟨r1, h1, ⟨l1, l2, hM⟩, q1⟩ := hc
  rw [hLw] at hM
  have core : ∀ (p : Program) (e : Env) (R : Room) (s : State) (m : MethodId) (args : Array Value) (below : List Frame) (meth : Method) (c : Code) (A : Nat → Prop) (ws0 ws : va_W) (H : Heap) (locs : List Loc) (cells slots : Nat) (L : Array Slot) (stC : List Value) (h' : mm_H),
      mm_X G M p R s m args meth c A → mm_S G R s A ws0 h h' ws H locs cells slots → h1.2.2.1 ≤ h'.2.2.1 → h1.2.2.2 ≤ h'.2.2.2 → L.size = M.2.2.1 → mm_s ws stk stC →
      ∃ st0 : List Value, mm_s ws st st0 ∧ vx_Run p l e R s m args below meth c H locs cells slots (h1.2.2.1 - h.2.2.1) (h1.2.2.2 - h.2.2.2) (F0 m pc L stC) st0 (mm_Q G ws H.size r1 h1 (stC.reverse).toArray) (mm_XC G ws H.size r1 h1) (va_A ws H.size) := by
    intro p e R s m args below meth c A ws0 ws H locs cells slots L stC h' X hS b1 b2 hsz hs
    rw [hstk] at hs
    obtain ⟨ra, sb, rfl, hs1, hs2, -⟩ := mm_s.app hs
    obtain ⟨a0, E0, st0, hq0, rfl, hs3⟩ := hs2.ref
    obtain ⟨q9, e1, fs', e2, e3, e4⟩ := hS.2.2.2.1.2 o _ ho
    rw [hq0] at e1
    cases e1
    have e2' : E0 = .inr (ci, fs') := e2
    subst e2'
    cases hv : vwCl[ci]? with
    | none => rw [hv] at hL5; cases hL5
    | some q =>
      rw [hv] at hL5
      have hqc : q.1 = M'.1.cls := Option.some.inj hL5
      have hrec := va_recv X.2.2.2.2.2.1.1 hS.1 hv hq0
      rw [hqc] at hrec
      have hs1' := hs1.rev
      rw [List.reverse_reverse] at hs1'
      have hs5 : mm_s ws (.ref o :: as) (.ref a0 :: ra.reverse) := mm_s.pr hq0 hs1'
      have hM' := hM ws H.size _ hS.2.2.2.1 hs5
      have hr := vx_runV (p := p) (e := e) (below := below) (meth := meth) (locs := locs) (cells := cells) (slots := slots) (own := M.1.cls) (C := M'.1.cls) (n := n) (As := ra.reverse) (rest := st0) (g := F0 m pc L (ra ++ .ref a0 :: st0)) ⟨X.1, X.2.1, X.2.2.1, X.2.2.2.2.1, X.2.2.2.1⟩ hM' (cwV n X.2.2.2.1 (mm_gi hL1) rfl rfl rfl ⟨rfl, hL2, hL3, hL4⟩ ⟨by rw [X.2.2.2.2.2.2.2.2.1]; exact hR.1, by rw [X.2.2.2.2.2.2.2.2.2.1]; exact hR.2⟩) ⟨mm_blind, hrec, mm_pre X hS⟩ rfl (by rw [hs1'.len, hn]) hsz (by rw [List.reverse_reverse]) (lv_room (by rw [hs3.cat]; exact hst)) hd ⟨by have := hS.2.2.2.2.2.1; omega, by have := hS.2.2.2.2.2.2; omega⟩
      exact ⟨st0, hs3, hr⟩
  cases r1 with
  | inl ov =>
    obtain ⟨r, h', ⟨k1, k2, k3⟩, q⟩ := k ov h1 q1
    refine ⟨r, h', ⟨Nat.le_trans l1 k1, Nat.le_trans l2 k2, fun p e R s m args below meth c A ws0 Z X F0 ws H locs cells slots L stC hS hl hlen hs => ?_⟩, q⟩
    obtain ⟨st0, hs3, hrun⟩ := core p e R s m args below meth c A ws0 ws H locs cells slots L stC h' X hS k1 k2 (by rw [hl.2.1, hlen]) hs
    refine mm_after X hS rfl rfl l1 l2 hrun (fun ov2 V ws1 H1 locs1 hr ho hk hS1 => ?_) (fun E ws1 H1 locs1 q9 ce hr hk hS1 _ _ _ => by cases hr)
    cases hr
    refine k3 p e R s m args below meth c A ws0 Z X F0 ws1 H1 locs1 _ _ L _ hS1 (hl.mono hk) hlen ?_
    cases ov with
    | none => rw [show V = none from ho]; exact hs3.mono hk
    | some v => obtain ⟨W', rfl, hv⟩ := ho; exact ⟨W', _, rfl, hv, hs3.mono hk⟩
  | inr E =>
    obtain ⟨tgt, hCa, r, h', ⟨k1, k2, k3⟩, q⟩ := kx E h1 q1
    refine ⟨r, h', ⟨Nat.le_trans l1 k1, Nat.le_trans l2 k2, fun p e R s m args below meth c A ws0 Z X F0 ws H locs cells slots L stC hS hl hlen hs => ?_⟩, q⟩
    obtain ⟨st0, hs3, hrun⟩ := core p e R s m args below meth c A ws0 ws H locs cells slots L stC h' X hS k1 k2 (by rw [hl.2.1, hlen]) hs
    refine mm_after X hS rfl rfl l1 l2 hrun (fun ov2 V ws1 H1 locs1 hr ho hk hS1 => by cases hr) (fun E2 ws1 H1 locs1 q9 ce hr hk hS1 hce hcv hcl => ?_)
    cases hr
    obtain ⟨pre, x, suf, name, c1, c2, c3, c4, c5, c6, c7⟩ := hCa
    subst c7
    exact vx_catch X.2.2.2.2.1 pre x suf (by rw [(X.2.2.2.2.2.2.2.2.2.2.1 hnl).1, c1]) (fun z hz => (c2 z hz).imp id (fun ⟨z0, nm, z1, z2⟩ => ⟨z0, nm, X.2.2.2.1 _ z1, z2 s X.2.2.2.2.2.1⟩)) c3 c4 (X.2.2.2.1 _ c5) (va_Nw.use (mm_N_tab c6) (X.2.2.2.2.2.1.2.2.2.2.2.2 _ c6)) hce hcv hcl
      (k3 p e R s m args below meth c A ws0 Z X F0 ws1 H1 locs1 _ _ L _ hS1 (hl.mono hk) hlen ⟨.ref q9, [], rfl, ⟨q9, rfl⟩, rfl⟩)
theorem ex_callSX (hd : decode M.2.1 pc = .ok (.invokestatic idx, 3)) (hL : mm_wsx M' = mm_wsH M' ∧ mm_LSW M.1.cls idx M' n) (hR : mm_rr M M') (hn : as.length = n) (hst : (st.map fun v => v.category).sum ≤ 8) (hH : M.2.2.2.2.1 = [])
    (hc : mm_Ct l G M' as h Q1) (hstk : stk = as.reverse ++ st)
    (k : ∀ (ov : Option Value) (h1 : mm_H), Q1 (.inl ov) h1 → mm_Ex l G M Q (pc + 3) ls (ov.toList ++ st) h1) (kx : ∀ (E : String) (h1 : mm_H), Q1 (.inr E) h1 → Q (.inr E) h1) : mm_Ex l G M Q pc ls stk h := by
  refine mm_call hc hstk hH (fun p e R s m args below meth c A ws H locs cells slots L asC stC r1 h1 X hP hh hs hcat hsz hpre hroom hM => ?_) k kx
  obtain ⟨hLw, hL1, hL2, hL3, hL4⟩ := hL
  rw [hLw] at hM
  refine vx_runSX (own := M.1.cls) (n := n) (As := asC) ⟨X.1, X.2.1, X.2.2.1, X.2.2.2.2.1, X.2.2.2.1⟩ hM (vx_cwSW n X.2.2.2.1 (mm_gi hL1) rfl rfl rfl ⟨hL2, hL3, hL4⟩ ⟨by rw [X.2.2.2.2.2.2.2.2.1]; exact hR.1, by rw [X.2.2.2.2.2.2.2.2.2.1]; exact hR.2⟩) ⟨mm_blind, hpre⟩ rfl (by rw [hs.len, hn]) hsz rfl ?_ hd hroom
  exact lv_room (by rw [hcat]; exact hst)
theorem mm_s.rx {ws : va_W} {u : Nat} {l L : List Value} (h : mm_s ws (.retAddr u :: l) L) : ∃ L', L = .ref u :: L' ∧ mm_s ws l L' := by
  obtain ⟨V, L', h1, h2, h3⟩ := h
  rw [show V = .ref u from h2] at h1
  exact ⟨L', h1, h3⟩
theorem ex_xlen {u : Nat} (hd : decode M.2.1 pc = .ok (.arraylength, 1)) (hM : M.1.name = "law") (hu : u = G.2.2.2.1) (k : mm_Ex l G M Q (pc + 1) ls (.int (Int32.ofNat G.2.2.2.2.1) :: st) h) : mm_Ex l G M Q pc ls (.retAddr u :: st) h :=
  mm_exH k (Nat.le_refl _) (Nat.le_refl _) (fun p e R s m args below meth c A ws0 h' Z ws H locs cells slots L stC X b1 b2 hS hs hsz w => by
    subst hu
    obtain ⟨_, rfl, hs1⟩ := hs.rx
    obtain ⟨x1, x2, x3⟩ := X.2.2.2.2.2.2.2.2.2.2.2 hM
    exact va_slen X.1 X.2.1 x1 x2 x3 hS.2.2.1 hd (w ws H locs cells slots _ (mm_k.refl ws) hS hs1.pi))
theorem ex_xload {u : Nat} {i : Int32} (hd : decode M.2.1 pc = .ok (.iaload, 1)) (hM : M.1.name = "law") (hu : u = G.2.2.2.1) (hi : vp_in i G.2.2.2.2.1) (k : mm_Ex l G M Q (pc + 1) ls (.int (G.2.2.2.2.2 i.toNatClampNeg) :: st) h) : mm_Ex l G M Q pc ls (.int i :: .retAddr u :: st) h :=
  mm_exH k (Nat.le_refl _) (Nat.le_refl _) (fun p e R s m args below meth c A ws0 h' Z ws H locs cells slots L stC X b1 b2 hS hs hsz w => by
    subst hu
    obtain ⟨_, rfl, hs0⟩ := hs.int
    obtain ⟨_, rfl, hs1⟩ := hs0.rx
    obtain ⟨x1, x2, x3⟩ := X.2.2.2.2.2.2.2.2.2.2.2 hM
    exact va_sld X.1 X.2.1 x1 x2 x3 hS.2.2.1 hi hd (w ws H locs cells slots _ (mm_k.refl ws) hS hs1.pi))
end MMW
end
section
/-! THE CLAIM OUT OF ONE WALK OF THE LAW'S BODY. Your part is whole_start (and what it stands on); all else here is the same for every law, but numbers. -/
def R_law : String := "CableShipLaw"
def lw_P (b : Addr) (xs : List Int32) (args : Array Value) (s : State) : Prop := args = #[.ref b] ∧ s.IntsAt b xs ∧ xs.length ≤ 2048 ∧ (Jvm.Cond.and given_1 narrow_1).before args s = true
def lw_Q (_ : Array Value) (s : State) (o : Outcome) (t : State) : Prop := o = .returned (some (.int 1)) ∧ Framed s o t [] 601024 7293034
def lw_Z (below : List Frame) (a : Array Value) (s : State) : State → Prop := fun t => ∃ o, t.status = .running ∧ Ended t below o ∧ lw_Q a s o t
/-- the law's own end, with 1 on the stack, nothing written that was there before, its room as the claim has it -/
theorem lw_ret {p : Program} {l : Launch} {e : Env} {s : State} {m : MethodId} {below : List Frame} {meth : Method} {c : Code} {b : Nat} (hx : p.tables.exec = Jvm.exec) (hb : c.code = code) (hr : meth.sig.returnType = ret) (hlocks : meth.locks = false) {pc : Nat} {H : Heap} {ls : Array Slot} (hdg : decode code pc = .ok (.ireturn, 1)) : W p l e room_1 s m #[Value.ref b] below meth c H [] 601024 7293034 (lw_Z below #[Value.ref b] s) (F0 m pc ls [.int 1]) := by
  intro T hT X
  obtain ⟨fs, hret, hrun, hended, hW, hframe⟩ := X.leave (v := some (.int 1)) (hlocks := hlocks) (fun h => by rw [hr] at h; cases h)
  have hmeth' : T.vm.method? m = some meth := X.method'
  refine ⟨T.setFrames fs, ?_, .returned (some (.int 1)), hrun, hended, rfl, ⟨_, rfl⟩, hW, hframe⟩
  jvm_step X.here [X.here.top, hx, hb, hdg, hmeth', hr, ret, narrow_b1]
  (try refine ⟨rfl, ?_⟩); (try refine ⟨rfl, ?_⟩)
  first | (intro acts; rw [hret _ acts rfl rfl rfl]) | rw [hret _ _ rfl rfl rfl]
  exact Steps.refl _
/-- what holds at the law's entry: the machine, the code, the tables' words (any of lw_tbl by 'hts w (by decide +kernel)'), the script of L ints xs at the cell b, what the Statement gives of the start (any of its parts by flat_of_before) -/
def lw_At (p : Program) (s : State) (m : MethodId) (meth : Method) (c : Code) (b L : Nat) (xs : Nat → Int32) : Prop :=
  p.tables.exec = Jvm.exec ∧ c.code = code ∧ meth.sig.returnType = ret ∧ c.maxLocals = 7 ∧ s.vm.findClass R_law = some m.cls ∧ (∀ w ∈ lw_tbl, w.before #[Value.ref b] s = true) ∧ va_X b L xs s s.heap ∧ b < s.heap.size ∧ meth.locks = false ∧ (Jvm.Cond.and given_1 narrow_1).before #[Value.ref b] s = true
end
section
theorem mm_inW {Ts : List Cond} {C : String} {T : u_T} {N : Nat} (h : (u_ws C T N).all (fun w => decide (w ∈ Ts)) = true) : ∀ w ∈ u_ws C T N, w ∈ Ts := fun w hw => of_decide_eq_true (List.all_eq_true.mp h w hw)
theorem mm_f0 : ∀ w ∈ u_ws RX0 TX0 3, w ∈ lw_tbl := mm_inW (by decide +kernel)
theorem mm_f1 : ∀ w ∈ u_ws RX1 TX1 1, w ∈ lw_tbl := mm_inW (by decide +kernel)
theorem mm_f2 : ∀ w ∈ u_ws RX2 TX2 1, w ∈ lw_tbl := mm_inW (by decide +kernel)
theorem mm_f3 : ∀ w ∈ u_ws RX3 TX3 5, w ∈ lw_tbl := mm_inW (by decide +kernel)
theorem mm_f4 : ∀ w ∈ u_ws RX4 TX4 3, w ∈ lw_tbl := mm_inW (by decide +kernel)
theorem mm_f5 : ∀ w ∈ u_ws RX5 TX5 5, w ∈ lw_tbl := mm_inW (by decide +kernel)
theorem mm_f6 : ∀ w ∈ u_ws RX6 TX6 4, w ∈ lw_tbl := mm_inW (by decide +kernel)
theorem mm_f7 : ∀ w ∈ u_ws RX7 TX7 2, w ∈ lw_tbl := mm_inW (by decide +kernel)
theorem mm_f8 : ∀ w ∈ u_ws RX8 TX8 12, w ∈ lw_tbl := mm_inW (by decide +kernel)
theorem mm_f9 : ∀ w ∈ u_ws RX9 TX9 54, w ∈ lw_tbl := mm_inW (by decide +kernel)
theorem mm_arrC {s : State} {args : Array Value} {ty : FieldType} (h : (Cond.arrayClass ty).before args s = true) (hty : ty = .int ∨ ty = .boolean ∨ ty = .long) : ∃ cA : ClassId, ArrOfT s cA ty ∧ va_RA s cA ty := by
  obtain ⟨cA, k, comp, h1, h2, h3⟩ := Cond.arrayClass_spec h
  refine ⟨cA, fun n z => ⟨(fun k h => by cases h), k, h2, comp, h3⟩, ?_⟩
  rcases hty with rfl | rfl | rfl <;> exact h1
theorem mm_str {s : State} {args : Array Value} {own tx : String} {k : Nat} {C : String} (h1 : (Cond.stringRef own k tx).before args s = true) (h2 : (Cond.exactly (.string own k) C).before args s = true) : ∃ a : Nat, vk_R own k tx a s := by
  obtain ⟨a, c0, cell0, k0, h3, -⟩ := Cond.exactly_spec h2
  exact ⟨a, vk_R.of (A := args) h1 h3⟩
abbrev mm_law : mm_M := (yL_law, code, 7, ret, [], 12, 484)
set_option maxRecDepth 100000 in
set_option maxHeartbeats 4000000 in
theorem mm_start {p : Program} {e : Env} {s : State} {m : MethodId} {below : List Frame} {meth : Method} {c : Code} (l : Launch) {b L : Nat} {xs : Nat → Int32} (C0 : lw_At p s m meth c b L xs)
    (K : ∀ G : mm_G, G.2.2.2 = (b, L, xs) → mm_Ex l G mm_law (fun r h' => r = .inl (some (.int 1)) ∧ h'.2.2.1 ≤ 601024 ∧ h'.2.2.2 ≤ 7293034) 0 [.retAddr b, .null, .null, .null, .null, .null, .null] [] (fun _ => none, 0, 0, 0)) :
    W p l e room_1 s m #[Value.ref b] below meth c s.heap [] 0 0 (lw_Z below #[Value.ref b] s) (entryFrame m ([Value.ref b] : List Value).toArray 7) := by
  obtain ⟨hx, hb, hr, hml, hown, hts, hX, hbl, hlocks, hgv⟩ := id C0
  have hfl := flat_of_before _ hgv
  obtain ⟨c0, i0, hK0⟩ := u_known (C := RX0) (T := TX0) (N := 3) (n := 3) hts mm_f0 (hts (.instantiable RX0 3) (by decide +kernel))
  obtain ⟨c1, i1, hK1⟩ := u_known (C := RX1) (T := TX1) (N := 1) (n := 1) hts mm_f1 (hts (.instantiable RX1 1) (by decide +kernel))
  obtain ⟨c2, i2, hK2⟩ := u_known (C := RX2) (T := TX2) (N := 1) (n := 1) hts mm_f2 (hts (.instantiable RX2 1) (by decide +kernel))
  obtain ⟨c3, i3, hK3⟩ := u_known (C := RX3) (T := TX3) (N := 5) (n := 5) hts mm_f3 (hts (.instantiable RX3 5) (by decide +kernel))
  obtain ⟨c4, i4, hK4⟩ := u_known (C := RX4) (T := TX4) (N := 3) (n := 3) hts mm_f4 (hts (.instantiable RX4 3) (by decide +kernel))
  obtain ⟨c5, i5, hK5⟩ := u_known (C := RX5) (T := TX5) (N := 5) (n := 5) hts mm_f5 (hts (.instantiable RX5 5) (by decide +kernel))
  obtain ⟨c6, i6, hK6⟩ := u_known (C := RX6) (T := TX6) (N := 4) (n := 4) hts mm_f6 (hts (.instantiable RX6 4) (by decide +kernel))
  obtain ⟨c7, i7, hK7⟩ := u_known (C := RX7) (T := TX7) (N := 2) (n := 2) hts mm_f7 (hts (.instantiable RX7 2) (by decide +kernel))
  obtain ⟨c8, i8, hK8⟩ := u_known (C := RX8) (T := TX8) (N := 12) (n := 12) hts mm_f8 (hts (.instantiable RX8 12) (by decide +kernel))
  obtain ⟨c9, i9, hK9⟩ := u_known (C := RX9) (T := TX9) (N := 54) (n := 54) hts mm_f9 (hts (.instantiable RX9 54) (by decide +kernel))
  obtain ⟨dC, dI, hKc⟩ : ∃ (dC : Nat → ClassId) (dI : Nat → Nat → Nat), ∀ (k : Nat) (q : vw_C), vwCl[k]? = some q → u_Kn s q.1 q.2.1 q.2.2 (dC k) (dI k) := by
    refine ⟨fun k => match k with | 0 => c0 | 1 => c1 | 2 => c2 | 3 => c3 | 4 => c4 | 5 => c5 | 6 => c6 | 7 => c7 | 8 => c8 | _ => c9, fun k => match k with | 0 => i0 | 1 => i1 | 2 => i2 | 3 => i3 | 4 => i4 | 5 => i5 | 6 => i6 | 7 => i7 | 8 => i8 | _ => i9, ?_⟩
    intro k q hq
    match k, hq with
    | 0, hq => cases hq; exact hK0
    | 1, hq => cases hq; exact hK1
    | 2, hq => cases hq; exact hK2
    | 3, hq => cases hq; exact hK3
    | 4, hq => cases hq; exact hK4
    | 5, hq => cases hq; exact hK5
    | 6, hq => cases hq; exact hK6
    | 7, hq => cases hq; exact hK7
    | 8, hq => cases hq; exact hK8
    | 9, hq => cases hq; exact hK9
    | k + 10, hq => simp [vwCl] at hq
  obtain ⟨aI, hI⟩ := mm_arrC (hts (.arrayClass .int) (by decide +kernel)) (Or.inl rfl)
  obtain ⟨aZ, hZ⟩ := mm_arrC (hts (.arrayClass .boolean) (by decide +kernel)) (Or.inr (Or.inl rfl))
  obtain ⟨aJ, hJ⟩ := mm_arrC (hts (.arrayClass .long) (by decide +kernel)) (Or.inr (Or.inr rfl))
  obtain ⟨s1, hs1⟩ := mm_str (hts (.stringRef RX8 371 "an argument is out of its range") (by decide +kernel)) (hfl (.exactly (.string "CableShip" 371) "java/lang/String") (by decide +kernel))
  obtain ⟨s2, hs2⟩ := mm_str (hts (.stringRef RX8 378 "this cannot be done now") (by decide +kernel)) (hfl (.exactly (.string "CableShip" 378) "java/lang/String") (by decide +kernel))
  obtain ⟨s3, hs3⟩ := mm_str (hts (.stringRef RX8 383 "there is none of this number") (by decide +kernel)) (hfl (.exactly (.string "CableShip" 383) "java/lang/String") (by decide +kernel))
  obtain ⟨cA, hcA⟩ : ∃ cA : mm_A, cA .int = aI ∧ cA .boolean = aZ ∧ cA .long = aJ := ⟨fun t => match t with | .int => aI | .boolean => aZ | _ => aJ, rfl, rfl, rfl⟩
  obtain ⟨rfl, rfl, rfl⟩ := hcA
  let G : mm_G := ((dC, dI), cA, (s1, s2, s3), (b, L, xs))
  have hKK : va_K G.1 vwCl (mm_tys cA) s := by
    refine ⟨hKc, fun k q hq => ?_⟩
    match k, hq with
    | 0, hq => cases hq; exact hI
    | 1, hq => cases hq; exact hZ
    | 2, hq => cases hq; exact hJ
    | k + 3, hq => simp [mm_tys] at hq
  have hV : mm_V G s := ⟨hKK, hs1, hs2, hs3, va_Nc.of (hfl _ (by decide +kernel)), va_Nc.of (hfl _ (by decide +kernel)), fun w hw => va_Nw.of (mm_N_tab hw) (hts w (List.mem_filter.mp hw).1)⟩
  have hZ1 : mm_Z1 (fun q : Nat => s.heap.size ≤ q) s := ⟨vx_Zqof (hts _ (by decide +kernel)) (hts _ (by decide +kernel)) (hfl _ (by decide +kernel)) (fun a ha => Nat.not_le.mpr ha), vx_Zqof (hts _ (by decide +kernel)) (hts _ (by decide +kernel)) (hfl _ (by decide +kernel)) (fun a ha => Nat.not_le.mpr ha)⟩
  obtain ⟨r, h', ⟨k1, k2, k3⟩, rfl, b1, b2⟩ := K G rfl
  have X : mm_X G mm_law p room_1 s m #[Value.ref b] meth c (fun q : Nat => s.heap.size ≤ q) :=
    ⟨hx, hb, hml, fun w hw => hts w (List.mem_filter.mp hw).1, hown, hV, fun q hq => hq, hZ1, rfl, rfl, fun h => absurd rfl h, fun _ => ⟨hX, hbl, Nat.not_le.mpr hbl⟩⟩
  rw [lg_entry_eq]
  have hent : mm_l [] [.retAddr b, .null, .null, .null, .null, .null, .null] ((lg_sl [Value.ref b] ++ List.replicate (7 - (lg_sl [Value.ref b]).length) Slot.unset).toArray) := by
    have h := lv_entry [Value.ref b] (n := 7) (Nat.le_of_ble_eq_true rfl)
    refine ⟨h.2.1, h.1, fun k v hk g1 g2 => ?_⟩
    match k, hk with
    | 0, hk => cases hk; exact ⟨.ref b, h.2.2 (0, .ref b) (by simp [lv_args]), rfl, rfl⟩
    | 1, hk => cases hk; exact absurd rfl g2
    | 2, hk => cases hk; exact absurd rfl g2
    | 3, hk => cases hk; exact absurd rfl g2
    | 4, hk => cases hk; exact absurd rfl g2
    | 5, hk => cases hk; exact absurd rfl g2
    | 6, hk => cases hk; exact absurd rfl g2
    | k + 7, hk => simp at hk
  refine k3 p e room_1 s m _ below meth c _ [] _ X ⟨fun ws H locs cells slots L9 hS => ⟨fun x9 pc hr9 _ hd => ?_, (fun o a E pc hr9 => nomatch hr9), (fun pc hr9 => nomatch hr9), (fun E pc rest q9 ce hr9 => nomatch hr9)⟩, (fun E pc h9 ws H locs cells slots L9 hlt hr9 => nomatch hr9)⟩ [] s.heap [] 0 0 _ [] ⟨fun k q h => by simp at h, ⟨fun i j p q h => by simp at h, fun k q h => by simp at h⟩, va_S.rf, ⟨rfl, fun k e9 he => by cases he⟩, mm_k.refl [], ?_, ?_⟩ hent rfl rfl
  · cases hr9
    refine va_forget (fun q hq => hS.2.2.1.2.2 q hq) ?_
    have g1 := hS.2.2.2.2.2.1
    have g2 := hS.2.2.2.2.2.2
    refine W.widen (k := 601024) (n := 7293034) (by show cells ≤ room_1.cells; omega) (by show slots ≤ room_1.slots; omega) ?_
    exact lw_ret hx hb hr hlocks hd
  · show 0 + h'.2.2.1 ≤ 601024 + 0; omega
  · show 0 + h'.2.2.2 ≤ 7293034 + 0; omega
end
section
theorem mm_ws_in {M : mm_M} (h : Cond.code M.1 M.2.1 M.2.2.1 M.2.2.2.1 ∈ mm_W) : ∀ w ∈ mm_ws M, w ∈ mm_W := fun w hw => (List.mem_cons.mp hw).elim (fun e => by rw [e]; exact h) id
def mm_MV (M : mm_M) (ci n : Nat) : Prop := mm_wsx M = mm_ws M ∧ Cond.instanceMethod M.1 ∈ mm_W ∧ Cond.selects M.1.cls M.1 M.1 ∈ mm_W ∧ Cond.initialized M.1.cls ∈ mm_W ∧ Cond.code M.1 M.2.1 M.2.2.1 M.2.2.2.1 ∈ mm_W ∧ mm_nm M.1 n ∧ (vwCl[ci]?.map (fun q => q.1)) = some M.1.cls
theorem mm_kv {own : String} {idx ci n : Nat} {M' : mm_M} (h : mm_MV M' ci n) (hl : Cond.methodLink own idx M'.1 ∈ mm_W) : mm_LV own idx M' ci n :=
  ⟨h.1, fun w hw => by
    rcases List.mem_append.mp hw with hw | hw
    · simp only [List.mem_cons, List.not_mem_nil, or_false] at hw
      rcases hw with rfl | rfl | rfl | rfl
      · exact hl
      · exact h.2.1
      · exact h.2.2.1
      · exact h.2.2.2.1
    · exact mm_ws_in h.2.2.2.2.1 w hw, h.2.2.2.2.2.1, h.2.2.2.2.2.2⟩
def mm_MS (M : mm_M) (n : Nat) : Prop := mm_wsx M = mm_ws M ∧ Cond.static M.1 ∈ mm_W ∧ Cond.initialized M.1.cls ∈ mm_W ∧ Cond.code M.1 M.2.1 M.2.2.1 M.2.2.2.1 ∈ mm_W ∧ mm_nm M.1 n
theorem mm_ks {own : String} {idx n : Nat} {M' : mm_M} (h : mm_MS M' n) (hl : Cond.methodLink own idx M'.1 ∈ mm_W) : mm_LS own idx M' n :=
  ⟨h.1, fun w hw => by
    rcases List.mem_append.mp hw with hw | hw
    · simp only [List.mem_cons, List.not_mem_nil, or_false] at hw
      rcases hw with rfl | rfl | rfl
      · exact hl
      · exact h.2.1
      · exact h.2.2.1
    · exact mm_ws_in h.2.2.2.1 w hw, h.2.2.2.2⟩
theorem mm_ksn {own host : String} {idx n : Nat} {M' : mm_M} (h : mm_MS M' n) (hl : Cond.methodLinkNest own idx M'.1 host ∈ mm_N) : mm_LSN own idx M' host n :=
  ⟨h.1, mm_ws_in h.2.2.2.1, h.2.2.1, hl, h.2.1, h.2.2.2.2⟩
def mm_MI (M : mm_M) (n : Nat) : Prop := mm_wsx M = mm_ws M ∧ Cond.instanceMethod M.1 ∈ mm_W ∧ Cond.initialized M.1.cls ∈ mm_W ∧ Cond.code M.1 M.2.1 M.2.2.1 M.2.2.2.1 ∈ mm_W ∧ mm_nm M.1 n ∧ M.1.name = "<init>" ∧ M.2.2.2.1 = none
theorem mm_ki {own : String} {idx n : Nat} {M' : mm_M} (h : mm_MI M' n) (hl : Cond.methodLink own idx M'.1 ∈ mm_W) : mm_LI own idx M' n :=
  ⟨h.1, mm_ws_in h.2.2.2.1, h.2.2.1, hl, h.2.1, h.2.2.2.2.2.1, h.2.2.2.2.1, h.2.2.2.2.2.2⟩
theorem mm_kin {own host : String} {idx n : Nat} {M' : mm_M} (h : mm_MI M' n) (hl : Cond.methodLinkNest own idx M'.1 host ∈ mm_N) : mm_LIN own idx M' host n :=
  ⟨h.1, mm_ws_in h.2.2.2.1, h.2.2.1, hl, h.2.1, h.2.2.2.2.2.1, h.2.2.2.2.1, h.2.2.2.2.2.2⟩
def mm_MSW (M : mm_M) (n : Nat) : Prop := mm_wsx M = mm_wsH M ∧ Cond.static M.1 ∈ mm_W ∧ Cond.initialized M.1.cls ∈ mm_W ∧ Cond.codeWith M.1 M.2.1 M.2.2.1 M.2.2.2.1 M.2.2.2.2.1 ∈ mm_W ∧ mm_nm M.1 n
theorem mm_ksw {own : String} {idx n : Nat} {M' : mm_M} (h : mm_MSW M' n) (hl : Cond.methodLink own idx M'.1 ∈ mm_W) : mm_wsx M' = mm_wsH M' ∧ mm_LSW own idx M' n :=
  ⟨h.1, fun w hw => by
    rcases List.mem_append.mp hw with hw | hw
    · simp only [List.mem_cons, List.not_mem_nil, or_false] at hw
      rcases hw with rfl | rfl | rfl
      · exact hl
      · exact h.2.1
      · exact h.2.2.1
    · exact (List.mem_cons.mp hw).elim (fun e => by rw [e]; exact h.2.2.2.1) id, h.2.2.2.2⟩
theorem mm_t1 {w : Cond} {i : Nat} (h : tables_1_1[i]? = some w) : w ∈ lw_tbl := List.mem_append_right _ (show w ∈ tables_1 from (List.mem_append_left _ (List.mem_of_getElem? h)))
theorem mm_t2 {w : Cond} {i : Nat} (h : tables_1_2[i]? = some w) : w ∈ lw_tbl := List.mem_append_right _ (show w ∈ tables_1 from (List.mem_append_right _ (List.mem_append_left _ (List.mem_of_getElem? h))))
theorem mm_t3 {w : Cond} {i : Nat} (h : tables_1_3[i]? = some w) : w ∈ lw_tbl := List.mem_append_right _ (show w ∈ tables_1 from (List.mem_append_right _ (List.mem_append_right _ (List.mem_append_left _ (List.mem_of_getElem? h)))))
theorem mm_t4 {w : Cond} {i : Nat} (h : tables_1_4[i]? = some w) : w ∈ lw_tbl := List.mem_append_right _ (show w ∈ tables_1 from (List.mem_append_right _ (List.mem_append_right _ (List.mem_append_right _ (List.mem_append_left _ (List.mem_of_getElem? h))))))
theorem mm_t5 {w : Cond} {i : Nat} (h : tables_1_5[i]? = some w) : w ∈ lw_tbl := List.mem_append_right _ (show w ∈ tables_1 from (List.mem_append_right _ (List.mem_append_right _ (List.mem_append_right _ (List.mem_append_right _ (List.mem_append_left _ (List.mem_of_getElem? h)))))))
theorem mm_t6 {w : Cond} {i : Nat} (h : tables_1_6[i]? = some w) : w ∈ lw_tbl := List.mem_append_right _ (show w ∈ tables_1 from (List.mem_append_right _ (List.mem_append_right _ (List.mem_append_right _ (List.mem_append_right _ (List.mem_append_right _ (List.mem_append_left _ (List.mem_of_getElem? h))))))))
theorem mm_t7 {w : Cond} {i : Nat} (h : tables_1_7[i]? = some w) : w ∈ lw_tbl := List.mem_append_right _ (show w ∈ tables_1 from (List.mem_append_right _ (List.mem_append_right _ (List.mem_append_right _ (List.mem_append_right _ (List.mem_append_right _ (List.mem_append_right _ (List.mem_of_getElem? h))))))))
theorem mm_t0 {w : Cond} {i : Nat} (h : (k2_sels lw_privs)[i]? = some w) : w ∈ lw_tbl := List.mem_append_left _ (List.mem_of_getElem? h)
theorem mm_in0 {w : Cond} (i : Nat) (h : (k2_sels lw_privs)[i]? = some w) (hg : goodWord w = true) : w ∈ mm_W := List.mem_filter.mpr ⟨mm_t0 h, hg⟩
theorem mm_inN0 {w : Cond} (i : Nat) (h : (k2_sels lw_privs)[i]? = some w) (hg : mm_isN w = true) : w ∈ mm_N := List.mem_filter.mpr ⟨mm_t0 h, hg⟩
theorem mm_in1 {w : Cond} (i : Nat) (h : tables_1_1[i]? = some w) (hg : goodWord w = true) : w ∈ mm_W := List.mem_filter.mpr ⟨mm_t1 h, hg⟩
theorem mm_inN1 {w : Cond} (i : Nat) (h : tables_1_1[i]? = some w) (hg : mm_isN w = true) : w ∈ mm_N := List.mem_filter.mpr ⟨mm_t1 h, hg⟩
theorem mm_in2 {w : Cond} (i : Nat) (h : tables_1_2[i]? = some w) (hg : goodWord w = true) : w ∈ mm_W := List.mem_filter.mpr ⟨mm_t2 h, hg⟩
theorem mm_inN2 {w : Cond} (i : Nat) (h : tables_1_2[i]? = some w) (hg : mm_isN w = true) : w ∈ mm_N := List.mem_filter.mpr ⟨mm_t2 h, hg⟩
theorem mm_in3 {w : Cond} (i : Nat) (h : tables_1_3[i]? = some w) (hg : goodWord w = true) : w ∈ mm_W := List.mem_filter.mpr ⟨mm_t3 h, hg⟩
theorem mm_inN3 {w : Cond} (i : Nat) (h : tables_1_3[i]? = some w) (hg : mm_isN w = true) : w ∈ mm_N := List.mem_filter.mpr ⟨mm_t3 h, hg⟩
theorem mm_in4 {w : Cond} (i : Nat) (h : tables_1_4[i]? = some w) (hg : goodWord w = true) : w ∈ mm_W := List.mem_filter.mpr ⟨mm_t4 h, hg⟩
theorem mm_inN4 {w : Cond} (i : Nat) (h : tables_1_4[i]? = some w) (hg : mm_isN w = true) : w ∈ mm_N := List.mem_filter.mpr ⟨mm_t4 h, hg⟩
theorem mm_in5 {w : Cond} (i : Nat) (h : tables_1_5[i]? = some w) (hg : goodWord w = true) : w ∈ mm_W := List.mem_filter.mpr ⟨mm_t5 h, hg⟩
theorem mm_inN5 {w : Cond} (i : Nat) (h : tables_1_5[i]? = some w) (hg : mm_isN w = true) : w ∈ mm_N := List.mem_filter.mpr ⟨mm_t5 h, hg⟩
theorem mm_in6 {w : Cond} (i : Nat) (h : tables_1_6[i]? = some w) (hg : goodWord w = true) : w ∈ mm_W := List.mem_filter.mpr ⟨mm_t6 h, hg⟩
theorem mm_inN6 {w : Cond} (i : Nat) (h : tables_1_6[i]? = some w) (hg : mm_isN w = true) : w ∈ mm_N := List.mem_filter.mpr ⟨mm_t6 h, hg⟩
theorem mm_in7 {w : Cond} (i : Nat) (h : tables_1_7[i]? = some w) (hg : goodWord w = true) : w ∈ mm_W := List.mem_filter.mpr ⟨mm_t7 h, hg⟩
theorem mm_inN7 {w : Cond} (i : Nat) (h : tables_1_7[i]? = some w) (hg : mm_isN w = true) : w ∈ mm_N := List.mem_filter.mpr ⟨mm_t7 h, hg⟩
abbrev mX0_init : mm_M := (yX0_init, cX0_init, 1, none, [], 1, 14)
theorem i_X0_init : mm_MI mX0_init 0 := ⟨rfl, (mm_in1 55 (by decide +kernel) rfl), (mm_in1 4 (by decide +kernel) rfl), (mm_in1 56 (by decide +kernel) rfl), ⟨by decide +kernel, by decide +kernel, by decide +kernel⟩, rfl, rfl⟩
abbrev mX0_nextDay : mm_M := (yX0_nextDay, cX0_nextDay, 1, none, [], 0, 0)
theorem i_X0_nextDay : mm_MV mX0_nextDay 0 0 := ⟨rfl, (mm_in3 105 (by decide +kernel) rfl), (mm_in3 106 (by decide +kernel) rfl), (mm_in1 4 (by decide +kernel) rfl), (mm_in3 107 (by decide +kernel) rfl), ⟨by decide +kernel, by decide +kernel, by decide +kernel⟩, rfl⟩
abbrev mX0_wavesToday : mm_M := (yX0_wavesToday, cX0_wavesToday, 1, (some .int), [], 0, 0)
theorem i_X0_wavesToday : mm_MV mX0_wavesToday 0 0 := ⟨rfl, (mm_in2 132 (by decide +kernel) rfl), (mm_in2 133 (by decide +kernel) rfl), (mm_in1 4 (by decide +kernel) rfl), (mm_in2 134 (by decide +kernel) rfl), ⟨by decide +kernel, by decide +kernel, by decide +kernel⟩, rfl⟩
abbrev mX0_isForWork : mm_M := (yX0_isForWork, cX0_isForWork, 1, (some .boolean), [], 1, 20)
theorem i_X0_isForWork : mm_MV mX0_isForWork 0 0 := ⟨rfl, (mm_in2 140 (by decide +kernel) rfl), (mm_in2 141 (by decide +kernel) rfl), (mm_in1 4 (by decide +kernel) rfl), (mm_in2 142 (by decide +kernel) rfl), ⟨by decide +kernel, by decide +kernel, by decide +kernel⟩, rfl⟩
abbrev mX7_init : mm_M := (yX7_init, cX7_init, 1, none, [], 1, 14)
theorem i_X7_init : mm_MI mX7_init 0 := ⟨rfl, (mm_in1 80 (by decide +kernel) rfl), (mm_in1 6 (by decide +kernel) rfl), (mm_in1 81 (by decide +kernel) rfl), ⟨by decide +kernel, by decide +kernel, by decide +kernel⟩, rfl, rfl⟩
abbrev mX1_init : mm_M := (yX1_init, cX1_init, 1, none, [], 2, 34)
theorem i_X1_init : mm_MI mX1_init 0 := ⟨rfl, (mm_in1 126 (by decide +kernel) rfl), (mm_in1 8 (by decide +kernel) rfl), (mm_in1 127 (by decide +kernel) rfl), ⟨by decide +kernel, by decide +kernel, by decide +kernel⟩, rfl, rfl⟩
abbrev mJ7_copyOf_59c91 : mm_M := (yJ7_copyOf_59c91, cJ7_copyOf_59c91, 3, (some (.array .int)), [], 1, 25)
theorem i_J7_copyOf_59c91 : mm_MS mJ7_copyOf_59c91 2 := ⟨rfl, (mm_in1 184 (by decide +kernel) rfl), (mm_in1 3 (by decide +kernel) rfl), (mm_in1 185 (by decide +kernel) rfl), ⟨by decide +kernel, by decide +kernel, by decide +kernel⟩⟩
abbrev mX7_insert : mm_M := (yX7_insert, cX7_insert, 8, none, [], 2, 47)
theorem i_X7_insert : mm_MV mX7_insert 7 5 := ⟨rfl, (mm_in1 179 (by decide +kernel) rfl), (mm_in1 180 (by decide +kernel) rfl), (mm_in1 6 (by decide +kernel) rfl), (mm_in1 181 (by decide +kernel) rfl), ⟨by decide +kernel, by decide +kernel, by decide +kernel⟩, rfl⟩
abbrev mX7_add : mm_M := (yX7_add, cX7_add, 5, none, [], 3, 74)
theorem i_X7_add : mm_MV mX7_add 7 4 := ⟨rfl, (mm_in1 175 (by decide +kernel) rfl), (mm_in1 176 (by decide +kernel) rfl), (mm_in1 6 (by decide +kernel) rfl), (mm_in1 177 (by decide +kernel) rfl), ⟨by decide +kernel, by decide +kernel, by decide +kernel⟩, rfl⟩
abbrev mX1_putIn : mm_M := (yX1_putIn, cX1_putIn, 5, none, [], 4, 98)
theorem i_X1_putIn : mm_MV mX1_putIn 1 4 := ⟨rfl, (mm_in4 5 (by decide +kernel) rfl), (mm_in4 6 (by decide +kernel) rfl), (mm_in1 8 (by decide +kernel) rfl), (mm_in4 7 (by decide +kernel) rfl), ⟨by decide +kernel, by decide +kernel, by decide +kernel⟩, rfl⟩
abbrev mX1_cutOut : mm_M := (yX1_cutOut, cX1_cutOut, 3, none, [], 4, 98)
theorem i_X1_cutOut : mm_MV mX1_cutOut 1 2 := ⟨rfl, (mm_in3 119 (by decide +kernel) rfl), (mm_in3 120 (by decide +kernel) rfl), (mm_in1 8 (by decide +kernel) rfl), (mm_in3 121 (by decide +kernel) rfl), ⟨by decide +kernel, by decide +kernel, by decide +kernel⟩, rfl⟩
abbrev mX7_get : mm_M := (yX7_get, cX7_get, 4, (some .int), [], 0, 0)
theorem i_X7_get : mm_MV mX7_get 7 2 := ⟨rfl, (mm_in2 22 (by decide +kernel) rfl), (mm_in2 23 (by decide +kernel) rfl), (mm_in1 6 (by decide +kernel) rfl), (mm_in2 24 (by decide +kernel) rfl), ⟨by decide +kernel, by decide +kernel, by decide +kernel⟩, rfl⟩
abbrev mX1_metreAt : mm_M := (yX1_metreAt, cX1_metreAt, 7, (some .int), [], 1, 23)
theorem i_X1_metreAt : mm_MV mX1_metreAt 1 1 := ⟨rfl, (mm_in5 24 (by decide +kernel) rfl), (mm_in5 25 (by decide +kernel) rfl), (mm_in1 8 (by decide +kernel) rfl), (mm_in5 26 (by decide +kernel) rfl), ⟨by decide +kernel, by decide +kernel, by decide +kernel⟩, rfl⟩
abbrev mX2_init : mm_M := (yX2_init, cX2_init, 1, none, [], 2, 34)
theorem i_X2_init : mm_MI mX2_init 0 := ⟨rfl, (mm_in1 157 (by decide +kernel) rfl), (mm_in1 9 (by decide +kernel) rfl), (mm_in1 158 (by decide +kernel) rfl), ⟨by decide +kernel, by decide +kernel, by decide +kernel⟩, rfl, rfl⟩
abbrev mX2_size : mm_M := (yX2_size, cX2_size, 1, (some .int), [], 0, 0)
theorem i_X2_size : mm_MV mX2_size 2 0 := ⟨rfl, (mm_in2 169 (by decide +kernel) rfl), (mm_in2 170 (by decide +kernel) rfl), (mm_in1 9 (by decide +kernel) rfl), (mm_in2 171 (by decide +kernel) rfl), ⟨by decide +kernel, by decide +kernel, by decide +kernel⟩, rfl⟩
abbrev mX2_enter : mm_M := (yX2_enter, cX2_enter, 4, none, [], 4, 98)
theorem i_X2_enter : mm_MV mX2_enter 2 3 := ⟨rfl, (mm_in4 67 (by decide +kernel) rfl), (mm_in4 68 (by decide +kernel) rfl), (mm_in1 9 (by decide +kernel) rfl), (mm_in4 69 (by decide +kernel) rfl), ⟨by decide +kernel, by decide +kernel, by decide +kernel⟩, rfl⟩
abbrev mX2_placeOf : mm_M := (yX2_placeOf, cX2_placeOf, 2, (some .int), [], 1, 23)
theorem i_X2_placeOf : mm_MV mX2_placeOf 2 1 := ⟨rfl, (mm_in4 99 (by decide +kernel) rfl), (mm_in4 100 (by decide +kernel) rfl), (mm_in1 9 (by decide +kernel) rfl), (mm_in4 101 (by decide +kernel) rfl), ⟨by decide +kernel, by decide +kernel, by decide +kernel⟩, rfl⟩
abbrev mX2_tell : mm_M := (yX2_tell, cX2_tell, 3, (some .int), [], 1, 23)
theorem i_X2_tell : mm_MV mX2_tell 2 2 := ⟨rfl, (mm_in5 37 (by decide +kernel) rfl), (mm_in5 38 (by decide +kernel) rfl), (mm_in1 9 (by decide +kernel) rfl), (mm_in5 39 (by decide +kernel) rfl), ⟨by decide +kernel, by decide +kernel, by decide +kernel⟩, rfl⟩
abbrev mX7_set : mm_M := (yX7_set, cX7_set, 5, none, [], 0, 0)
theorem i_X7_set : mm_MV mX7_set 7 3 := ⟨rfl, (mm_in2 83 (by decide +kernel) rfl), (mm_in2 84 (by decide +kernel) rfl), (mm_in1 6 (by decide +kernel) rfl), (mm_in2 85 (by decide +kernel) rfl), ⟨by decide +kernel, by decide +kernel, by decide +kernel⟩, rfl⟩
abbrev mX2_beginAnew : mm_M := (yX2_beginAnew, cX2_beginAnew, 3, none, [], 1, 24)
theorem i_X2_beginAnew : mm_MV mX2_beginAnew 2 1 := ⟨rfl, (mm_in3 139 (by decide +kernel) rfl), (mm_in3 140 (by decide +kernel) rfl), (mm_in1 9 (by decide +kernel) rfl), (mm_in3 141 (by decide +kernel) rfl), ⟨by decide +kernel, by decide +kernel, by decide +kernel⟩, rfl⟩
abbrev mX7_remove : mm_M := (yX7_remove, cX7_remove, 4, none, [], 1, 25)
theorem i_X7_remove : mm_MV mX7_remove 7 1 := ⟨rfl, (mm_in3 130 (by decide +kernel) rfl), (mm_in3 131 (by decide +kernel) rfl), (mm_in1 6 (by decide +kernel) rfl), (mm_in3 132 (by decide +kernel) rfl), ⟨by decide +kernel, by decide +kernel, by decide +kernel⟩, rfl⟩
abbrev mX2_dropFrom : mm_M := (yX2_dropFrom, cX2_dropFrom, 3, none, [], 2, 48)
theorem i_X2_dropFrom : mm_MV mX2_dropFrom 2 1 := ⟨rfl, (mm_in3 134 (by decide +kernel) rfl), (mm_in3 135 (by decide +kernel) rfl), (mm_in1 9 (by decide +kernel) rfl), (mm_in3 136 (by decide +kernel) rfl), ⟨by decide +kernel, by decide +kernel, by decide +kernel⟩, rfl⟩
abbrev mX2_cutOut : mm_M := (yX2_cutOut, cX2_cutOut, 7, (some .int), [], 2, 48)
theorem i_X2_cutOut : mm_MV mX2_cutOut 2 3 := ⟨rfl, (mm_in4 135 (by decide +kernel) rfl), (mm_in4 136 (by decide +kernel) rfl), (mm_in1 9 (by decide +kernel) rfl), (mm_in4 137 (by decide +kernel) rfl), ⟨by decide +kernel, by decide +kernel, by decide +kernel⟩, rfl⟩
abbrev mX2_hasBreak : mm_M := (yX2_hasBreak, cX2_hasBreak, 2, (some .boolean), [], 1, 23)
theorem i_X2_hasBreak : mm_MV mX2_hasBreak 2 0 := ⟨rfl, (mm_in2 34 (by decide +kernel) rfl), (mm_in2 35 (by decide +kernel) rfl), (mm_in1 9 (by decide +kernel) rfl), (mm_in2 36 (by decide +kernel) rfl), ⟨by decide +kernel, by decide +kernel, by decide +kernel⟩, rfl⟩
abbrev mX2_firstShunt : mm_M := (yX2_firstShunt, cX2_firstShunt, 4, (some .int), [], 1, 23)
theorem i_X2_firstShunt : mm_MV mX2_firstShunt 2 0 := ⟨rfl, (mm_in2 43 (by decide +kernel) rfl), (mm_in2 44 (by decide +kernel) rfl), (mm_in1 9 (by decide +kernel) rfl), (mm_in2 45 (by decide +kernel) rfl), ⟨by decide +kernel, by decide +kernel, by decide +kernel⟩, rfl⟩
abbrev mX2_lastShunt : mm_M := (yX2_lastShunt, cX2_lastShunt, 3, (some .int), [], 1, 23)
theorem i_X2_lastShunt : mm_MV mX2_lastShunt 2 0 := ⟨rfl, (mm_in2 56 (by decide +kernel) rfl), (mm_in2 57 (by decide +kernel) rfl), (mm_in1 9 (by decide +kernel) rfl), (mm_in2 58 (by decide +kernel) rfl), ⟨by decide +kernel, by decide +kernel, by decide +kernel⟩, rfl⟩
abbrev mX2_nearest : mm_M := (yX2_nearest, cX2_nearest, 7, (some .int), [], 2, 44)
theorem i_X2_nearest : mm_MV mX2_nearest 2 2 := ⟨rfl, (mm_in4 95 (by decide +kernel) rfl), (mm_in4 96 (by decide +kernel) rfl), (mm_in1 9 (by decide +kernel) rfl), (mm_in4 97 (by decide +kernel) rfl), ⟨by decide +kernel, by decide +kernel, by decide +kernel⟩, rfl⟩
abbrev mX2_narrow : mm_M := (yX2_narrow, cX2_narrow, 4, none, [], 1, 24)
theorem i_X2_narrow : mm_MV mX2_narrow 2 3 := ⟨rfl, (mm_in4 109 (by decide +kernel) rfl), (mm_in4 110 (by decide +kernel) rfl), (mm_in1 9 (by decide +kernel) rfl), (mm_in4 111 (by decide +kernel) rfl), ⟨by decide +kernel, by decide +kernel, by decide +kernel⟩, rfl⟩
abbrev mX3_init : mm_M := (yX3_init, cX3_init, 1, none, [], 2, 34)
theorem i_X3_init : mm_MI mX3_init 0 := ⟨rfl, (mm_in1 74 (by decide +kernel) rfl), (mm_in1 5 (by decide +kernel) rfl), (mm_in1 75 (by decide +kernel) rfl), ⟨by decide +kernel, by decide +kernel, by decide +kernel⟩, rfl, rfl⟩
abbrev mX3_stow : mm_M := (yX3_stow, cX3_stow, 5, (some .int), [], 4, 98)
theorem i_X3_stow : mm_MV mX3_stow 3 3 := ⟨rfl, (mm_in3 158 (by decide +kernel) rfl), (mm_in3 159 (by decide +kernel) rfl), (mm_in1 5 (by decide +kernel) rfl), (mm_in3 160 (by decide +kernel) rfl), ⟨by decide +kernel, by decide +kernel, by decide +kernel⟩, rfl⟩
end
